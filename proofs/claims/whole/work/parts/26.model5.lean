/-! the reference's face: the rest -/
def rRunKey (σ : xS) (x y : Int32) : Int32 × xS :=
  if bz (rLv σ x) = 0 then (0, xu σ 14 0 1) else if bz (rWk x) = 0 then (if bz (rIn y 0 15) = 0 then (0, xu σ 14 0 2)
    else (if 192 ≤ rPl x + y then 0 else if σ 15 (xn (rPl x + y)) < 0 then 0 else if σ 17 (xn (rPl x + y)) = σ 17 (xn (rPl x)) then (if σ 23 (xn (σ 15 (xn (rPl x + y)))) = 2 then 0 else 1024 * σ 16 (xn (rPl x + y)) + 2 * (rPl x + y)) else 0, xu σ 14 0 0))
  else (0, xu σ 14 0 2)
def rPage (σ : xS) (x y : Int32) : Int32 × xS :=
  if bz (rBk σ x) = 0 then (0, xu σ 14 0 1) else if bz (rIn y 0 (nI (rOwn σ x) - 1)) = 0 then (0, xu σ 14 0 1) else if xu σ 14 0 0 23 (xn x) = 2 then (0, xu σ 14 0 0)
  else (1024 * σ 16 (xn (rPg (xu σ 14 0 0) x y)) + 2 * rPg (xu σ 14 0 0) x y, xu σ 14 0 0)
def rToldV (σ : xS) (x y : Int32) : Int32 :=
  if y.toInt = 0 then rUse σ x else if y.toInt = 1 then nI (rOwn σ x) else if y.toInt = 2 then σ 24 (xn x) else if y.toInt = 3 then σ 22 (xn x) else if y.toInt = 4 then σ 21 (xn x) else if y.toInt = 5 then nI (rDep σ x) else if y.toInt = 6 then σ 23 (xn x) else nI (xcn (rTU σ x) 40)
def rTold (σ : xS) (x y : Int32) : Int32 × xS :=
  if bz (rBk σ x) = 0 then (0, xu σ 14 0 1) else if bz (rIn y 0 7) = 0 then (0, xu σ 14 0 2) else (rToldV (xu σ 14 0 0) x y, xu σ 14 0 0)
def rHuF (x p : Int32) : Nat → xS → xS
  | 0, σ => σ
  | f + 1, σ => rHuF x p f (rGive σ (rPg σ x 0) p)
def rHpF (x p : Int32) : Nat → Nat → xS → xS
  | 0, _, σ => σ
  | f + 1, i, σ => rHpF x p f (i + 1) (xu σ 21 i (if ¬ σ 20 i = 0 ∧ σ 21 i = x then p else σ 21 i))
def rHu1 (σ : xS) (x : Int32) : xS := rHuF x (σ 21 (xn x)) (rOwn σ x) (xu σ 14 0 (rWr σ x))
def rHu2 (σ : xS) (x : Int32) : xS := xu (rHu1 σ x) 24 (xn (σ 21 (xn x))) (rHu1 σ x 24 (xn (σ 21 (xn x))) + rHu1 σ x 24 (xn x))
def rHuS (σ : xS) (x : Int32) : xS := xu (rHpF x (σ 21 (xn x)) 40 0 (rHu2 σ x)) 20 (xn x) 0
def rHandUp (σ : xS) (x : Int32) : Int32 × xS := if xu σ 14 0 (rWr σ x) 14 0 ≤ 0 then (nI (rOwn σ x), rHuS σ x) else (0, xu σ 14 0 (rWr σ x))
def rCnP (σ : xS) (y : Int32) (p : Nat) : Bool := if y = 0 then rFr σ p else if y = 1 then !decide (0 ≤ σ 15 p) && (σ 16 p == 7) else !decide (σ 15 p < 0)
def rCount (σ : xS) (y : Int32) : Int32 := if y = 3 then nI (xcn (rTU σ 0) 40) else if bz (rIn y 0 2) = 0 then -1 else nI (xcn (rCnP σ y) 192)
section XModel5
variable {E : xE} {σ : xS} {x y v n : Int32}
theorem c_M_runKey (hw : rvOK σ) : XC E i_M_runKey 3 0 0 [.ref (xB E + 14), .int x, .int y] (xm σ) (xrn (rRunKey σ x y)) := by
  refine XC.ofF (by decide +kernel) cd_M_runKey rfl (xle rfl) ?_
  have q2 : ¬ bz (rLv σ x) = 0 → ¬ bz (rIn y 0 15) = 0 → ¬ rPl x + y < 0 := fun h h1 => by
    obtain ⟨g1, g2⟩ := vp_in_iff.mp (rLv_in h).1
    have h0 : (0 : Int32).toInt = 0 := by decide
    have h15 : (15 : Int32).toInt = 15 := by decide
    rw [bz_z, Bool.not_eq_false] at h1
    simp only [rIn, Bool.and_eq_true, Bool.not_eq_true', decide_eq_false_iff_not, Int32.lt_iff_toInt_lt, h0, h15] at h1
    rw [Int32.lt_iff_toInt_lt, h0, tiA (by omega) (by omega)]
    omega
  have q3 : ¬ bz (rLv σ x) = 0 → ¬ bz (rIn y 0 15) = 0 → ¬ 192 ≤ rPl x + y → vp_in (rPl x + y) 192 := fun a b c => vp_in_lt (q2 a b) c (by decide)
  have res : ¬ bz (rLv σ x) = 0 → bz (rWk x) = 0 → ¬ bz (rIn y 0 15) = 0 → ∀ r : Int32, r = (if 192 ≤ rPl x + y then 0 else if σ 15 (xn (rPl x + y)) < 0 then 0 else if σ 17 (xn (rPl x + y)) = σ 17 (xn (rPl x)) then (if σ 23 (xn (σ 15 (xn (rPl x + y)))) = 2 then 0 else 1024 * σ 16 (xn (rPl x + y)) + 2 * (rPl x + y)) else 0) → xrn (rRunKey σ x y) (.inl (some (.int r))) (xm (xu σ 14 0 0)) := fun a b c r hr => ⟨by rw [rRunKey, if_neg a, if_pos b, if_neg c, hr], by rw [rRunKey, if_neg a, if_pos b, if_neg c]⟩
  have g1 : 192 ≤ rPl x + y → (0 : Int32) = (if 192 ≤ rPl x + y then 0 else if σ 15 (xn (rPl x + y)) < 0 then 0 else if σ 17 (xn (rPl x + y)) = σ 17 (xn (rPl x)) then (if σ 23 (xn (σ 15 (xn (rPl x + y)))) = 2 then 0 else 1024 * σ 16 (xn (rPl x + y)) + 2 * (rPl x + y)) else 0) := fun a => by rw [if_pos a]
  have g2 : ¬ 192 ≤ rPl x + y → σ 15 (xn (rPl x + y)) < 0 → (0 : Int32) = (if 192 ≤ rPl x + y then 0 else if σ 15 (xn (rPl x + y)) < 0 then 0 else if σ 17 (xn (rPl x + y)) = σ 17 (xn (rPl x)) then (if σ 23 (xn (σ 15 (xn (rPl x + y)))) = 2 then 0 else 1024 * σ 16 (xn (rPl x + y)) + 2 * (rPl x + y)) else 0) := fun a b => by rw [if_neg a, if_pos b]
  have g3 : ¬ 192 ≤ rPl x + y → ¬ σ 15 (xn (rPl x + y)) < 0 → ¬ σ 17 (xn (rPl x + y)) = σ 17 (xn (rPl x)) → (0 : Int32) = (if 192 ≤ rPl x + y then 0 else if σ 15 (xn (rPl x + y)) < 0 then 0 else if σ 17 (xn (rPl x + y)) = σ 17 (xn (rPl x)) then (if σ 23 (xn (σ 15 (xn (rPl x + y)))) = 2 then 0 else 1024 * σ 16 (xn (rPl x + y)) + 2 * (rPl x + y)) else 0) := fun a b c => by rw [if_neg a, if_neg b, if_neg c]
  have g4 : ¬ 192 ≤ rPl x + y → ¬ σ 15 (xn (rPl x + y)) < 0 → σ 17 (xn (rPl x + y)) = σ 17 (xn (rPl x)) → σ 23 (xn (σ 15 (xn (rPl x + y)))) = 2 → (0 : Int32) = (if 192 ≤ rPl x + y then 0 else if σ 15 (xn (rPl x + y)) < 0 then 0 else if σ 17 (xn (rPl x + y)) = σ 17 (xn (rPl x)) then (if σ 23 (xn (σ 15 (xn (rPl x + y)))) = 2 then 0 else 1024 * σ 16 (xn (rPl x + y)) + 2 * (rPl x + y)) else 0) := fun a b c d => by rw [if_neg a, if_neg b, if_pos c, if_pos d]
  have g5 : ¬ 192 ≤ rPl x + y → ¬ σ 15 (xn (rPl x + y)) < 0 → σ 17 (xn (rPl x + y)) = σ 17 (xn (rPl x)) → ¬ σ 23 (xn (σ 15 (xn (rPl x + y)))) = 2 → 1024 * σ 16 (xn (rPl x + y)) + 2 * (rPl x + y) = (if 192 ≤ rPl x + y then 0 else if σ 15 (xn (rPl x + y)) < 0 then 0 else if σ 17 (xn (rPl x + y)) = σ 17 (xn (rPl x)) then (if σ 23 (xn (σ 15 (xn (rPl x + y)))) = 2 then 0 else 1024 * σ 16 (xn (rPl x + y)) + 2 * (rPl x + y)) else 0) := fun a b c d => by rw [if_neg a, if_neg b, if_pos c, if_neg d]
  refine XR.aload_n d_M_runKey_0 rfl ?_
  refine XR.aload_n d_M_runKey_1 rfl ?_
  refine XR.iload_n d_M_runKey_2 rfl ?_
  refine XR.cV (as := [_]) d_M_runKey_3 l_M_106 kv_M_lives (c_M_lives hw) rfl (xle rfl) rfl rfl (xle rfl) (xle rfl) ?_
  refine XR.if_ne d_M_runKey_6 (tgt := 13) (by decide) (fun h6 => ?_) (fun h6 => ?_)
  · refine XR.iload_n d_M_runKey_13 rfl ?_
    refine XR.cS (as := [_]) d_M_runKey_14 l_M_109 ks_M_isWeak (c_M_isWeak) rfl (xle rfl) (xle rfl) ?_
    refine XR.if_ne d_M_runKey_17 (tgt := 30) (by decide) (fun h17 => ?_) (fun h17 => ?_)
    · refine XR.iconst d_M_runKey_30 (v := 2) (by decide) ?_
      refine XR.goto d_M_runKey_31 (tgt := 35) (by decide) ?_
      refine XR.putfield d_M_runKey_35 (xle rfl) (fun _ => rfl) rfl uin_M tyM_ok nmM (fk := 0) (xle rfl) f_M_45 rfl rfl (fun _ => rfl) (fun _ => xle rfl) ?_
      refine XR.aload_n d_M_runKey_38 rfl ?_
      refine XR.getint d_M_runKey_39 (xle rfl) rfl rfl uin_M (fk := 0) (xle rfl) f_M_45 rfl ?_
      refine XR.if_le d_M_runKey_42 (tgt := 47) (by decide) (fun h => absurd h (show ¬ (2 : Int32) ≤ 0 by decide)) (fun _ => ?_)
      refine XR.iconst d_M_runKey_45 (v := 0) (by decide) ?_
      refine XR.xreturn d_M_runKey_46 rfl ?_
      exact ⟨by rw [rRunKey, if_neg h6, if_neg h17] <;> rfl, by rw [rRunKey, if_neg h6, if_neg h17] <;> rfl⟩
    refine XR.iload_n d_M_runKey_20 rfl ?_
    refine XR.iconst d_M_runKey_21 (v := 0) (by decide) ?_
    refine XR.bipush d_M_runKey_22 (v := 15) (by decide) ?_
    refine XR.cS (as := [_, _, _]) d_M_runKey_24 l_M_48 ks_M_in (c_M_in) rfl (xle rfl) (xle rfl) ?_
    refine XR.if_ne d_M_runKey_27 (tgt := 34) (by decide) (fun h27 => ?_) (fun h27 => ?_)
    · refine XR.iconst d_M_runKey_34 (v := 0) (by decide) ?_
      refine XR.putfield d_M_runKey_35 (xle rfl) (fun _ => rfl) rfl uin_M tyM_ok nmM (fk := 0) (xle rfl) f_M_45 rfl rfl (fun _ => rfl) (fun _ => xle rfl) ?_
      refine XR.aload_n d_M_runKey_38 rfl ?_
      refine XR.getint d_M_runKey_39 (xle rfl) rfl rfl uin_M (fk := 0) (xle rfl) f_M_45 rfl ?_
      refine XR.if_le d_M_runKey_42 (tgt := 47) (by decide) (fun _ => ?_) (fun h => absurd (show (0 : Int32) ≤ 0 by decide) h)
      refine XR.iload_n d_M_runKey_47 rfl ?_
      refine XR.cS (as := [_]) d_M_runKey_48 l_M_103 ks_M_placeOf (c_M_placeOf) rfl (xle rfl) (xle rfl) ?_
      refine XR.iload_n d_M_runKey_51 rfl ?_
      refine XR.iadd d_M_runKey_52 ?_
      refine XR.istore_n d_M_runKey_53 (xle rfl) rfl ?_
      refine XR.iload_n d_M_runKey_54 rfl ?_
      refine XR.sipush d_M_runKey_55 (v := 192) (by decide) ?_
      refine XR.icmp_ge d_M_runKey_58 (tgt := 107) (by decide) (fun h58 => ?_) (fun h58 => ?_)
      · refine XR.iconst d_M_runKey_107 (v := bz false) (by decide) ?_
        refine XR.istore d_M_runKey_108 (xle rfl) rfl ?_
        refine XR.iload d_M_runKey_110 rfl ?_
        first | (refine XR.if_eq d_M_runKey_112 (tgt := 128) (by decide) (fun _ => ?_) (fun h => absurd rfl h); refine XR.iconst d_M_runKey_128 (v := 0) (by decide) ?_; refine XR.xreturn d_M_runKey_129 rfl ?_; first | exact res h6 h17 h27 _ (g1 h58) | exact res h6 h17 h27 _ (g2 h58 h67) | exact res h6 h17 h27 _ (g3 h58 h67 h85) | exact res h6 h17 h27 _ (g4 h58 h67 h85 h100)) | (refine XR.if_eq d_M_runKey_112 (tgt := 128) (by decide) (fun h => absurd h (by decide)) (fun _ => ?_); refine XR.aload_n d_M_runKey_115 rfl ?_; refine XR.getref d_M_runKey_116 (xle rfl) rfl rfl uin_M (fk := 2) (xle rfl) f_M_13 rfl (xle rfl) ?_; refine XR.iload_n d_M_runKey_119 rfl ?_; refine XR.iaload d_M_runKey_120 (xle rfl) (fun _ => rfl) (q3 h6 h27 h58) ?_; refine XR.iload_n d_M_runKey_121 rfl ?_; refine XR.cS (as := [_, _]) d_M_runKey_122 l_M_96 ks_M_keyOf (c_M_keyOf) rfl (xle rfl) (xle rfl) ?_; refine XR.goto d_M_runKey_125 (tgt := 129) (by decide) ?_; refine XR.xreturn d_M_runKey_129 rfl ?_; exact res h6 h17 h27 _ (g5 h58 h67 h85 h100))
      refine XR.aload_n d_M_runKey_61 rfl ?_
      refine XR.getref d_M_runKey_62 (xle rfl) rfl rfl uin_M (fk := 1) (xle rfl) f_M_7 rfl (xle rfl) ?_
      refine XR.iload_n d_M_runKey_65 rfl ?_
      refine XR.iaload d_M_runKey_66 (xle rfl) (fun _ => rfl) (q3 h6 h27 h58) ?_
      refine XR.if_lt d_M_runKey_67 (tgt := 107) (by decide) (fun h67 => ?_) (fun h67 => ?_)
      · refine XR.iconst d_M_runKey_107 (v := bz false) (by decide) ?_
        refine XR.istore d_M_runKey_108 (xle rfl) rfl ?_
        refine XR.iload d_M_runKey_110 rfl ?_
        first | (refine XR.if_eq d_M_runKey_112 (tgt := 128) (by decide) (fun _ => ?_) (fun h => absurd rfl h); refine XR.iconst d_M_runKey_128 (v := 0) (by decide) ?_; refine XR.xreturn d_M_runKey_129 rfl ?_; first | exact res h6 h17 h27 _ (g1 h58) | exact res h6 h17 h27 _ (g2 h58 h67) | exact res h6 h17 h27 _ (g3 h58 h67 h85) | exact res h6 h17 h27 _ (g4 h58 h67 h85 h100)) | (refine XR.if_eq d_M_runKey_112 (tgt := 128) (by decide) (fun h => absurd h (by decide)) (fun _ => ?_); refine XR.aload_n d_M_runKey_115 rfl ?_; refine XR.getref d_M_runKey_116 (xle rfl) rfl rfl uin_M (fk := 2) (xle rfl) f_M_13 rfl (xle rfl) ?_; refine XR.iload_n d_M_runKey_119 rfl ?_; refine XR.iaload d_M_runKey_120 (xle rfl) (fun _ => rfl) (q3 h6 h27 h58) ?_; refine XR.iload_n d_M_runKey_121 rfl ?_; refine XR.cS (as := [_, _]) d_M_runKey_122 l_M_96 ks_M_keyOf (c_M_keyOf) rfl (xle rfl) (xle rfl) ?_; refine XR.goto d_M_runKey_125 (tgt := 129) (by decide) ?_; refine XR.xreturn d_M_runKey_129 rfl ?_; exact res h6 h17 h27 _ (g5 h58 h67 h85 h100))
      refine XR.aload_n d_M_runKey_70 rfl ?_
      refine XR.getref d_M_runKey_71 (xle rfl) rfl rfl uin_M (fk := 3) (xle rfl) f_M_16 rfl (xle rfl) ?_
      refine XR.iload_n d_M_runKey_74 rfl ?_
      refine XR.iaload d_M_runKey_75 (xle rfl) (fun _ => rfl) (q3 h6 h27 h58) ?_
      refine XR.aload_n d_M_runKey_76 rfl ?_
      refine XR.getref d_M_runKey_77 (xle rfl) rfl rfl uin_M (fk := 3) (xle rfl) f_M_16 rfl (xle rfl) ?_
      refine XR.iload_n d_M_runKey_80 rfl ?_
      refine XR.cS (as := [_]) d_M_runKey_81 l_M_103 ks_M_placeOf (c_M_placeOf) rfl (xle rfl) (xle rfl) ?_
      refine XR.iaload d_M_runKey_84 (xle rfl) (fun _ => rfl) (rLv_in h6).1 ?_
      refine XR.icmp_ne d_M_runKey_85 (tgt := 107) (by decide) (fun h85 => ?_) (fun h85 => ?_)
      · refine XR.iconst d_M_runKey_107 (v := bz false) (by decide) ?_
        refine XR.istore d_M_runKey_108 (xle rfl) rfl ?_
        refine XR.iload d_M_runKey_110 rfl ?_
        first | (refine XR.if_eq d_M_runKey_112 (tgt := 128) (by decide) (fun _ => ?_) (fun h => absurd rfl h); refine XR.iconst d_M_runKey_128 (v := 0) (by decide) ?_; refine XR.xreturn d_M_runKey_129 rfl ?_; first | exact res h6 h17 h27 _ (g1 h58) | exact res h6 h17 h27 _ (g2 h58 h67) | exact res h6 h17 h27 _ (g3 h58 h67 h85) | exact res h6 h17 h27 _ (g4 h58 h67 h85 h100)) | (refine XR.if_eq d_M_runKey_112 (tgt := 128) (by decide) (fun h => absurd h (by decide)) (fun _ => ?_); refine XR.aload_n d_M_runKey_115 rfl ?_; refine XR.getref d_M_runKey_116 (xle rfl) rfl rfl uin_M (fk := 2) (xle rfl) f_M_13 rfl (xle rfl) ?_; refine XR.iload_n d_M_runKey_119 rfl ?_; refine XR.iaload d_M_runKey_120 (xle rfl) (fun _ => rfl) (q3 h6 h27 h58) ?_; refine XR.iload_n d_M_runKey_121 rfl ?_; refine XR.cS (as := [_, _]) d_M_runKey_122 l_M_96 ks_M_keyOf (c_M_keyOf) rfl (xle rfl) (xle rfl) ?_; refine XR.goto d_M_runKey_125 (tgt := 129) (by decide) ?_; refine XR.xreturn d_M_runKey_129 rfl ?_; exact res h6 h17 h27 _ (g5 h58 h67 h85 h100))
      refine XR.aload_n d_M_runKey_88 rfl ?_
      refine XR.getref d_M_runKey_89 (xle rfl) rfl rfl uin_M (fk := 11) (xle rfl) f_M_35 rfl (xle rfl) ?_
      refine XR.aload_n d_M_runKey_92 rfl ?_
      refine XR.getref d_M_runKey_93 (xle rfl) rfl rfl uin_M (fk := 1) (xle rfl) f_M_7 rfl (xle rfl) ?_
      refine XR.iload_n d_M_runKey_96 rfl ?_
      refine XR.iaload d_M_runKey_97 (xle rfl) (fun _ => rfl) (q3 h6 h27 h58) ?_
      refine XR.iaload d_M_runKey_98 (xle rfl) (fun _ => rfl) (hw _ (vp_in_xn (q3 h6 h27 h58)) h67) ?_
      refine XR.iconst d_M_runKey_99 (v := 2) (by decide) ?_
      refine XR.icmp_eq d_M_runKey_100 (tgt := 107) (by decide) (fun h100 => ?_) (fun h100 => ?_)
      · refine XR.iconst d_M_runKey_107 (v := bz false) (by decide) ?_
        refine XR.istore d_M_runKey_108 (xle rfl) rfl ?_
        refine XR.iload d_M_runKey_110 rfl ?_
        first | (refine XR.if_eq d_M_runKey_112 (tgt := 128) (by decide) (fun _ => ?_) (fun h => absurd rfl h); refine XR.iconst d_M_runKey_128 (v := 0) (by decide) ?_; refine XR.xreturn d_M_runKey_129 rfl ?_; first | exact res h6 h17 h27 _ (g1 h58) | exact res h6 h17 h27 _ (g2 h58 h67) | exact res h6 h17 h27 _ (g3 h58 h67 h85) | exact res h6 h17 h27 _ (g4 h58 h67 h85 h100)) | (refine XR.if_eq d_M_runKey_112 (tgt := 128) (by decide) (fun h => absurd h (by decide)) (fun _ => ?_); refine XR.aload_n d_M_runKey_115 rfl ?_; refine XR.getref d_M_runKey_116 (xle rfl) rfl rfl uin_M (fk := 2) (xle rfl) f_M_13 rfl (xle rfl) ?_; refine XR.iload_n d_M_runKey_119 rfl ?_; refine XR.iaload d_M_runKey_120 (xle rfl) (fun _ => rfl) (q3 h6 h27 h58) ?_; refine XR.iload_n d_M_runKey_121 rfl ?_; refine XR.cS (as := [_, _]) d_M_runKey_122 l_M_96 ks_M_keyOf (c_M_keyOf) rfl (xle rfl) (xle rfl) ?_; refine XR.goto d_M_runKey_125 (tgt := 129) (by decide) ?_; refine XR.xreturn d_M_runKey_129 rfl ?_; exact res h6 h17 h27 _ (g5 h58 h67 h85 h100))
      refine XR.iconst d_M_runKey_103 (v := bz true) (by decide) ?_
      refine XR.goto d_M_runKey_104 (tgt := 108) (by decide) ?_
      refine XR.istore d_M_runKey_108 (xle rfl) rfl ?_
      refine XR.iload d_M_runKey_110 rfl ?_
      first | (refine XR.if_eq d_M_runKey_112 (tgt := 128) (by decide) (fun _ => ?_) (fun h => absurd rfl h); refine XR.iconst d_M_runKey_128 (v := 0) (by decide) ?_; refine XR.xreturn d_M_runKey_129 rfl ?_; first | exact res h6 h17 h27 _ (g1 h58) | exact res h6 h17 h27 _ (g2 h58 h67) | exact res h6 h17 h27 _ (g3 h58 h67 h85) | exact res h6 h17 h27 _ (g4 h58 h67 h85 h100)) | (refine XR.if_eq d_M_runKey_112 (tgt := 128) (by decide) (fun h => absurd h (by decide)) (fun _ => ?_); refine XR.aload_n d_M_runKey_115 rfl ?_; refine XR.getref d_M_runKey_116 (xle rfl) rfl rfl uin_M (fk := 2) (xle rfl) f_M_13 rfl (xle rfl) ?_; refine XR.iload_n d_M_runKey_119 rfl ?_; refine XR.iaload d_M_runKey_120 (xle rfl) (fun _ => rfl) (q3 h6 h27 h58) ?_; refine XR.iload_n d_M_runKey_121 rfl ?_; refine XR.cS (as := [_, _]) d_M_runKey_122 l_M_96 ks_M_keyOf (c_M_keyOf) rfl (xle rfl) (xle rfl) ?_; refine XR.goto d_M_runKey_125 (tgt := 129) (by decide) ?_; refine XR.xreturn d_M_runKey_129 rfl ?_; exact res h6 h17 h27 _ (g5 h58 h67 h85 h100))
    refine XR.iconst d_M_runKey_30 (v := 2) (by decide) ?_
    refine XR.goto d_M_runKey_31 (tgt := 35) (by decide) ?_
    refine XR.putfield d_M_runKey_35 (xle rfl) (fun _ => rfl) rfl uin_M tyM_ok nmM (fk := 0) (xle rfl) f_M_45 rfl rfl (fun _ => rfl) (fun _ => xle rfl) ?_
    refine XR.aload_n d_M_runKey_38 rfl ?_
    refine XR.getint d_M_runKey_39 (xle rfl) rfl rfl uin_M (fk := 0) (xle rfl) f_M_45 rfl ?_
    refine XR.if_le d_M_runKey_42 (tgt := 47) (by decide) (fun h => absurd h (show ¬ (2 : Int32) ≤ 0 by decide)) (fun _ => ?_)
    refine XR.iconst d_M_runKey_45 (v := 0) (by decide) ?_
    refine XR.xreturn d_M_runKey_46 rfl ?_
    exact ⟨by rw [rRunKey, if_neg h6, if_pos h17, if_pos h27] <;> rfl, by rw [rRunKey, if_neg h6, if_pos h17, if_pos h27] <;> rfl⟩
  refine XR.iconst d_M_runKey_9 (v := 1) (by decide) ?_
  refine XR.goto d_M_runKey_10 (tgt := 35) (by decide) ?_
  refine XR.putfield d_M_runKey_35 (xle rfl) (fun _ => rfl) rfl uin_M tyM_ok nmM (fk := 0) (xle rfl) f_M_45 rfl rfl (fun _ => rfl) (fun _ => xle rfl) ?_
  refine XR.aload_n d_M_runKey_38 rfl ?_
  refine XR.getint d_M_runKey_39 (xle rfl) rfl rfl uin_M (fk := 0) (xle rfl) f_M_45 rfl ?_
  refine XR.if_le d_M_runKey_42 (tgt := 47) (by decide) (fun h => absurd h (show ¬ (1 : Int32) ≤ 0 by decide)) (fun _ => ?_)
  refine XR.iconst d_M_runKey_45 (v := 0) (by decide) ?_
  refine XR.xreturn d_M_runKey_46 rfl ?_
  exact ⟨by rw [rRunKey, if_pos h6] <;> rfl, by rw [rRunKey, if_pos h6] <;> rfl⟩
theorem c_M_page (hpg : ¬ bz (rBk σ x) = 0 → ¬ bz (rIn y 0 (nI (rOwn σ x) - 1)) = 0 → ¬ xu σ 14 0 0 23 (xn x) = 2 → vp_in (rPg (xu σ 14 0 0) x y) 192) : XC E i_M_page 3 0 0 [.ref (xB E + 14), .int x, .int y] (xm σ) (xrn (rPage σ x y)) := by
  refine XC.ofF (by decide +kernel) cd_M_page rfl (xle rfl) ?_
  refine XR.aload_n d_M_page_0 rfl ?_
  refine XR.aload_n d_M_page_1 rfl ?_
  refine XR.iload_n d_M_page_2 rfl ?_
  refine XR.cV (as := [_]) d_M_page_3 l_M_63 kv_M_isBank (c_M_isBank) rfl (xle rfl) rfl rfl (xle rfl) (xle rfl) ?_
  refine XR.if_eq d_M_page_6 (tgt := 28) (by decide) (fun h6 => ?_) (fun h6 => ?_)
  · refine XR.iconst d_M_page_28 (v := 1) (by decide) ?_
    refine XR.putfield d_M_page_29 (xle rfl) (fun _ => rfl) rfl uin_M tyM_ok nmM (fk := 0) (xle rfl) f_M_45 rfl rfl (fun _ => rfl) (fun _ => xle rfl) ?_
    refine XR.aload_n d_M_page_32 rfl ?_
    refine XR.getint d_M_page_33 (xle rfl) rfl rfl uin_M (fk := 0) (xle rfl) f_M_45 rfl ?_
    refine XR.if_gt d_M_page_36 (tgt := 49) (by decide) (fun _ => ?_) (fun h => absurd (show (0 : Int32) < 1 by decide) h)
    refine XR.iconst d_M_page_49 (v := 0) (by decide) ?_
    refine XR.xreturn d_M_page_50 rfl ?_
    exact ⟨by rw [rPage, if_pos h6] <;> rfl, by rw [rPage, if_pos h6] <;> rfl⟩
  refine XR.iload_n d_M_page_9 rfl ?_
  refine XR.iconst d_M_page_10 (v := 0) (by decide) ?_
  refine XR.aload_n d_M_page_11 rfl ?_
  refine XR.iload_n d_M_page_12 rfl ?_
  refine XR.cV (as := [_]) d_M_page_13 l_M_56 kv_M_owned (c_M_owned) rfl (xle rfl) rfl rfl (xle rfl) (xle rfl) ?_
  refine XR.iconst d_M_page_16 (v := 1) (by decide) ?_
  refine XR.isub d_M_page_17 ?_
  refine XR.cS (as := [_, _, _]) d_M_page_18 l_M_48 ks_M_in (c_M_in) rfl (xle rfl) (xle rfl) ?_
  refine XR.if_eq d_M_page_21 (tgt := 28) (by decide) (fun h21 => ?_) (fun h21 => ?_)
  · refine XR.iconst d_M_page_28 (v := 1) (by decide) ?_
    refine XR.putfield d_M_page_29 (xle rfl) (fun _ => rfl) rfl uin_M tyM_ok nmM (fk := 0) (xle rfl) f_M_45 rfl rfl (fun _ => rfl) (fun _ => xle rfl) ?_
    refine XR.aload_n d_M_page_32 rfl ?_
    refine XR.getint d_M_page_33 (xle rfl) rfl rfl uin_M (fk := 0) (xle rfl) f_M_45 rfl ?_
    refine XR.if_gt d_M_page_36 (tgt := 49) (by decide) (fun _ => ?_) (fun h => absurd (show (0 : Int32) < 1 by decide) h)
    refine XR.iconst d_M_page_49 (v := 0) (by decide) ?_
    refine XR.xreturn d_M_page_50 rfl ?_
    exact ⟨by rw [rPage, if_neg h6, if_pos h21] <;> rfl, by rw [rPage, if_neg h6, if_pos h21] <;> rfl⟩
  refine XR.iconst d_M_page_24 (v := 0) (by decide) ?_
  refine XR.goto d_M_page_25 (tgt := 29) (by decide) ?_
  refine XR.putfield d_M_page_29 (xle rfl) (fun _ => rfl) rfl uin_M tyM_ok nmM (fk := 0) (xle rfl) f_M_45 rfl rfl (fun _ => rfl) (fun _ => xle rfl) ?_
  refine XR.aload_n d_M_page_32 rfl ?_
  refine XR.getint d_M_page_33 (xle rfl) rfl rfl uin_M (fk := 0) (xle rfl) f_M_45 rfl ?_
  refine XR.if_gt d_M_page_36 (tgt := 49) (by decide) (fun h => absurd h (show ¬ (0 : Int32) < 0 by decide)) (fun _ => ?_)
  refine XR.aload_n d_M_page_39 rfl ?_
  refine XR.getref d_M_page_40 (xle rfl) rfl rfl uin_M (fk := 11) (xle rfl) f_M_35 rfl (xle rfl) ?_
  refine XR.iload_n d_M_page_43 rfl ?_
  refine XR.iaload d_M_page_44 (xle rfl) (fun _ => rfl) (rBk_in h6) ?_
  refine XR.iconst d_M_page_45 (v := 2) (by decide) ?_
  refine XR.icmp_ne d_M_page_46 (tgt := 51) (by decide) (fun h46 => ?_) (fun h46 => ?_)
  · refine XR.aload_n d_M_page_51 rfl ?_
    refine XR.iload_n d_M_page_52 rfl ?_
    refine XR.iload_n d_M_page_53 rfl ?_
    refine XR.cV (as := [_, _]) d_M_page_54 l_M_128 kv_M_placeOfPage (c_M_placeOfPage) rfl (xle rfl) rfl rfl (xle rfl) (xle rfl) ?_
    refine XR.istore_n d_M_page_57 (xle rfl) rfl ?_
    refine XR.aload_n d_M_page_58 rfl ?_
    refine XR.getref d_M_page_59 (xle rfl) rfl rfl uin_M (fk := 2) (xle rfl) f_M_13 rfl (xle rfl) ?_
    refine XR.iload_n d_M_page_62 rfl ?_
    refine XR.iaload d_M_page_63 (xle rfl) (fun _ => rfl) (hpg h6 h21 h46) ?_
    refine XR.iload_n d_M_page_64 rfl ?_
    refine XR.cS (as := [_, _]) d_M_page_65 l_M_96 ks_M_keyOf (c_M_keyOf) rfl (xle rfl) (xle rfl) ?_
    refine XR.xreturn d_M_page_68 rfl ?_
    exact ⟨by rw [rPage, if_neg h6, if_neg h21, if_neg h46] <;> rfl, by rw [rPage, if_neg h6, if_neg h21, if_neg h46] <;> rfl⟩
  refine XR.iconst d_M_page_49 (v := 0) (by decide) ?_
  refine XR.xreturn d_M_page_50 rfl ?_
  exact ⟨by rw [rPage, if_neg h6, if_neg h21, if_pos h46] <;> rfl, by rw [rPage, if_neg h6, if_neg h21, if_pos h46] <;> rfl⟩
theorem c_M_told (hr : rOK σ) : XC E i_M_told 4 0 0 [.ref (xB E + 14), .int x, .int y] (xm σ) (xrn (rTold σ x y)) := by
  refine XC.ofF (by decide +kernel) cd_M_told rfl (xle rfl) ?_
  have hr0 : rOK (xu σ 14 0 0) := hr.of rfl rfl
  have q : ¬ bz (rBk σ x) = 0 → rCh (xu σ 14 0 0) 7 ((xu σ 14 0 0) 21 (xn x)) := fun h => by
    obtain ⟨j, hj, rfl, h0⟩ := rBk_th h
    rcases (hr j hj h0 : rCh σ 7 (nI j)) with h7 | ⟨-, h7⟩
    · exact absurd h7 (nI_pos (by omega))
    · exact rCh.of rfl (rCh_up h7)
  have sw : ¬ bz (rBk σ x) = 0 → ¬ bz (rIn y 0 7) = 0 → XR E i_M_told 4 0 0 (xrn (rTold σ x y)) 41 [.ref (xB E + 14), .int x, .int y] [.int y] (xm (xu σ 14 0 0)) := by
    intro h6 h20
    have hin : 0 ≤ y.toInt ∧ y.toInt ≤ 7 := by
      have h0 : (0 : Int32).toInt = 0 := by decide
      have h7 : (7 : Int32).toInt = 7 := by decide
      rw [bz_z, Bool.not_eq_false] at h20
      simp only [rIn, Bool.and_eq_true, Bool.not_eq_true', decide_eq_false_iff_not, Int32.lt_iff_toInt_lt, h0, h7] at h20
      omega
    have hc : ∀ r : Int32, r = rToldV (xu σ 14 0 0) x y → xrn (rTold σ x y) (.inl (some (.int r))) (xm (xu σ 14 0 0)) := fun r hr => ⟨by rw [rTold, if_neg h6, if_neg h20, hr], by rw [rTold, if_neg h6, if_neg h20]⟩
    have h8 : y.toInt = 0 ∨ y.toInt = 1 ∨ y.toInt = 2 ∨ y.toInt = 3 ∨ y.toInt = 4 ∨ y.toInt = 5 ∨ y.toInt = 6 ∨ y.toInt = 7 := by omega
    rcases h8 with e | e | e | e | e | e | e | e
    · refine XR.tableIn d_M_told_41 (off := 43) (tgt := 84) (by omega) (by omega) (by rw [e]; rfl) (by decide) ?_
      refine XR.aload_n d_M_told_84 rfl ?_
      refine XR.iload_n d_M_told_85 rfl ?_
      refine XR.cV (as := [_]) d_M_told_86 l_M_60 kv_M_useOf (c_M_useOf hr0) rfl (xle rfl) rfl rfl (xle rfl) (xle rfl) ?_
      refine XR.xreturn d_M_told_89 rfl ?_
      exact hc _ (by rw [rToldV, if_pos e])
    · refine XR.tableIn d_M_told_41 (off := 49) (tgt := 90) (by omega) (by omega) (by rw [e]; rfl) (by decide) ?_
      refine XR.aload_n d_M_told_90 rfl ?_
      refine XR.iload_n d_M_told_91 rfl ?_
      refine XR.cV (as := [_]) d_M_told_92 l_M_56 kv_M_owned (c_M_owned) rfl (xle rfl) rfl rfl (xle rfl) (xle rfl) ?_
      refine XR.xreturn d_M_told_95 rfl ?_
      exact hc _ (by rw [rToldV, if_neg (by omega), if_pos e])
    · refine XR.tableIn d_M_told_41 (off := 55) (tgt := 96) (by omega) (by omega) (by rw [e]; rfl) (by decide) ?_
      refine XR.aload_n d_M_told_96 rfl ?_
      refine XR.getref d_M_told_97 (xle rfl) rfl rfl uin_M (fk := 12) (xle rfl) f_M_38 rfl (xle rfl) ?_
      refine XR.iload_n d_M_told_100 rfl ?_
      refine XR.iaload d_M_told_101 (xle rfl) (fun _ => rfl) (rBk_in h6) ?_
      refine XR.xreturn d_M_told_102 rfl ?_
      exact hc _ (by rw [rToldV, if_neg (by omega), if_neg (by omega), if_pos e])
    · refine XR.tableIn d_M_told_41 (off := 62) (tgt := 103) (by omega) (by omega) (by rw [e]; rfl) (by decide) ?_
      refine XR.aload_n d_M_told_103 rfl ?_
      refine XR.getref d_M_told_104 (xle rfl) rfl rfl uin_M (fk := 10) (xle rfl) f_M_32 rfl (xle rfl) ?_
      refine XR.iload_n d_M_told_107 rfl ?_
      refine XR.iaload d_M_told_108 (xle rfl) (fun _ => rfl) (rBk_in h6) ?_
      refine XR.xreturn d_M_told_109 rfl ?_
      exact hc _ (by rw [rToldV, if_neg (by omega), if_neg (by omega), if_neg (by omega), if_pos e])
    · refine XR.tableIn d_M_told_41 (off := 69) (tgt := 110) (by omega) (by omega) (by rw [e]; rfl) (by decide) ?_
      refine XR.aload_n d_M_told_110 rfl ?_
      refine XR.getref d_M_told_111 (xle rfl) rfl rfl uin_M (fk := 9) (xle rfl) f_M_29 rfl (xle rfl) ?_
      refine XR.iload_n d_M_told_114 rfl ?_
      refine XR.iaload d_M_told_115 (xle rfl) (fun _ => rfl) (rBk_in h6) ?_
      refine XR.xreturn d_M_told_116 rfl ?_
      exact hc _ (by rw [rToldV, if_neg (by omega), if_neg (by omega), if_neg (by omega), if_neg (by omega), if_pos e])
    · refine XR.tableIn d_M_told_41 (off := 76) (tgt := 117) (by omega) (by omega) (by rw [e]; rfl) (by decide) ?_
      refine XR.aload_n d_M_told_117 rfl ?_
      refine XR.iload_n d_M_told_118 rfl ?_
      refine XR.cV (as := [_]) d_M_told_119 l_M_70 kv_M_depthOf (c_M_depthOf (rBk_in h6) (q h6)) rfl (xle rfl) rfl rfl (xle rfl) (xle rfl) ?_
      refine XR.xreturn d_M_told_122 rfl ?_
      exact hc _ (by rw [rToldV, if_neg (by omega), if_neg (by omega), if_neg (by omega), if_neg (by omega), if_neg (by omega), if_pos e])
    · refine XR.tableIn d_M_told_41 (off := 82) (tgt := 123) (by omega) (by omega) (by rw [e]; rfl) (by decide) ?_
      refine XR.aload_n d_M_told_123 rfl ?_
      refine XR.getref d_M_told_124 (xle rfl) rfl rfl uin_M (fk := 11) (xle rfl) f_M_35 rfl (xle rfl) ?_
      refine XR.iload_n d_M_told_127 rfl ?_
      refine XR.iaload d_M_told_128 (xle rfl) (fun _ => rfl) (rBk_in h6) ?_
      refine XR.xreturn d_M_told_129 rfl ?_
      exact hc _ (by rw [rToldV, if_neg (by omega), if_neg (by omega), if_neg (by omega), if_neg (by omega), if_neg (by omega), if_neg (by omega), if_pos e])
    · refine XR.tableOut d_M_told_41 (Or.inr (by omega)) (tgt := 130) (by decide) ?_
      refine XR.aload_n d_M_told_130 rfl ?_
      refine XR.iload_n d_M_told_131 rfl ?_
      refine XR.cV (as := [_]) d_M_told_132 l_M_131 kv_M_banksUnder (c_M_banksUnder hr0) rfl (xle rfl) rfl rfl (xle rfl) (xle rfl) ?_
      refine XR.xreturn d_M_told_135 rfl ?_
      exact hc _ (by rw [rToldV, if_neg (by omega), if_neg (by omega), if_neg (by omega), if_neg (by omega), if_neg (by omega), if_neg (by omega), if_neg (by omega)])
  refine XR.aload_n d_M_told_0 rfl ?_
  refine XR.aload_n d_M_told_1 rfl ?_
  refine XR.iload_n d_M_told_2 rfl ?_
  refine XR.cV (as := [_]) d_M_told_3 l_M_63 kv_M_isBank (c_M_isBank) rfl (xle rfl) rfl rfl (xle rfl) (xle rfl) ?_
  refine XR.if_ne d_M_told_6 (tgt := 13) (by decide) (fun h6 => ?_) (fun h6 => ?_)
  · refine XR.iload_n d_M_told_13 rfl ?_
    refine XR.iconst d_M_told_14 (v := 0) (by decide) ?_
    refine XR.bipush d_M_told_15 (v := 7) (by decide) ?_
    refine XR.cS (as := [_, _, _]) d_M_told_17 l_M_48 ks_M_in (c_M_in) rfl (xle rfl) (xle rfl) ?_
    refine XR.if_eq d_M_told_20 (tgt := 27) (by decide) (fun h20 => ?_) (fun h20 => ?_)
    · refine XR.iconst d_M_told_27 (v := 2) (by decide) ?_
      refine XR.putfield d_M_told_28 (xle rfl) (fun _ => rfl) rfl uin_M tyM_ok nmM (fk := 0) (xle rfl) f_M_45 rfl rfl (fun _ => rfl) (fun _ => xle rfl) ?_
      refine XR.aload_n d_M_told_31 rfl ?_
      refine XR.getint d_M_told_32 (xle rfl) rfl rfl uin_M (fk := 0) (xle rfl) f_M_45 rfl ?_
      refine XR.if_le d_M_told_35 (tgt := 40) (by decide) (fun h => absurd h (show ¬ (2 : Int32) ≤ 0 by decide)) (fun _ => ?_)
      refine XR.iconst d_M_told_38 (v := 0) (by decide) ?_
      refine XR.xreturn d_M_told_39 rfl ?_
      exact ⟨by rw [rTold, if_neg h6, if_pos h20] <;> rfl, by rw [rTold, if_neg h6, if_pos h20] <;> rfl⟩
    refine XR.iconst d_M_told_23 (v := 0) (by decide) ?_
    refine XR.goto d_M_told_24 (tgt := 28) (by decide) ?_
    refine XR.putfield d_M_told_28 (xle rfl) (fun _ => rfl) rfl uin_M tyM_ok nmM (fk := 0) (xle rfl) f_M_45 rfl rfl (fun _ => rfl) (fun _ => xle rfl) ?_
    refine XR.aload_n d_M_told_31 rfl ?_
    refine XR.getint d_M_told_32 (xle rfl) rfl rfl uin_M (fk := 0) (xle rfl) f_M_45 rfl ?_
    refine XR.if_le d_M_told_35 (tgt := 40) (by decide) (fun _ => ?_) (fun h => absurd (show (0 : Int32) ≤ 0 by decide) h)
    refine XR.iload_n d_M_told_40 rfl ?_
    exact sw h6 h20
  refine XR.iconst d_M_told_9 (v := 1) (by decide) ?_
  refine XR.goto d_M_told_10 (tgt := 28) (by decide) ?_
  refine XR.putfield d_M_told_28 (xle rfl) (fun _ => rfl) rfl uin_M tyM_ok nmM (fk := 0) (xle rfl) f_M_45 rfl rfl (fun _ => rfl) (fun _ => xle rfl) ?_
  refine XR.aload_n d_M_told_31 rfl ?_
  refine XR.getint d_M_told_32 (xle rfl) rfl rfl uin_M (fk := 0) (xle rfl) f_M_45 rfl ?_
  refine XR.if_le d_M_told_35 (tgt := 40) (by decide) (fun h => absurd h (show ¬ (1 : Int32) ≤ 0 by decide)) (fun _ => ?_)
  refine XR.iconst d_M_told_38 (v := 0) (by decide) ?_
  refine XR.xreturn d_M_told_39 rfl ?_
  exact ⟨by rw [rTold, if_pos h6] <;> rfl, by rw [rTold, if_pos h6] <;> rfl⟩
end XModel5
