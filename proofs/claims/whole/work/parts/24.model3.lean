/-! the reference's face -/
theorem xcd_f {σ : xS} {c : Int32} (h : ¬ c ≤ 0) : ¬ xu σ 14 0 c 14 0 ≤ 0 := by rw [xu_same]; exact h
theorem xcd_t {σ : xS} {c : Int32} (h : c ≤ 0) : xu σ 14 0 c 14 0 ≤ 0 := by rw [xu_same]; exact h
theorem xcd_g {σ : xS} {c : Int32} (h : 0 < c) : 0 < xu σ 14 0 c 14 0 := by rw [xu_same]; exact h
theorem xcd_n {σ : xS} {c : Int32} (h : ¬ 0 < c) : ¬ 0 < xu σ 14 0 c 14 0 := by rw [xu_same]; exact h
theorem rCh.of {σ τ : xS} (e : τ 21 = σ 21) : ∀ {f : Nat} {a : Int32}, rCh σ f a → rCh τ f a
  | 0, _, h => h
  | f + 1, _, h => by
    rcases h with h | ⟨h1, h2⟩
    · exact Or.inl h
    · exact Or.inr ⟨h1, by rw [e]; exact rCh.of e h2⟩
theorem rOK.of {σ τ : xS} (h : rOK σ) (e0 : τ 20 = σ 20) (e1 : τ 21 = σ 21) : rOK τ := fun b hb h0 => rCh.of e1 (h b hb (by rw [← e0]; exact h0))
theorem rvOK.of {σ τ : xS} (h : rvOK σ) (e : τ 15 = σ 15) : rvOK τ := fun p hp h0 => by rw [e] at h0 ⊢; exact h p hp h0
theorem rLv_in {σ : xS} {x : Int32} (h : ¬ bz (rLv σ x) = 0) : vp_in (rPl x) 192 ∧ ¬ σ 15 (xn (rPl x)) < 0 := by
  rw [bz_z, Bool.not_eq_false] at h
  simp only [rLv, Bool.and_eq_true, Bool.not_eq_true', decide_eq_false_iff_not] at h
  exact ⟨vp_in_lt (rPl_nn x) h.1.1.1.2 (by decide), h.1.1.2⟩
theorem rW_in {k y : Int32} (hk : vp_in k 192) (hy : ¬ bz (rIn y 0 3) = 0) : vp_in (4 * k + y) 768 := by
  have h0 : (0 : Int32).toInt = 0 := by decide
  have h3 : (3 : Int32).toInt = 3 := by decide
  have h4 : (4 : Int32).toInt = 4 := by decide
  rw [bz_z, Bool.not_eq_false] at hy
  simp only [rIn, Bool.and_eq_true, Bool.not_eq_true', decide_eq_false_iff_not, Int32.lt_iff_toInt_lt, h0, h3] at hy
  obtain ⟨h1, h2⟩ := vp_in_iff.mp hk
  have e1 : (4 * k).toInt = 4 * k.toInt := by rw [tiM (by rw [h4]; omega) (by rw [h4]; omega), h4]
  rw [vp_in_iff, tiA (by rw [e1]; omega) (by rw [e1]; omega), e1]
  omega
def rWeak (σ : xS) (x : Int32) : Int32 × xS := if bz (rLv σ x) = 0 then (0, xu σ 14 0 1) else (x ||| 1, xu σ 14 0 0)
def rOwner (σ : xS) (x : Int32) : Int32 × xS := if bz (rLv σ x) = 0 then (0, xu σ 14 0 1) else (σ 15 (xn (rPl x)), xu σ 14 0 0)
def rRead (σ : xS) (x y : Int32) : Int32 × xS := if bz (rLv σ x) = 0 then (0, xu σ 14 0 1) else if bz (rIn y 0 3) = 0 then (0, xu σ 14 0 2) else (σ 19 (xn (4 * rPl x + y)), xu σ 14 0 0)
def rWrite (σ : xS) (x y v : Int32) : Int32 × xS :=
  if bz (rLv σ x) = 0 then (0, xu σ 14 0 1) else if bz (rWk x) = 0 then (if bz (rIn y 0 3) = 0 then (0, xu σ 14 0 3) else (σ 19 (xn (4 * rPl x + y)), xu (xu σ 14 0 0) 19 (xn (4 * rPl x + y)) v)) else (0, xu σ 14 0 2)
def rSell (σ : xS) (x : Int32) : Int32 × xS :=
  if bz (rLv σ x) = 0 then (0, xu σ 14 0 1) else if bz (rWk x) = 0 then (σ 15 (xn (rPl x)), xu (xu σ 14 0 0) 15 (xn (rPl x)) (-1)) else (0, xu σ 14 0 2)
def rLimit (σ : xS) (x y : Int32) : Int32 × xS :=
  if bz (rBk σ x) = 0 then (0, xu σ 14 0 1) else if bz (rIn y 0 192) = 0 then (0, xu σ 14 0 2) else if x = 0 then (0, xu σ 14 0 2) else if y < rUse σ x then (0, xu σ 14 0 3) else if σ 23 (xn x) = 2 then (0, xu σ 14 0 3)
  else (σ 22 (xn x), xu (xu σ 14 0 0) 22 (xn x) y)
def rReserve (σ : xS) (x y : Int32) : Int32 × xS :=
  if bz (rBk σ x) = 0 then (0, xu σ 14 0 1) else if bz (rIn y 0 192) = 0 then (0, xu σ 14 0 2) else if bz (σ 23 (xn x) == 0) = 0 then (0, xu σ 14 0 3)
  else if rRf (xu σ 14 0 0) x y < 0 then (xu (xu σ 14 0 0) 24 (xn x) (σ 24 (xn x) + y) 24 (xn x), xu (xu σ 14 0 0) 24 (xn x) (σ 24 (xn x) + y)) else (0, xu (xu (xu σ 14 0 0) 14 13 (rRf (xu σ 14 0 0) x y)) 14 0 4)
def rUnreserve (σ : xS) (x y : Int32) : Int32 × xS :=
  if bz (rBk σ x) = 0 then (0, xu σ 14 0 1) else if bz (rIn y 0 (σ 24 (xn x))) = 0 then (0, xu σ 14 0 2)
  else (xu (xu σ 14 0 0) 24 (xn x) (σ 24 (xn x) - y) 24 (xn x), xu (xu σ 14 0 0) 24 (xn x) (σ 24 (xn x) - y))
def rMove (σ : xS) (x y : Int32) : Int32 × xS :=
  if bz (rLv σ x) = 0 then (0, xu σ 14 0 1) else if bz (rWk x) = 0 then (if bz (rBk σ y) = 0 then (0, xu σ 14 0 3) else if bz (σ 23 (xn y) == 0) = 0 then (0, xu σ 14 0 4)
    else if rRf (xu (xu σ 14 0 0) 15 (xn (rPl x)) (-1)) y 1 < 0 then (σ 15 (xn (rPl x)), rGive (xu (xu (xu σ 14 0 0) 15 (xn (rPl x)) (-1)) 15 (xn (rPl x)) (σ 15 (xn (rPl x)))) (rPl x) y)
    else (0, xu (xu (xu (xu (xu σ 14 0 0) 15 (xn (rPl x)) (-1)) 15 (xn (rPl x)) (σ 15 (xn (rPl x)))) 14 13 (rRf (xu (xu σ 14 0 0) 15 (xn (rPl x)) (-1)) y 1)) 14 0 5))
  else (0, xu σ 14 0 2)
section XModel3
variable {E : xE} {σ : xS} {x y v n : Int32}
theorem c_M_weak (hw : rvOK σ) : XC E i_M_weak 3 0 0 [.ref (xB E + 14), .int x] (xm σ) (xrn (rWeak σ x)) := by
  refine XC.ofF (by decide +kernel) cd_M_weak rfl (xle rfl) ?_
  refine XR.aload_n d_M_weak_0 rfl ?_
  refine XR.aload_n d_M_weak_1 rfl ?_
  refine XR.iload_n d_M_weak_2 rfl ?_
  refine XR.cV (as := [_]) d_M_weak_3 l_M_106 kv_M_lives (c_M_lives hw) rfl (xle rfl) rfl rfl (xle rfl) (xle rfl) ?_
  refine XR.if_eq d_M_weak_6 (tgt := 13) (by decide) (fun h6 => ?_) (fun h6 => ?_)
  · refine XR.iconst d_M_weak_13 (v := 1) (by decide) ?_
    refine XR.putfield d_M_weak_14 (xle rfl) (fun _ => rfl) rfl uin_M tyM_ok nmM (fk := 0) (xle rfl) f_M_45 rfl rfl (fun _ => rfl) (fun _ => xle rfl) ?_
    refine XR.aload_n d_M_weak_17 rfl ?_
    refine XR.getint d_M_weak_18 (xle rfl) rfl rfl uin_M (fk := 0) (xle rfl) f_M_45 rfl ?_
    refine XR.if_le d_M_weak_21 (tgt := 28) (by decide) (fun h => absurd h (show ¬ (1 : Int32) ≤ 0 by decide)) (fun _ => ?_)
    refine XR.iconst d_M_weak_24 (v := 0) (by decide) ?_
    refine XR.goto d_M_weak_25 (tgt := 31) (by decide) ?_
    refine XR.xreturn d_M_weak_31 rfl ?_
    exact ⟨by rw [rWeak, if_pos h6] <;> rfl, by rw [rWeak, if_pos h6] <;> rfl⟩
  refine XR.iconst d_M_weak_9 (v := 0) (by decide) ?_
  refine XR.goto d_M_weak_10 (tgt := 14) (by decide) ?_
  refine XR.putfield d_M_weak_14 (xle rfl) (fun _ => rfl) rfl uin_M tyM_ok nmM (fk := 0) (xle rfl) f_M_45 rfl rfl (fun _ => rfl) (fun _ => xle rfl) ?_
  refine XR.aload_n d_M_weak_17 rfl ?_
  refine XR.getint d_M_weak_18 (xle rfl) rfl rfl uin_M (fk := 0) (xle rfl) f_M_45 rfl ?_
  refine XR.if_le d_M_weak_21 (tgt := 28) (by decide) (fun _ => ?_) (fun h => absurd (show (0 : Int32) ≤ 0 by decide) h)
  refine XR.iload_n d_M_weak_28 rfl ?_
  refine XR.iconst d_M_weak_29 (v := 1) (by decide) ?_
  refine XR.ior d_M_weak_30 ?_
  refine XR.xreturn d_M_weak_31 rfl ?_
  exact ⟨by rw [rWeak, if_neg h6] <;> rfl, by rw [rWeak, if_neg h6] <;> rfl⟩
theorem c_M_owner (hw : rvOK σ) : XC E i_M_owner 3 0 0 [.ref (xB E + 14), .int x] (xm σ) (xrn (rOwner σ x)) := by
  refine XC.ofF (by decide +kernel) cd_M_owner rfl (xle rfl) ?_
  refine XR.aload_n d_M_owner_0 rfl ?_
  refine XR.aload_n d_M_owner_1 rfl ?_
  refine XR.iload_n d_M_owner_2 rfl ?_
  refine XR.cV (as := [_]) d_M_owner_3 l_M_106 kv_M_lives (c_M_lives hw) rfl (xle rfl) rfl rfl (xle rfl) (xle rfl) ?_
  refine XR.if_eq d_M_owner_6 (tgt := 13) (by decide) (fun h6 => ?_) (fun h6 => ?_)
  · refine XR.iconst d_M_owner_13 (v := 1) (by decide) ?_
    refine XR.putfield d_M_owner_14 (xle rfl) (fun _ => rfl) rfl uin_M tyM_ok nmM (fk := 0) (xle rfl) f_M_45 rfl rfl (fun _ => rfl) (fun _ => xle rfl) ?_
    refine XR.aload_n d_M_owner_17 rfl ?_
    refine XR.getint d_M_owner_18 (xle rfl) rfl rfl uin_M (fk := 0) (xle rfl) f_M_45 rfl ?_
    refine XR.if_le d_M_owner_21 (tgt := 28) (by decide) (fun h => absurd h (show ¬ (1 : Int32) ≤ 0 by decide)) (fun _ => ?_)
    refine XR.iconst d_M_owner_24 (v := 0) (by decide) ?_
    refine XR.goto d_M_owner_25 (tgt := 37) (by decide) ?_
    refine XR.xreturn d_M_owner_37 rfl ?_
    exact ⟨by rw [rOwner, if_pos h6] <;> rfl, by rw [rOwner, if_pos h6] <;> rfl⟩
  refine XR.iconst d_M_owner_9 (v := 0) (by decide) ?_
  refine XR.goto d_M_owner_10 (tgt := 14) (by decide) ?_
  refine XR.putfield d_M_owner_14 (xle rfl) (fun _ => rfl) rfl uin_M tyM_ok nmM (fk := 0) (xle rfl) f_M_45 rfl rfl (fun _ => rfl) (fun _ => xle rfl) ?_
  refine XR.aload_n d_M_owner_17 rfl ?_
  refine XR.getint d_M_owner_18 (xle rfl) rfl rfl uin_M (fk := 0) (xle rfl) f_M_45 rfl ?_
  refine XR.if_le d_M_owner_21 (tgt := 28) (by decide) (fun _ => ?_) (fun h => absurd (show (0 : Int32) ≤ 0 by decide) h)
  refine XR.aload_n d_M_owner_28 rfl ?_
  refine XR.getref d_M_owner_29 (xle rfl) rfl rfl uin_M (fk := 1) (xle rfl) f_M_7 rfl (xle rfl) ?_
  refine XR.iload_n d_M_owner_32 rfl ?_
  refine XR.cS (as := [_]) d_M_owner_33 l_M_103 ks_M_placeOf (c_M_placeOf) rfl (xle rfl) (xle rfl) ?_
  refine XR.iaload d_M_owner_36 (xle rfl) (fun _ => rfl) (rLv_in h6).1 ?_
  refine XR.xreturn d_M_owner_37 rfl ?_
  exact ⟨by rw [rOwner, if_neg h6] <;> rfl, by rw [rOwner, if_neg h6] <;> rfl⟩
theorem c_M_read (hw : rvOK σ) : XC E i_M_read 3 0 0 [.ref (xB E + 14), .int x, .int y] (xm σ) (xrn (rRead σ x y)) := by
  refine XC.ofF (by decide +kernel) cd_M_read rfl (xle rfl) ?_
  refine XR.aload_n d_M_read_0 rfl ?_
  refine XR.aload_n d_M_read_1 rfl ?_
  refine XR.iload_n d_M_read_2 rfl ?_
  refine XR.cV (as := [_]) d_M_read_3 l_M_106 kv_M_lives (c_M_lives hw) rfl (xle rfl) rfl rfl (xle rfl) (xle rfl) ?_
  refine XR.if_ne d_M_read_6 (tgt := 13) (by decide) (fun h6 => ?_) (fun h6 => ?_)
  · refine XR.iload_n d_M_read_13 rfl ?_
    refine XR.iconst d_M_read_14 (v := 0) (by decide) ?_
    refine XR.iconst d_M_read_15 (v := 3) (by decide) ?_
    refine XR.cS (as := [_, _, _]) d_M_read_16 l_M_48 ks_M_in (c_M_in) rfl (xle rfl) (xle rfl) ?_
    refine XR.if_eq d_M_read_19 (tgt := 26) (by decide) (fun h19 => ?_) (fun h19 => ?_)
    · refine XR.iconst d_M_read_26 (v := 2) (by decide) ?_
      refine XR.putfield d_M_read_27 (xle rfl) (fun _ => rfl) rfl uin_M tyM_ok nmM (fk := 0) (xle rfl) f_M_45 rfl rfl (fun _ => rfl) (fun _ => xle rfl) ?_
      refine XR.aload_n d_M_read_30 rfl ?_
      refine XR.getint d_M_read_31 (xle rfl) rfl rfl uin_M (fk := 0) (xle rfl) f_M_45 rfl ?_
      refine XR.if_le d_M_read_34 (tgt := 41) (by decide) (fun h => absurd h (show ¬ (2 : Int32) ≤ 0 by decide)) (fun _ => ?_)
      refine XR.iconst d_M_read_37 (v := 0) (by decide) ?_
      refine XR.goto d_M_read_38 (tgt := 54) (by decide) ?_
      refine XR.xreturn d_M_read_54 rfl ?_
      exact ⟨by rw [rRead, if_neg h6, if_pos h19] <;> rfl, by rw [rRead, if_neg h6, if_pos h19] <;> rfl⟩
    refine XR.iconst d_M_read_22 (v := 0) (by decide) ?_
    refine XR.goto d_M_read_23 (tgt := 27) (by decide) ?_
    refine XR.putfield d_M_read_27 (xle rfl) (fun _ => rfl) rfl uin_M tyM_ok nmM (fk := 0) (xle rfl) f_M_45 rfl rfl (fun _ => rfl) (fun _ => xle rfl) ?_
    refine XR.aload_n d_M_read_30 rfl ?_
    refine XR.getint d_M_read_31 (xle rfl) rfl rfl uin_M (fk := 0) (xle rfl) f_M_45 rfl ?_
    refine XR.if_le d_M_read_34 (tgt := 41) (by decide) (fun _ => ?_) (fun h => absurd (show (0 : Int32) ≤ 0 by decide) h)
    refine XR.aload_n d_M_read_41 rfl ?_
    refine XR.getref d_M_read_42 (xle rfl) rfl rfl uin_M (fk := 5) (xle rfl) f_M_22 rfl (xle rfl) ?_
    refine XR.iconst d_M_read_45 (v := 4) (by decide) ?_
    refine XR.iload_n d_M_read_46 rfl ?_
    refine XR.cS (as := [_]) d_M_read_47 l_M_103 ks_M_placeOf (c_M_placeOf) rfl (xle rfl) (xle rfl) ?_
    refine XR.imul d_M_read_50 ?_
    refine XR.iload_n d_M_read_51 rfl ?_
    refine XR.iadd d_M_read_52 ?_
    refine XR.iaload d_M_read_53 (xle rfl) (fun _ => rfl) (rW_in (rLv_in h6).1 h19) ?_
    refine XR.xreturn d_M_read_54 rfl ?_
    exact ⟨by rw [rRead, if_neg h6, if_neg h19] <;> rfl, by rw [rRead, if_neg h6, if_neg h19] <;> rfl⟩
  refine XR.iconst d_M_read_9 (v := 1) (by decide) ?_
  refine XR.goto d_M_read_10 (tgt := 27) (by decide) ?_
  refine XR.putfield d_M_read_27 (xle rfl) (fun _ => rfl) rfl uin_M tyM_ok nmM (fk := 0) (xle rfl) f_M_45 rfl rfl (fun _ => rfl) (fun _ => xle rfl) ?_
  refine XR.aload_n d_M_read_30 rfl ?_
  refine XR.getint d_M_read_31 (xle rfl) rfl rfl uin_M (fk := 0) (xle rfl) f_M_45 rfl ?_
  refine XR.if_le d_M_read_34 (tgt := 41) (by decide) (fun h => absurd h (show ¬ (1 : Int32) ≤ 0 by decide)) (fun _ => ?_)
  refine XR.iconst d_M_read_37 (v := 0) (by decide) ?_
  refine XR.goto d_M_read_38 (tgt := 54) (by decide) ?_
  refine XR.xreturn d_M_read_54 rfl ?_
  exact ⟨by rw [rRead, if_pos h6] <;> rfl, by rw [rRead, if_pos h6] <;> rfl⟩
theorem c_M_write (hw : rvOK σ) : XC E i_M_write 3 0 0 [.ref (xB E + 14), .int x, .int y, .int v] (xm σ) (xrn (rWrite σ x y v)) := by
  refine XC.ofF (by decide +kernel) cd_M_write rfl (xle rfl) ?_
  refine XR.aload_n d_M_write_0 rfl ?_
  refine XR.aload_n d_M_write_1 rfl ?_
  refine XR.iload_n d_M_write_2 rfl ?_
  refine XR.cV (as := [_]) d_M_write_3 l_M_106 kv_M_lives (c_M_lives hw) rfl (xle rfl) rfl rfl (xle rfl) (xle rfl) ?_
  refine XR.if_ne d_M_write_6 (tgt := 13) (by decide) (fun h6 => ?_) (fun h6 => ?_)
  · refine XR.iload_n d_M_write_13 rfl ?_
    refine XR.cS (as := [_]) d_M_write_14 l_M_109 ks_M_isWeak (c_M_isWeak) rfl (xle rfl) (xle rfl) ?_
    refine XR.if_eq d_M_write_17 (tgt := 24) (by decide) (fun h17 => ?_) (fun h17 => ?_)
    · refine XR.iload_n d_M_write_24 rfl ?_
      refine XR.iconst d_M_write_25 (v := 0) (by decide) ?_
      refine XR.iconst d_M_write_26 (v := 3) (by decide) ?_
      refine XR.cS (as := [_, _, _]) d_M_write_27 l_M_48 ks_M_in (c_M_in) rfl (xle rfl) (xle rfl) ?_
      refine XR.if_eq d_M_write_30 (tgt := 37) (by decide) (fun h30 => ?_) (fun h30 => ?_)
      · refine XR.iconst d_M_write_37 (v := 3) (by decide) ?_
        refine XR.putfield d_M_write_38 (xle rfl) (fun _ => rfl) rfl uin_M tyM_ok nmM (fk := 0) (xle rfl) f_M_45 rfl rfl (fun _ => rfl) (fun _ => xle rfl) ?_
        refine XR.aload_n d_M_write_41 rfl ?_
        refine XR.getint d_M_write_42 (xle rfl) rfl rfl uin_M (fk := 0) (xle rfl) f_M_45 rfl ?_
        refine XR.if_le d_M_write_45 (tgt := 50) (by decide) (fun h => absurd h (show ¬ (3 : Int32) ≤ 0 by decide)) (fun _ => ?_)
        refine XR.iconst d_M_write_48 (v := 0) (by decide) ?_
        refine XR.xreturn d_M_write_49 rfl ?_
        exact ⟨by rw [rWrite, if_neg h6, if_pos h17, if_pos h30] <;> rfl, by rw [rWrite, if_neg h6, if_pos h17, if_pos h30] <;> rfl⟩
      refine XR.iconst d_M_write_33 (v := 0) (by decide) ?_
      refine XR.goto d_M_write_34 (tgt := 38) (by decide) ?_
      refine XR.putfield d_M_write_38 (xle rfl) (fun _ => rfl) rfl uin_M tyM_ok nmM (fk := 0) (xle rfl) f_M_45 rfl rfl (fun _ => rfl) (fun _ => xle rfl) ?_
      refine XR.aload_n d_M_write_41 rfl ?_
      refine XR.getint d_M_write_42 (xle rfl) rfl rfl uin_M (fk := 0) (xle rfl) f_M_45 rfl ?_
      refine XR.if_le d_M_write_45 (tgt := 50) (by decide) (fun _ => ?_) (fun h => absurd (show (0 : Int32) ≤ 0 by decide) h)
      refine XR.iconst d_M_write_50 (v := 4) (by decide) ?_
      refine XR.iload_n d_M_write_51 rfl ?_
      refine XR.cS (as := [_]) d_M_write_52 l_M_103 ks_M_placeOf (c_M_placeOf) rfl (xle rfl) (xle rfl) ?_
      refine XR.imul d_M_write_55 ?_
      refine XR.iload_n d_M_write_56 rfl ?_
      refine XR.iadd d_M_write_57 ?_
      refine XR.istore d_M_write_58 (xle rfl) rfl ?_
      refine XR.aload_n d_M_write_60 rfl ?_
      refine XR.getref d_M_write_61 (xle rfl) rfl rfl uin_M (fk := 5) (xle rfl) f_M_22 rfl (xle rfl) ?_
      refine XR.iload d_M_write_64 rfl ?_
      refine XR.iaload d_M_write_66 (xle rfl) (fun _ => rfl) (rW_in (rLv_in h6).1 h30) ?_
      refine XR.istore d_M_write_67 (xle rfl) rfl ?_
      refine XR.aload_n d_M_write_69 rfl ?_
      refine XR.getref d_M_write_70 (xle rfl) rfl rfl uin_M (fk := 5) (xle rfl) f_M_22 rfl (xle rfl) ?_
      refine XR.iload d_M_write_73 rfl ?_
      refine XR.iload_n d_M_write_75 rfl ?_
      refine XR.iastore d_M_write_76 (xle rfl) (fun _ => rfl) (rW_in (rLv_in h6).1 h30) ?_
      refine XR.iload d_M_write_77 rfl ?_
      refine XR.xreturn d_M_write_79 rfl ?_
      exact ⟨by rw [rWrite, if_neg h6, if_pos h17, if_neg h30] <;> rfl, by rw [rWrite, if_neg h6, if_pos h17, if_neg h30] <;> rfl⟩
    refine XR.iconst d_M_write_20 (v := 2) (by decide) ?_
    refine XR.goto d_M_write_21 (tgt := 38) (by decide) ?_
    refine XR.putfield d_M_write_38 (xle rfl) (fun _ => rfl) rfl uin_M tyM_ok nmM (fk := 0) (xle rfl) f_M_45 rfl rfl (fun _ => rfl) (fun _ => xle rfl) ?_
    refine XR.aload_n d_M_write_41 rfl ?_
    refine XR.getint d_M_write_42 (xle rfl) rfl rfl uin_M (fk := 0) (xle rfl) f_M_45 rfl ?_
    refine XR.if_le d_M_write_45 (tgt := 50) (by decide) (fun h => absurd h (show ¬ (2 : Int32) ≤ 0 by decide)) (fun _ => ?_)
    refine XR.iconst d_M_write_48 (v := 0) (by decide) ?_
    refine XR.xreturn d_M_write_49 rfl ?_
    exact ⟨by rw [rWrite, if_neg h6, if_neg h17] <;> rfl, by rw [rWrite, if_neg h6, if_neg h17] <;> rfl⟩
  refine XR.iconst d_M_write_9 (v := 1) (by decide) ?_
  refine XR.goto d_M_write_10 (tgt := 38) (by decide) ?_
  refine XR.putfield d_M_write_38 (xle rfl) (fun _ => rfl) rfl uin_M tyM_ok nmM (fk := 0) (xle rfl) f_M_45 rfl rfl (fun _ => rfl) (fun _ => xle rfl) ?_
  refine XR.aload_n d_M_write_41 rfl ?_
  refine XR.getint d_M_write_42 (xle rfl) rfl rfl uin_M (fk := 0) (xle rfl) f_M_45 rfl ?_
  refine XR.if_le d_M_write_45 (tgt := 50) (by decide) (fun h => absurd h (show ¬ (1 : Int32) ≤ 0 by decide)) (fun _ => ?_)
  refine XR.iconst d_M_write_48 (v := 0) (by decide) ?_
  refine XR.xreturn d_M_write_49 rfl ?_
  exact ⟨by rw [rWrite, if_pos h6] <;> rfl, by rw [rWrite, if_pos h6] <;> rfl⟩
theorem c_M_sell (hw : rvOK σ) : XC E i_M_sell 3 0 0 [.ref (xB E + 14), .int x] (xm σ) (xrn (rSell σ x)) := by
  refine XC.ofF (by decide +kernel) cd_M_sell rfl (xle rfl) ?_
  refine XR.aload_n d_M_sell_0 rfl ?_
  refine XR.aload_n d_M_sell_1 rfl ?_
  refine XR.iload_n d_M_sell_2 rfl ?_
  refine XR.cV (as := [_]) d_M_sell_3 l_M_106 kv_M_lives (c_M_lives hw) rfl (xle rfl) rfl rfl (xle rfl) (xle rfl) ?_
  refine XR.if_ne d_M_sell_6 (tgt := 13) (by decide) (fun h6 => ?_) (fun h6 => ?_)
  · refine XR.iload_n d_M_sell_13 rfl ?_
    refine XR.cS (as := [_]) d_M_sell_14 l_M_109 ks_M_isWeak (c_M_isWeak) rfl (xle rfl) (xle rfl) ?_
    refine XR.if_eq d_M_sell_17 (tgt := 24) (by decide) (fun h17 => ?_) (fun h17 => ?_)
    · refine XR.iconst d_M_sell_24 (v := 0) (by decide) ?_
      refine XR.putfield d_M_sell_25 (xle rfl) (fun _ => rfl) rfl uin_M tyM_ok nmM (fk := 0) (xle rfl) f_M_45 rfl rfl (fun _ => rfl) (fun _ => xle rfl) ?_
      refine XR.aload_n d_M_sell_28 rfl ?_
      refine XR.getint d_M_sell_29 (xle rfl) rfl rfl uin_M (fk := 0) (xle rfl) f_M_45 rfl ?_
      refine XR.if_le d_M_sell_32 (tgt := 37) (by decide) (fun _ => ?_) (fun h => absurd (show (0 : Int32) ≤ 0 by decide) h)
      refine XR.aload_n d_M_sell_37 rfl ?_
      refine XR.getref d_M_sell_38 (xle rfl) rfl rfl uin_M (fk := 1) (xle rfl) f_M_7 rfl (xle rfl) ?_
      refine XR.iload_n d_M_sell_41 rfl ?_
      refine XR.cS (as := [_]) d_M_sell_42 l_M_103 ks_M_placeOf (c_M_placeOf) rfl (xle rfl) (xle rfl) ?_
      refine XR.iaload d_M_sell_45 (xle rfl) (fun _ => rfl) (rLv_in h6).1 ?_
      refine XR.istore_n d_M_sell_46 (xle rfl) rfl ?_
      refine XR.aload_n d_M_sell_47 rfl ?_
      refine XR.getref d_M_sell_48 (xle rfl) rfl rfl uin_M (fk := 1) (xle rfl) f_M_7 rfl (xle rfl) ?_
      refine XR.iload_n d_M_sell_51 rfl ?_
      refine XR.cS (as := [_]) d_M_sell_52 l_M_103 ks_M_placeOf (c_M_placeOf) rfl (xle rfl) (xle rfl) ?_
      refine XR.iconst d_M_sell_55 (v := -1) (by decide) ?_
      refine XR.iastore d_M_sell_56 (xle rfl) (fun _ => rfl) (rLv_in h6).1 ?_
      refine XR.iload_n d_M_sell_57 rfl ?_
      refine XR.xreturn d_M_sell_58 rfl ?_
      exact ⟨by rw [rSell, if_neg h6, if_pos h17] <;> rfl, by rw [rSell, if_neg h6, if_pos h17] <;> rfl⟩
    refine XR.iconst d_M_sell_20 (v := 2) (by decide) ?_
    refine XR.goto d_M_sell_21 (tgt := 25) (by decide) ?_
    refine XR.putfield d_M_sell_25 (xle rfl) (fun _ => rfl) rfl uin_M tyM_ok nmM (fk := 0) (xle rfl) f_M_45 rfl rfl (fun _ => rfl) (fun _ => xle rfl) ?_
    refine XR.aload_n d_M_sell_28 rfl ?_
    refine XR.getint d_M_sell_29 (xle rfl) rfl rfl uin_M (fk := 0) (xle rfl) f_M_45 rfl ?_
    refine XR.if_le d_M_sell_32 (tgt := 37) (by decide) (fun h => absurd h (show ¬ (2 : Int32) ≤ 0 by decide)) (fun _ => ?_)
    refine XR.iconst d_M_sell_35 (v := 0) (by decide) ?_
    refine XR.xreturn d_M_sell_36 rfl ?_
    exact ⟨by rw [rSell, if_neg h6, if_neg h17] <;> rfl, by rw [rSell, if_neg h6, if_neg h17] <;> rfl⟩
  refine XR.iconst d_M_sell_9 (v := 1) (by decide) ?_
  refine XR.goto d_M_sell_10 (tgt := 25) (by decide) ?_
  refine XR.putfield d_M_sell_25 (xle rfl) (fun _ => rfl) rfl uin_M tyM_ok nmM (fk := 0) (xle rfl) f_M_45 rfl rfl (fun _ => rfl) (fun _ => xle rfl) ?_
  refine XR.aload_n d_M_sell_28 rfl ?_
  refine XR.getint d_M_sell_29 (xle rfl) rfl rfl uin_M (fk := 0) (xle rfl) f_M_45 rfl ?_
  refine XR.if_le d_M_sell_32 (tgt := 37) (by decide) (fun h => absurd h (show ¬ (1 : Int32) ≤ 0 by decide)) (fun _ => ?_)
  refine XR.iconst d_M_sell_35 (v := 0) (by decide) ?_
  refine XR.xreturn d_M_sell_36 rfl ?_
  exact ⟨by rw [rSell, if_pos h6] <;> rfl, by rw [rSell, if_pos h6] <;> rfl⟩
theorem c_M_limit (hr : rOK σ) : XC E i_M_limit 3 0 0 [.ref (xB E + 14), .int x, .int y] (xm σ) (xrn (rLimit σ x y)) := by
  refine XC.ofF (by decide +kernel) cd_M_limit rfl (xle rfl) ?_
  refine XR.aload_n d_M_limit_0 rfl ?_
  refine XR.aload_n d_M_limit_1 rfl ?_
  refine XR.iload_n d_M_limit_2 rfl ?_
  refine XR.cV (as := [_]) d_M_limit_3 l_M_63 kv_M_isBank (c_M_isBank) rfl (xle rfl) rfl rfl (xle rfl) (xle rfl) ?_
  refine XR.if_ne d_M_limit_6 (tgt := 13) (by decide) (fun h6 => ?_) (fun h6 => ?_)
  · refine XR.iload_n d_M_limit_13 rfl ?_
    refine XR.iconst d_M_limit_14 (v := 0) (by decide) ?_
    refine XR.sipush d_M_limit_15 (v := 192) (by decide) ?_
    refine XR.cS (as := [_, _, _]) d_M_limit_18 l_M_48 ks_M_in (c_M_in) rfl (xle rfl) (xle rfl) ?_
    refine XR.if_eq d_M_limit_21 (tgt := 28) (by decide) (fun h21 => ?_) (fun h21 => ?_)
    · refine XR.iconst d_M_limit_28 (v := 2) (by decide) ?_
      refine XR.goto d_M_limit_29 (tgt := 56) (by decide) ?_
      refine XR.putfield d_M_limit_56 (xle rfl) (fun _ => rfl) rfl uin_M tyM_ok nmM (fk := 0) (xle rfl) f_M_45 rfl rfl (fun _ => rfl) (fun _ => xle rfl) ?_
      refine XR.aload_n d_M_limit_59 rfl ?_
      refine XR.getint d_M_limit_60 (xle rfl) rfl rfl uin_M (fk := 0) (xle rfl) f_M_45 rfl ?_
      refine XR.if_le d_M_limit_63 (tgt := 68) (by decide) (fun h => absurd h (show ¬ (2 : Int32) ≤ 0 by decide)) (fun _ => ?_)
      refine XR.iconst d_M_limit_66 (v := 0) (by decide) ?_
      refine XR.xreturn d_M_limit_67 rfl ?_
      exact ⟨by rw [rLimit, if_neg h6, if_pos h21] <;> rfl, by rw [rLimit, if_neg h6, if_pos h21] <;> rfl⟩
    refine XR.iload_n d_M_limit_24 rfl ?_
    refine XR.if_ne d_M_limit_25 (tgt := 32) (by decide) (fun h25 => ?_) (fun h25 => ?_)
    · refine XR.aload_n d_M_limit_32 rfl ?_
      refine XR.iload_n d_M_limit_33 rfl ?_
      refine XR.cV (as := [_]) d_M_limit_34 l_M_60 kv_M_useOf (c_M_useOf hr) rfl (xle rfl) rfl rfl (xle rfl) (xle rfl) ?_
      refine XR.iload_n d_M_limit_37 rfl ?_
      refine XR.icmp_gt d_M_limit_38 (tgt := 51) (by decide) (fun h38 => ?_) (fun h38 => ?_)
      · refine XR.iconst d_M_limit_51 (v := 3) (by decide) ?_
        refine XR.goto d_M_limit_52 (tgt := 56) (by decide) ?_
        refine XR.putfield d_M_limit_56 (xle rfl) (fun _ => rfl) rfl uin_M tyM_ok nmM (fk := 0) (xle rfl) f_M_45 rfl rfl (fun _ => rfl) (fun _ => xle rfl) ?_
        refine XR.aload_n d_M_limit_59 rfl ?_
        refine XR.getint d_M_limit_60 (xle rfl) rfl rfl uin_M (fk := 0) (xle rfl) f_M_45 rfl ?_
        refine XR.if_le d_M_limit_63 (tgt := 68) (by decide) (fun h => absurd h (show ¬ (3 : Int32) ≤ 0 by decide)) (fun _ => ?_)
        refine XR.iconst d_M_limit_66 (v := 0) (by decide) ?_
        refine XR.xreturn d_M_limit_67 rfl ?_
        exact ⟨by rw [rLimit, if_neg h6, if_neg h21, if_neg h25, if_pos h38] <;> rfl, by rw [rLimit, if_neg h6, if_neg h21, if_neg h25, if_pos h38] <;> rfl⟩
      refine XR.aload_n d_M_limit_41 rfl ?_
      refine XR.getref d_M_limit_42 (xle rfl) rfl rfl uin_M (fk := 11) (xle rfl) f_M_35 rfl (xle rfl) ?_
      refine XR.iload_n d_M_limit_45 rfl ?_
      refine XR.iaload d_M_limit_46 (xle rfl) (fun _ => rfl) (rBk_in h6) ?_
      refine XR.iconst d_M_limit_47 (v := 2) (by decide) ?_
      refine XR.icmp_ne d_M_limit_48 (tgt := 55) (by decide) (fun h48 => ?_) (fun h48 => ?_)
      · refine XR.iconst d_M_limit_55 (v := 0) (by decide) ?_
        refine XR.putfield d_M_limit_56 (xle rfl) (fun _ => rfl) rfl uin_M tyM_ok nmM (fk := 0) (xle rfl) f_M_45 rfl rfl (fun _ => rfl) (fun _ => xle rfl) ?_
        refine XR.aload_n d_M_limit_59 rfl ?_
        refine XR.getint d_M_limit_60 (xle rfl) rfl rfl uin_M (fk := 0) (xle rfl) f_M_45 rfl ?_
        refine XR.if_le d_M_limit_63 (tgt := 68) (by decide) (fun _ => ?_) (fun h => absurd (show (0 : Int32) ≤ 0 by decide) h)
        refine XR.aload_n d_M_limit_68 rfl ?_
        refine XR.getref d_M_limit_69 (xle rfl) rfl rfl uin_M (fk := 10) (xle rfl) f_M_32 rfl (xle rfl) ?_
        refine XR.iload_n d_M_limit_72 rfl ?_
        refine XR.iaload d_M_limit_73 (xle rfl) (fun _ => rfl) (rBk_in h6) ?_
        refine XR.istore_n d_M_limit_74 (xle rfl) rfl ?_
        refine XR.aload_n d_M_limit_75 rfl ?_
        refine XR.getref d_M_limit_76 (xle rfl) rfl rfl uin_M (fk := 10) (xle rfl) f_M_32 rfl (xle rfl) ?_
        refine XR.iload_n d_M_limit_79 rfl ?_
        refine XR.iload_n d_M_limit_80 rfl ?_
        refine XR.iastore d_M_limit_81 (xle rfl) (fun _ => rfl) (rBk_in h6) ?_
        refine XR.iload_n d_M_limit_82 rfl ?_
        refine XR.xreturn d_M_limit_83 rfl ?_
        exact ⟨by rw [rLimit, if_neg h6, if_neg h21, if_neg h25, if_neg h38, if_neg h48] <;> rfl, by rw [rLimit, if_neg h6, if_neg h21, if_neg h25, if_neg h38, if_neg h48] <;> rfl⟩
      refine XR.iconst d_M_limit_51 (v := 3) (by decide) ?_
      refine XR.goto d_M_limit_52 (tgt := 56) (by decide) ?_
      refine XR.putfield d_M_limit_56 (xle rfl) (fun _ => rfl) rfl uin_M tyM_ok nmM (fk := 0) (xle rfl) f_M_45 rfl rfl (fun _ => rfl) (fun _ => xle rfl) ?_
      refine XR.aload_n d_M_limit_59 rfl ?_
      refine XR.getint d_M_limit_60 (xle rfl) rfl rfl uin_M (fk := 0) (xle rfl) f_M_45 rfl ?_
      refine XR.if_le d_M_limit_63 (tgt := 68) (by decide) (fun h => absurd h (show ¬ (3 : Int32) ≤ 0 by decide)) (fun _ => ?_)
      refine XR.iconst d_M_limit_66 (v := 0) (by decide) ?_
      refine XR.xreturn d_M_limit_67 rfl ?_
      exact ⟨by rw [rLimit, if_neg h6, if_neg h21, if_neg h25, if_neg h38, if_pos h48] <;> rfl, by rw [rLimit, if_neg h6, if_neg h21, if_neg h25, if_neg h38, if_pos h48] <;> rfl⟩
    refine XR.iconst d_M_limit_28 (v := 2) (by decide) ?_
    refine XR.goto d_M_limit_29 (tgt := 56) (by decide) ?_
    refine XR.putfield d_M_limit_56 (xle rfl) (fun _ => rfl) rfl uin_M tyM_ok nmM (fk := 0) (xle rfl) f_M_45 rfl rfl (fun _ => rfl) (fun _ => xle rfl) ?_
    refine XR.aload_n d_M_limit_59 rfl ?_
    refine XR.getint d_M_limit_60 (xle rfl) rfl rfl uin_M (fk := 0) (xle rfl) f_M_45 rfl ?_
    refine XR.if_le d_M_limit_63 (tgt := 68) (by decide) (fun h => absurd h (show ¬ (2 : Int32) ≤ 0 by decide)) (fun _ => ?_)
    refine XR.iconst d_M_limit_66 (v := 0) (by decide) ?_
    refine XR.xreturn d_M_limit_67 rfl ?_
    exact ⟨by rw [rLimit, if_neg h6, if_neg h21, if_pos h25] <;> rfl, by rw [rLimit, if_neg h6, if_neg h21, if_pos h25] <;> rfl⟩
  refine XR.iconst d_M_limit_9 (v := 1) (by decide) ?_
  refine XR.goto d_M_limit_10 (tgt := 56) (by decide) ?_
  refine XR.putfield d_M_limit_56 (xle rfl) (fun _ => rfl) rfl uin_M tyM_ok nmM (fk := 0) (xle rfl) f_M_45 rfl rfl (fun _ => rfl) (fun _ => xle rfl) ?_
  refine XR.aload_n d_M_limit_59 rfl ?_
  refine XR.getint d_M_limit_60 (xle rfl) rfl rfl uin_M (fk := 0) (xle rfl) f_M_45 rfl ?_
  refine XR.if_le d_M_limit_63 (tgt := 68) (by decide) (fun h => absurd h (show ¬ (1 : Int32) ≤ 0 by decide)) (fun _ => ?_)
  refine XR.iconst d_M_limit_66 (v := 0) (by decide) ?_
  refine XR.xreturn d_M_limit_67 rfl ?_
  exact ⟨by rw [rLimit, if_pos h6] <;> rfl, by rw [rLimit, if_pos h6] <;> rfl⟩
theorem c_M_reserve (hr : rOK σ) : XC E i_M_reserve 4 0 0 [.ref (xB E + 14), .int x, .int y] (xm σ) (xrn (rReserve σ x y)) := by
  refine XC.ofF (by decide +kernel) cd_M_reserve rfl (xle rfl) ?_
  have hr0 : rOK (xu σ 14 0 0) := hr.of rfl rfl
  have q : ¬ bz (rBk σ x) = 0 → rCh (xu σ 14 0 0) 7 x := fun h => by
    have h1 := rBk_in h
    obtain ⟨j, hj, rfl⟩ := vp_in_of h1 (by decide)
    rw [bz_z, Bool.not_eq_false] at h
    simp only [rBk, Bool.and_eq_true, xnI (show j < 2 ^ 31 by omega)] at h
    exact hr0 j hj (show ¬ σ 20 j = 0 by simpa using h.2)
  refine XR.aload_n d_M_reserve_0 rfl ?_
  refine XR.aload_n d_M_reserve_1 rfl ?_
  refine XR.iload_n d_M_reserve_2 rfl ?_
  refine XR.cV (as := [_]) d_M_reserve_3 l_M_63 kv_M_isBank (c_M_isBank) rfl (xle rfl) rfl rfl (xle rfl) (xle rfl) ?_
  refine XR.if_ne d_M_reserve_6 (tgt := 13) (by decide) (fun h6 => ?_) (fun h6 => ?_)
  · refine XR.iload_n d_M_reserve_13 rfl ?_
    refine XR.iconst d_M_reserve_14 (v := 0) (by decide) ?_
    refine XR.sipush d_M_reserve_15 (v := 192) (by decide) ?_
    refine XR.cS (as := [_, _, _]) d_M_reserve_18 l_M_48 ks_M_in (c_M_in) rfl (xle rfl) (xle rfl) ?_
    refine XR.if_ne d_M_reserve_21 (tgt := 28) (by decide) (fun h21 => ?_) (fun h21 => ?_)
    · refine XR.aload_n d_M_reserve_28 rfl ?_
      refine XR.iload_n d_M_reserve_29 rfl ?_
      refine XR.cV (as := [_]) d_M_reserve_30 l_M_67 kv_M_isOpen (c_M_isOpen (rBk_in h6)) rfl (xle rfl) rfl rfl (xle rfl) (xle rfl) ?_
      refine XR.if_ne d_M_reserve_33 (tgt := 40) (by decide) (fun h33 => ?_) (fun h33 => ?_)
      · refine XR.iconst d_M_reserve_40 (v := 0) (by decide) ?_
        refine XR.putfield d_M_reserve_41 (xle rfl) (fun _ => rfl) rfl uin_M tyM_ok nmM (fk := 0) (xle rfl) f_M_45 rfl rfl (fun _ => rfl) (fun _ => xle rfl) ?_
        refine XR.aload_n d_M_reserve_44 rfl ?_
        refine XR.getint d_M_reserve_45 (xle rfl) rfl rfl uin_M (fk := 0) (xle rfl) f_M_45 rfl ?_
        refine XR.if_le d_M_reserve_48 (tgt := 53) (by decide) (fun _ => ?_) (fun h => absurd (show (0 : Int32) ≤ 0 by decide) h)
        refine XR.aload_n d_M_reserve_53 rfl ?_
        refine XR.iload_n d_M_reserve_54 rfl ?_
        refine XR.iload_n d_M_reserve_55 rfl ?_
        refine XR.cV (as := [_, _]) d_M_reserve_56 l_M_83 kv_M_refuser (c_M_refuser hr0 (q h6)) rfl (xle rfl) rfl rfl (xle rfl) (xle rfl) ?_
        refine XR.istore_n d_M_reserve_59 (xle rfl) rfl ?_
        refine XR.iload_n d_M_reserve_60 rfl ?_
        refine XR.if_lt d_M_reserve_61 (tgt := 76) (by decide) (fun h61 => ?_) (fun h61 => ?_)
        · refine XR.aload_n d_M_reserve_76 rfl ?_
          refine XR.getref d_M_reserve_77 (xle rfl) rfl rfl uin_M (fk := 12) (xle rfl) f_M_38 rfl (xle rfl) ?_
          refine XR.iload_n d_M_reserve_80 rfl ?_
          refine XR.dup2 d_M_reserve_81 rfl rfl ?_
          refine XR.iaload d_M_reserve_82 (xle rfl) (fun _ => rfl) (rBk_in h6) ?_
          refine XR.iload_n d_M_reserve_83 rfl ?_
          refine XR.iadd d_M_reserve_84 ?_
          refine XR.iastore d_M_reserve_85 (xle rfl) (fun _ => rfl) (rBk_in h6) ?_
          refine XR.aload_n d_M_reserve_86 rfl ?_
          refine XR.getref d_M_reserve_87 (xle rfl) rfl rfl uin_M (fk := 12) (xle rfl) f_M_38 rfl (xle rfl) ?_
          refine XR.iload_n d_M_reserve_90 rfl ?_
          refine XR.iaload d_M_reserve_91 (xle rfl) (fun _ => rfl) (rBk_in h6) ?_
          refine XR.xreturn d_M_reserve_92 rfl ?_
          exact ⟨by rw [rReserve, if_neg h6, if_neg h21, if_neg h33, if_pos h61] <;> rfl, by rw [rReserve, if_neg h6, if_neg h21, if_neg h33, if_pos h61] <;> rfl⟩
        refine XR.aload_n d_M_reserve_64 rfl ?_
        refine XR.aload_n d_M_reserve_65 rfl ?_
        refine XR.iconst d_M_reserve_66 (v := 4) (by decide) ?_
        refine XR.iload_n d_M_reserve_67 rfl ?_
        refine XR.cV (as := [_, _]) d_M_reserve_68 l_M_73 kv_M_unsupported (c_M_unsupported) rfl (xle rfl) rfl rfl (xle rfl) (xle rfl) ?_
        refine XR.putfield d_M_reserve_71 (xle rfl) (fun _ => rfl) rfl uin_M tyM_ok nmM (fk := 0) (xle rfl) f_M_45 rfl rfl (fun _ => rfl) (fun _ => xle rfl) ?_
        refine XR.iconst d_M_reserve_74 (v := 0) (by decide) ?_
        refine XR.xreturn d_M_reserve_75 rfl ?_
        exact ⟨by rw [rReserve, if_neg h6, if_neg h21, if_neg h33, if_neg h61] <;> rfl, by rw [rReserve, if_neg h6, if_neg h21, if_neg h33, if_neg h61] <;> rfl⟩
      refine XR.iconst d_M_reserve_36 (v := 3) (by decide) ?_
      refine XR.goto d_M_reserve_37 (tgt := 41) (by decide) ?_
      refine XR.putfield d_M_reserve_41 (xle rfl) (fun _ => rfl) rfl uin_M tyM_ok nmM (fk := 0) (xle rfl) f_M_45 rfl rfl (fun _ => rfl) (fun _ => xle rfl) ?_
      refine XR.aload_n d_M_reserve_44 rfl ?_
      refine XR.getint d_M_reserve_45 (xle rfl) rfl rfl uin_M (fk := 0) (xle rfl) f_M_45 rfl ?_
      refine XR.if_le d_M_reserve_48 (tgt := 53) (by decide) (fun h => absurd h (show ¬ (3 : Int32) ≤ 0 by decide)) (fun _ => ?_)
      refine XR.iconst d_M_reserve_51 (v := 0) (by decide) ?_
      refine XR.xreturn d_M_reserve_52 rfl ?_
      exact ⟨by rw [rReserve, if_neg h6, if_neg h21, if_pos h33] <;> rfl, by rw [rReserve, if_neg h6, if_neg h21, if_pos h33] <;> rfl⟩
    refine XR.iconst d_M_reserve_24 (v := 2) (by decide) ?_
    refine XR.goto d_M_reserve_25 (tgt := 41) (by decide) ?_
    refine XR.putfield d_M_reserve_41 (xle rfl) (fun _ => rfl) rfl uin_M tyM_ok nmM (fk := 0) (xle rfl) f_M_45 rfl rfl (fun _ => rfl) (fun _ => xle rfl) ?_
    refine XR.aload_n d_M_reserve_44 rfl ?_
    refine XR.getint d_M_reserve_45 (xle rfl) rfl rfl uin_M (fk := 0) (xle rfl) f_M_45 rfl ?_
    refine XR.if_le d_M_reserve_48 (tgt := 53) (by decide) (fun h => absurd h (show ¬ (2 : Int32) ≤ 0 by decide)) (fun _ => ?_)
    refine XR.iconst d_M_reserve_51 (v := 0) (by decide) ?_
    refine XR.xreturn d_M_reserve_52 rfl ?_
    exact ⟨by rw [rReserve, if_neg h6, if_pos h21] <;> rfl, by rw [rReserve, if_neg h6, if_pos h21] <;> rfl⟩
  refine XR.iconst d_M_reserve_9 (v := 1) (by decide) ?_
  refine XR.goto d_M_reserve_10 (tgt := 41) (by decide) ?_
  refine XR.putfield d_M_reserve_41 (xle rfl) (fun _ => rfl) rfl uin_M tyM_ok nmM (fk := 0) (xle rfl) f_M_45 rfl rfl (fun _ => rfl) (fun _ => xle rfl) ?_
  refine XR.aload_n d_M_reserve_44 rfl ?_
  refine XR.getint d_M_reserve_45 (xle rfl) rfl rfl uin_M (fk := 0) (xle rfl) f_M_45 rfl ?_
  refine XR.if_le d_M_reserve_48 (tgt := 53) (by decide) (fun h => absurd h (show ¬ (1 : Int32) ≤ 0 by decide)) (fun _ => ?_)
  refine XR.iconst d_M_reserve_51 (v := 0) (by decide) ?_
  refine XR.xreturn d_M_reserve_52 rfl ?_
  exact ⟨by rw [rReserve, if_pos h6] <;> rfl, by rw [rReserve, if_pos h6] <;> rfl⟩
theorem c_M_unreserve : XC E i_M_unreserve 3 0 0 [.ref (xB E + 14), .int x, .int y] (xm σ) (xrn (rUnreserve σ x y)) := by
  refine XC.ofF (by decide +kernel) cd_M_unreserve rfl (xle rfl) ?_
  refine XR.aload_n d_M_unreserve_0 rfl ?_
  refine XR.aload_n d_M_unreserve_1 rfl ?_
  refine XR.iload_n d_M_unreserve_2 rfl ?_
  refine XR.cV (as := [_]) d_M_unreserve_3 l_M_63 kv_M_isBank (c_M_isBank) rfl (xle rfl) rfl rfl (xle rfl) (xle rfl) ?_
  refine XR.if_ne d_M_unreserve_6 (tgt := 13) (by decide) (fun h6 => ?_) (fun h6 => ?_)
  · refine XR.iload_n d_M_unreserve_13 rfl ?_
    refine XR.iconst d_M_unreserve_14 (v := 0) (by decide) ?_
    refine XR.aload_n d_M_unreserve_15 rfl ?_
    refine XR.getref d_M_unreserve_16 (xle rfl) rfl rfl uin_M (fk := 12) (xle rfl) f_M_38 rfl (xle rfl) ?_
    refine XR.iload_n d_M_unreserve_19 rfl ?_
    refine XR.iaload d_M_unreserve_20 (xle rfl) (fun _ => rfl) (rBk_in h6) ?_
    refine XR.cS (as := [_, _, _]) d_M_unreserve_21 l_M_48 ks_M_in (c_M_in) rfl (xle rfl) (xle rfl) ?_
    refine XR.if_eq d_M_unreserve_24 (tgt := 31) (by decide) (fun h24 => ?_) (fun h24 => ?_)
    · refine XR.iconst d_M_unreserve_31 (v := 2) (by decide) ?_
      refine XR.putfield d_M_unreserve_32 (xle rfl) (fun _ => rfl) rfl uin_M tyM_ok nmM (fk := 0) (xle rfl) f_M_45 rfl rfl (fun _ => rfl) (fun _ => xle rfl) ?_
      refine XR.aload_n d_M_unreserve_35 rfl ?_
      refine XR.getint d_M_unreserve_36 (xle rfl) rfl rfl uin_M (fk := 0) (xle rfl) f_M_45 rfl ?_
      refine XR.if_le d_M_unreserve_39 (tgt := 44) (by decide) (fun h => absurd h (show ¬ (2 : Int32) ≤ 0 by decide)) (fun _ => ?_)
      refine XR.iconst d_M_unreserve_42 (v := 0) (by decide) ?_
      refine XR.xreturn d_M_unreserve_43 rfl ?_
      exact ⟨by rw [rUnreserve, if_neg h6, if_pos h24] <;> rfl, by rw [rUnreserve, if_neg h6, if_pos h24] <;> rfl⟩
    refine XR.iconst d_M_unreserve_27 (v := 0) (by decide) ?_
    refine XR.goto d_M_unreserve_28 (tgt := 32) (by decide) ?_
    refine XR.putfield d_M_unreserve_32 (xle rfl) (fun _ => rfl) rfl uin_M tyM_ok nmM (fk := 0) (xle rfl) f_M_45 rfl rfl (fun _ => rfl) (fun _ => xle rfl) ?_
    refine XR.aload_n d_M_unreserve_35 rfl ?_
    refine XR.getint d_M_unreserve_36 (xle rfl) rfl rfl uin_M (fk := 0) (xle rfl) f_M_45 rfl ?_
    refine XR.if_le d_M_unreserve_39 (tgt := 44) (by decide) (fun _ => ?_) (fun h => absurd (show (0 : Int32) ≤ 0 by decide) h)
    refine XR.aload_n d_M_unreserve_44 rfl ?_
    refine XR.getref d_M_unreserve_45 (xle rfl) rfl rfl uin_M (fk := 12) (xle rfl) f_M_38 rfl (xle rfl) ?_
    refine XR.iload_n d_M_unreserve_48 rfl ?_
    refine XR.dup2 d_M_unreserve_49 rfl rfl ?_
    refine XR.iaload d_M_unreserve_50 (xle rfl) (fun _ => rfl) (rBk_in h6) ?_
    refine XR.iload_n d_M_unreserve_51 rfl ?_
    refine XR.isub d_M_unreserve_52 ?_
    refine XR.iastore d_M_unreserve_53 (xle rfl) (fun _ => rfl) (rBk_in h6) ?_
    refine XR.aload_n d_M_unreserve_54 rfl ?_
    refine XR.getref d_M_unreserve_55 (xle rfl) rfl rfl uin_M (fk := 12) (xle rfl) f_M_38 rfl (xle rfl) ?_
    refine XR.iload_n d_M_unreserve_58 rfl ?_
    refine XR.iaload d_M_unreserve_59 (xle rfl) (fun _ => rfl) (rBk_in h6) ?_
    refine XR.xreturn d_M_unreserve_60 rfl ?_
    exact ⟨by rw [rUnreserve, if_neg h6, if_neg h24] <;> rfl, by rw [rUnreserve, if_neg h6, if_neg h24] <;> rfl⟩
  refine XR.iconst d_M_unreserve_9 (v := 1) (by decide) ?_
  refine XR.goto d_M_unreserve_10 (tgt := 32) (by decide) ?_
  refine XR.putfield d_M_unreserve_32 (xle rfl) (fun _ => rfl) rfl uin_M tyM_ok nmM (fk := 0) (xle rfl) f_M_45 rfl rfl (fun _ => rfl) (fun _ => xle rfl) ?_
  refine XR.aload_n d_M_unreserve_35 rfl ?_
  refine XR.getint d_M_unreserve_36 (xle rfl) rfl rfl uin_M (fk := 0) (xle rfl) f_M_45 rfl ?_
  refine XR.if_le d_M_unreserve_39 (tgt := 44) (by decide) (fun h => absurd h (show ¬ (1 : Int32) ≤ 0 by decide)) (fun _ => ?_)
  refine XR.iconst d_M_unreserve_42 (v := 0) (by decide) ?_
  refine XR.xreturn d_M_unreserve_43 rfl ?_
  exact ⟨by rw [rUnreserve, if_pos h6] <;> rfl, by rw [rUnreserve, if_pos h6] <;> rfl⟩
theorem c_M_move (hr : rOK σ) (hw : rvOK σ) : XC E i_M_move 4 0 0 [.ref (xB E + 14), .int x, .int y] (xm σ) (xrn (rMove σ x y)) := by
  refine XC.ofF (by decide +kernel) cd_M_move rfl (xle rfl) ?_
  have hr0 : rOK (xu (xu σ 14 0 0) 15 (xn (rPl x)) (-1)) := hr.of rfl rfl
  have q : ¬ bz (rBk σ y) = 0 → rCh (xu (xu σ 14 0 0) 15 (xn (rPl x)) (-1)) 7 y := fun h => by
    have h1 := rBk_in h
    obtain ⟨j, hj, rfl⟩ := vp_in_of h1 (by decide)
    rw [bz_z, Bool.not_eq_false] at h
    simp only [rBk, Bool.and_eq_true, xnI (show j < 2 ^ 31 by omega)] at h
    exact hr0 j hj (show ¬ σ 20 j = 0 by simpa using h.2)
  refine XR.aload_n d_M_move_0 rfl ?_
  refine XR.aload_n d_M_move_1 rfl ?_
  refine XR.iload_n d_M_move_2 rfl ?_
  refine XR.cV (as := [_]) d_M_move_3 l_M_106 kv_M_lives (c_M_lives hw) rfl (xle rfl) rfl rfl (xle rfl) (xle rfl) ?_
  refine XR.if_ne d_M_move_6 (tgt := 13) (by decide) (fun h6 => ?_) (fun h6 => ?_)
  · refine XR.iload_n d_M_move_13 rfl ?_
    refine XR.cS (as := [_]) d_M_move_14 l_M_109 ks_M_isWeak (c_M_isWeak) rfl (xle rfl) (xle rfl) ?_
    refine XR.if_eq d_M_move_17 (tgt := 24) (by decide) (fun h17 => ?_) (fun h17 => ?_)
    · refine XR.aload_n d_M_move_24 rfl ?_
      refine XR.iload_n d_M_move_25 rfl ?_
      refine XR.cV (as := [_]) d_M_move_26 l_M_63 kv_M_isBank (c_M_isBank) rfl (xle rfl) rfl rfl (xle rfl) (xle rfl) ?_
      refine XR.if_ne d_M_move_29 (tgt := 36) (by decide) (fun h29 => ?_) (fun h29 => ?_)
      · refine XR.aload_n d_M_move_36 rfl ?_
        refine XR.iload_n d_M_move_37 rfl ?_
        refine XR.cV (as := [_]) d_M_move_38 l_M_67 kv_M_isOpen (c_M_isOpen (rBk_in h29)) rfl (xle rfl) rfl rfl (xle rfl) (xle rfl) ?_
        refine XR.if_ne d_M_move_41 (tgt := 48) (by decide) (fun h41 => ?_) (fun h41 => ?_)
        · refine XR.iconst d_M_move_48 (v := 0) (by decide) ?_
          refine XR.putfield d_M_move_49 (xle rfl) (fun _ => rfl) rfl uin_M tyM_ok nmM (fk := 0) (xle rfl) f_M_45 rfl rfl (fun _ => rfl) (fun _ => xle rfl) ?_
          refine XR.aload_n d_M_move_52 rfl ?_
          refine XR.getint d_M_move_53 (xle rfl) rfl rfl uin_M (fk := 0) (xle rfl) f_M_45 rfl ?_
          refine XR.if_le d_M_move_56 (tgt := 61) (by decide) (fun _ => ?_) (fun h => absurd (show (0 : Int32) ≤ 0 by decide) h)
          refine XR.iload_n d_M_move_61 rfl ?_
          refine XR.cS (as := [_]) d_M_move_62 l_M_103 ks_M_placeOf (c_M_placeOf) rfl (xle rfl) (xle rfl) ?_
          refine XR.istore_n d_M_move_65 (xle rfl) rfl ?_
          refine XR.aload_n d_M_move_66 rfl ?_
          refine XR.getref d_M_move_67 (xle rfl) rfl rfl uin_M (fk := 1) (xle rfl) f_M_7 rfl (xle rfl) ?_
          refine XR.iload_n d_M_move_70 rfl ?_
          refine XR.iaload d_M_move_71 (xle rfl) (fun _ => rfl) (rLv_in h6).1 ?_
          refine XR.istore d_M_move_72 (xle rfl) rfl ?_
          refine XR.aload_n d_M_move_74 rfl ?_
          refine XR.getref d_M_move_75 (xle rfl) rfl rfl uin_M (fk := 1) (xle rfl) f_M_7 rfl (xle rfl) ?_
          refine XR.iload_n d_M_move_78 rfl ?_
          refine XR.iconst d_M_move_79 (v := -1) (by decide) ?_
          refine XR.iastore d_M_move_80 (xle rfl) (fun _ => rfl) (rLv_in h6).1 ?_
          refine XR.aload_n d_M_move_81 rfl ?_
          refine XR.iload_n d_M_move_82 rfl ?_
          refine XR.iconst d_M_move_83 (v := 1) (by decide) ?_
          refine XR.cV (as := [_, _]) d_M_move_84 l_M_83 kv_M_refuser (c_M_refuser hr0 (q h29)) rfl (xle rfl) rfl rfl (xle rfl) (xle rfl) ?_
          refine XR.istore d_M_move_87 (xle rfl) rfl ?_
          refine XR.aload_n d_M_move_89 rfl ?_
          refine XR.getref d_M_move_90 (xle rfl) rfl rfl uin_M (fk := 1) (xle rfl) f_M_7 rfl (xle rfl) ?_
          refine XR.iload_n d_M_move_93 rfl ?_
          refine XR.iload d_M_move_94 rfl ?_
          refine XR.iastore d_M_move_96 (xle rfl) (fun _ => rfl) (rLv_in h6).1 ?_
          refine XR.iload d_M_move_97 rfl ?_
          refine XR.if_lt d_M_move_99 (tgt := 115) (by decide) (fun h99 => ?_) (fun h99 => ?_)
          · refine XR.aload_n d_M_move_115 rfl ?_
            refine XR.iload_n d_M_move_116 rfl ?_
            refine XR.iload_n d_M_move_117 rfl ?_
            refine XR.cV (as := [_, _]) d_M_move_118 l_M_92 kv_M_own (c_M_own (rLv_in h6).1) rfl (xle rfl) rfl rfl (xle rfl) (xle rfl) ?_
            refine XR.iload d_M_move_121 rfl ?_
            refine XR.xreturn d_M_move_123 rfl ?_
            exact ⟨by rw [rMove, if_neg h6, if_pos h17, if_neg h29, if_neg h41, if_pos h99] <;> rfl, by rw [rMove, if_neg h6, if_pos h17, if_neg h29, if_neg h41, if_pos h99] <;> rfl⟩
          refine XR.aload_n d_M_move_102 rfl ?_
          refine XR.aload_n d_M_move_103 rfl ?_
          refine XR.iconst d_M_move_104 (v := 5) (by decide) ?_
          refine XR.iload d_M_move_105 rfl ?_
          refine XR.cV (as := [_, _]) d_M_move_107 l_M_73 kv_M_unsupported (c_M_unsupported) rfl (xle rfl) rfl rfl (xle rfl) (xle rfl) ?_
          refine XR.putfield d_M_move_110 (xle rfl) (fun _ => rfl) rfl uin_M tyM_ok nmM (fk := 0) (xle rfl) f_M_45 rfl rfl (fun _ => rfl) (fun _ => xle rfl) ?_
          refine XR.iconst d_M_move_113 (v := 0) (by decide) ?_
          refine XR.xreturn d_M_move_114 rfl ?_
          exact ⟨by rw [rMove, if_neg h6, if_pos h17, if_neg h29, if_neg h41, if_neg h99] <;> rfl, by rw [rMove, if_neg h6, if_pos h17, if_neg h29, if_neg h41, if_neg h99] <;> rfl⟩
        refine XR.iconst d_M_move_44 (v := 4) (by decide) ?_
        refine XR.goto d_M_move_45 (tgt := 49) (by decide) ?_
        refine XR.putfield d_M_move_49 (xle rfl) (fun _ => rfl) rfl uin_M tyM_ok nmM (fk := 0) (xle rfl) f_M_45 rfl rfl (fun _ => rfl) (fun _ => xle rfl) ?_
        refine XR.aload_n d_M_move_52 rfl ?_
        refine XR.getint d_M_move_53 (xle rfl) rfl rfl uin_M (fk := 0) (xle rfl) f_M_45 rfl ?_
        refine XR.if_le d_M_move_56 (tgt := 61) (by decide) (fun h => absurd h (show ¬ (4 : Int32) ≤ 0 by decide)) (fun _ => ?_)
        refine XR.iconst d_M_move_59 (v := 0) (by decide) ?_
        refine XR.xreturn d_M_move_60 rfl ?_
        exact ⟨by rw [rMove, if_neg h6, if_pos h17, if_neg h29, if_pos h41] <;> rfl, by rw [rMove, if_neg h6, if_pos h17, if_neg h29, if_pos h41] <;> rfl⟩
      refine XR.iconst d_M_move_32 (v := 3) (by decide) ?_
      refine XR.goto d_M_move_33 (tgt := 49) (by decide) ?_
      refine XR.putfield d_M_move_49 (xle rfl) (fun _ => rfl) rfl uin_M tyM_ok nmM (fk := 0) (xle rfl) f_M_45 rfl rfl (fun _ => rfl) (fun _ => xle rfl) ?_
      refine XR.aload_n d_M_move_52 rfl ?_
      refine XR.getint d_M_move_53 (xle rfl) rfl rfl uin_M (fk := 0) (xle rfl) f_M_45 rfl ?_
      refine XR.if_le d_M_move_56 (tgt := 61) (by decide) (fun h => absurd h (show ¬ (3 : Int32) ≤ 0 by decide)) (fun _ => ?_)
      refine XR.iconst d_M_move_59 (v := 0) (by decide) ?_
      refine XR.xreturn d_M_move_60 rfl ?_
      exact ⟨by rw [rMove, if_neg h6, if_pos h17, if_pos h29] <;> rfl, by rw [rMove, if_neg h6, if_pos h17, if_pos h29] <;> rfl⟩
    refine XR.iconst d_M_move_20 (v := 2) (by decide) ?_
    refine XR.goto d_M_move_21 (tgt := 49) (by decide) ?_
    refine XR.putfield d_M_move_49 (xle rfl) (fun _ => rfl) rfl uin_M tyM_ok nmM (fk := 0) (xle rfl) f_M_45 rfl rfl (fun _ => rfl) (fun _ => xle rfl) ?_
    refine XR.aload_n d_M_move_52 rfl ?_
    refine XR.getint d_M_move_53 (xle rfl) rfl rfl uin_M (fk := 0) (xle rfl) f_M_45 rfl ?_
    refine XR.if_le d_M_move_56 (tgt := 61) (by decide) (fun h => absurd h (show ¬ (2 : Int32) ≤ 0 by decide)) (fun _ => ?_)
    refine XR.iconst d_M_move_59 (v := 0) (by decide) ?_
    refine XR.xreturn d_M_move_60 rfl ?_
    exact ⟨by rw [rMove, if_neg h6, if_neg h17] <;> rfl, by rw [rMove, if_neg h6, if_neg h17] <;> rfl⟩
  refine XR.iconst d_M_move_9 (v := 1) (by decide) ?_
  refine XR.goto d_M_move_10 (tgt := 49) (by decide) ?_
  refine XR.putfield d_M_move_49 (xle rfl) (fun _ => rfl) rfl uin_M tyM_ok nmM (fk := 0) (xle rfl) f_M_45 rfl rfl (fun _ => rfl) (fun _ => xle rfl) ?_
  refine XR.aload_n d_M_move_52 rfl ?_
  refine XR.getint d_M_move_53 (xle rfl) rfl rfl uin_M (fk := 0) (xle rfl) f_M_45 rfl ?_
  refine XR.if_le d_M_move_56 (tgt := 61) (by decide) (fun h => absurd h (show ¬ (1 : Int32) ≤ 0 by decide)) (fun _ => ?_)
  refine XR.iconst d_M_move_59 (v := 0) (by decide) ?_
  refine XR.xreturn d_M_move_60 rfl ?_
  exact ⟨by rw [rMove, if_pos h6] <;> rfl, by rw [rMove, if_pos h6] <;> rfl⟩
theorem c_M_isAlive (hw : rvOK σ) : XC E i_M_isAlive 3 0 0 [.ref (xB E + 14), .int x] (xm σ) (xok (some (.int (bz (rLv σ x)))) (xm (xu σ 14 0 0))) := by
  refine XC.ofF (by decide +kernel) cd_M_isAlive rfl (xle rfl) ?_
  refine XR.aload_n d_M_isAlive_0 rfl ?_
  refine XR.iconst d_M_isAlive_1 (v := 0) (by decide) ?_
  refine XR.putfield d_M_isAlive_2 (xle rfl) (fun _ => rfl) rfl uin_M tyM_ok nmM (fk := 0) (xle rfl) f_M_45 rfl rfl (fun _ => rfl) (fun _ => xle rfl) ?_
  refine XR.aload_n d_M_isAlive_5 rfl ?_
  refine XR.iload_n d_M_isAlive_6 rfl ?_
  refine XR.cV (as := [_]) d_M_isAlive_7 l_M_106 kv_M_lives (c_M_lives (σ := xu σ 14 0 0) (hw.of rfl)) rfl (xle rfl) rfl rfl (xle rfl) (xle rfl) ?_
  refine XR.zreturn d_M_isAlive_10 rfl ?_
  exact ⟨rfl, rfl⟩
theorem c_M_refused : XC E i_M_refused 1 0 0 [.ref (xB E + 14)] (xm σ) (xok (some (.int (σ 14 13))) (xm (xu σ 14 0 0))) := by
  refine XC.ofF (by decide +kernel) cd_M_refused rfl (xle rfl) ?_
  refine XR.aload_n d_M_refused_0 rfl ?_
  refine XR.iconst d_M_refused_1 (v := 0) (by decide) ?_
  refine XR.putfield d_M_refused_2 (xle rfl) (fun _ => rfl) rfl uin_M tyM_ok nmM (fk := 0) (xle rfl) f_M_45 rfl rfl (fun _ => rfl) (fun _ => xle rfl) ?_
  refine XR.aload_n d_M_refused_5 rfl ?_
  refine XR.getint d_M_refused_6 (xle rfl) rfl rfl uin_M (fk := 13) (xle rfl) f_M_41 rfl ?_
  refine XR.xreturn d_M_refused_9 rfl ?_
  exact ⟨rfl, rfl⟩
theorem c_M_astray : XC E i_M_astray 1 0 0 [.ref (xB E + 14)] (xm σ) (xok (some (.int 0)) (xm (xu σ 14 0 0))) := by
  refine XC.ofF (by decide +kernel) cd_M_astray rfl (xle rfl) ?_
  refine XR.aload_n d_M_astray_0 rfl ?_
  refine XR.iconst d_M_astray_1 (v := 0) (by decide) ?_
  refine XR.putfield d_M_astray_2 (xle rfl) (fun _ => rfl) rfl uin_M tyM_ok nmM (fk := 0) (xle rfl) f_M_45 rfl rfl (fun _ => rfl) (fun _ => xle rfl) ?_
  refine XR.iconst d_M_astray_5 (v := 0) (by decide) ?_
  refine XR.xreturn d_M_astray_6 rfl ?_
  exact ⟨rfl, rfl⟩
end XModel3
