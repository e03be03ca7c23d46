/-! the class's face, second half -/
theorem tClF_other {q : Nat} (hq : q ≠ 2) : ∀ (f i : Nat) (σ : xS), tClF f i σ q = σ q
  | 0, _, _ => rfl
  | f + 1, i, σ => by
    simp only [tClF]
    rw [tClF_other hq f _ _]
    split
    · exact xu_other hq
    · rfl
theorem tCl_other {σ : xS} {q : Nat} (hq : q ≠ 2) : tCl σ q = σ q := tClF_other hq 40 0 σ
theorem tCdF_other {top : Int32} {q : Nat} (h2 : q ≠ 2) (h5 : q ≠ 5) (h6 : q ≠ 6) : ∀ (f i : Nat) (σ : xS), tCdF top f i σ q = σ q
  | 0, _, _ => rfl
  | f + 1, i, σ => by
    simp only [tCdF]
    rw [tCdF_other h2 h5 h6 f _ _]
    split
    · rw [xu_other h5, tAu_other h6, xu_other h2]
    · rfl
theorem tCd_other {σ : xS} {top : Int32} {q : Nat} (h2 : q ≠ 2) (h5 : q ≠ 5) (h6 : q ≠ 6) : tCd σ top q = σ q := tCdF_other h2 h5 h6 40 0 σ
def bDyP (σ : xS) (p : Nat) : Bool := sTk σ p && tDy σ (σ 9 p)
def bDp (σ : xS) : Nat := xcn (bDyP σ) 192
def bWoP (σ : xS) (p : Nat) : Bool := sTk σ p && !tBk σ (σ 9 p)
/-- work: from the place i on, 'left' pages still to free -/
def bWoF : Nat → Nat → Int32 → xS → xS
  | 0, _, _, σ => σ
  | f + 1, i, left, σ => if left ≤ 0 then σ else if bDyP σ i = true then bWoF f (i + 1) (left - 1) (xu (tAu σ (σ 9 i) (-1)) 9 i (-1)) else bWoF f (i + 1) left σ
def cDestroy (σ : xS) (x : Int32) : xO × xS :=
  if tBk σ x = false then (.inr eI, σ) else if x = 0 then (.inr eA, σ) else if bz (tDy σ x) = 0 then (rI (nI (bDp (tCl (tCd σ x)))), tCl (tCd σ x)) else (.inr eS, σ)
def cHandUp (σ : xS) (m : Nat) (x : Int32) : xO × xS :=
  if tBk σ x = false then (.inr eI, σ) else if x = 0 then (.inr eA, σ) else if bz (tDy σ x) = 0 then (rI (nI (sOwn σ x)), tMg (sGa σ m x (σ 3 (xn x))) x) else (.inr eS, σ)
def cWeak (σ : xS) (x : Int32) : xO × xS := if bAl σ x = false then (.inr eN, σ) else (rI (x ||| 1), σ)
def cOwner (σ : xS) (x : Int32) : xO × xS := if bAl σ x = false then (.inr eN, σ) else (rI (σ 9 (xn (bPl x))), σ)
def cRead (σ : xS) (x y : Int32) : xO × xS := if bAl σ x = false then (.inr eN, σ) else if bz (bWord y) = 0 then (.inr eI, σ) else (rI (σ 11 (xn (bPl x * 4 + y))), σ)
def cWrite (σ : xS) (x y v : Int32) : xO × xS :=
  if bAl σ x = false then (.inr eN, σ) else if bz (bStrong x) = 0 then (.inr eA, σ) else if bz (bWord y) = 0 then (.inr eI, σ) else (rI (σ 11 (xn (bPl x * 4 + y))), xu σ 11 (xn (bPl x * 4 + y)) v)
abbrev cSellS (σ : xS) (m : Nat) (x : Int32) : xS := tAu (sGap (xu σ 9 (xn (bPl x)) (-1)) m) (σ 9 (xn (bPl x))) (-1)
def cSell (σ : xS) (m : Nat) (x : Int32) : xO × xS :=
  if bAl σ x = false then (.inr eN, σ) else if bz (bStrong x) = 0 then (.inr eA, σ) else (rI (σ 9 (xn (bPl x))), cSellS σ m x)
def cRunKey (σ : xS) (x y : Int32) : xO × xS :=
  if bAl σ x = false then (.inr eN, σ) else if bz (bStrong x) = 0 then (.inr eA, σ) else if y < 0 then (.inr eA, σ) else if 16 ≤ y then (.inr eA, σ)
  else if bz (sSame σ (bPl x) (bPl x + y)) = 0 then (rI 0, σ) else if bz (tDy σ (σ 9 (xn (bPl x + y)))) = 0 then (rI (1024 * σ 8 (xn (bPl x + y)) + 2 * (bPl x + y)), σ) else (rI 0, σ)
def cPage (σ : xS) (m : Nat) (x y : Int32) : xO × xS :=
  if tBk σ x = false then (.inr eI, σ) else if sPl σ m x y = -1 then (.inr eI, σ) else if bz (tDy σ x) = 0 then (rI (1024 * σ 8 (xn (sPl σ m x y)) + 2 * sPl σ m x y), σ) else (rI 0, σ)
theorem bW_in {k y : Int32} (hk : vp_in k 192) (hy : ¬ bz (bWord y) = 0) : vp_in (k * 4 + y) 768 := by
  have h0 : (0 : Int32).toInt = 0 := by decide
  have h4 : (4 : Int32).toInt = 4 := by decide
  rw [bz_z] at hy
  simp only [bWord, Bool.not_eq_false, Bool.and_eq_true, Bool.not_eq_true', decide_eq_false_iff_not, Int32.lt_iff_toInt_lt, Int32.le_iff_toInt_le, h0, h4] at hy
  obtain ⟨h1, h2⟩ := vp_in_iff.mp hk
  have e1 : (k * 4).toInt = k.toInt * 4 := by rw [tiM (by rw [h4]; omega) (by rw [h4]; omega), h4]
  rw [vp_in_iff, tiA (by rw [e1]; omega) (by rw [e1]; omega), e1]
  omega
theorem sPlF_in {σ : xS} {b k : Int32} {m : Nat} (h : ∀ i, i < m → vp_in (σ 12 i) 192) : ∀ (f i : Nat) (j : Int32), i + f = m → ¬ sPlF σ b k f i j = -1 → vp_in (sPlF σ b k f i j) 192
  | 0, _, _, _, hn => absurd rfl hn
  | f + 1, i, j, hi, hn => by
    simp only [sPlF] at hn ⊢
    split at hn
    · next e =>
      rw [if_pos e]
      split at hn
      · next e2 => rw [if_pos e2]; exact h i (by omega)
      · next e2 => rw [if_neg e2]; exact sPlF_in h f (i + 1) _ (by omega) hn
    · next e => rw [if_neg e]; exact sPlF_in h f (i + 1) _ (by omega) hn
theorem sGapF_other {q : Nat} (hq : q ≠ 12) : ∀ (f i k : Nat) (σ : xS), (sGapF f i k σ).2 q = σ q
  | 0, _, _, _ => rfl
  | f + 1, i, k, σ => by
    simp only [sGapF]
    split
    · rw [sGapF_other hq f _ _ _, xu_other hq]
    · rw [sGapF_other hq f _ _ _]
theorem sGap_other {q : Nat} (hq : q ≠ 12) (h7 : q ≠ 7) (σ : xS) (m : Nat) : sGap σ m q = σ q := by rw [sGap, xu_other h7, sGapF_other hq]
theorem sGap_3 (σ : xS) (m : Nat) : sGap σ m 3 = σ 3 := sGap_other (by decide) (by decide) σ m
theorem sGaF_other {x y : Int32} {q : Nat} (h12 : q ≠ 12) (h9 : q ≠ 9) (h13 : q ≠ 13) : ∀ (f i k g : Nat) (σ : xS), (sGaF x y f i k g σ).2.2 q = σ q
  | 0, _, _, _, _ => rfl
  | f + 1, i, k, g, σ => by
    simp only [sGaF]
    split
    · rw [sGaF_other h12 h9 h13 f _ _ _ _, xu_other h13, xu_other h9]
    · rw [sGaF_other h12 h9 h13 f _ _ _ _, xu_other h12]
theorem sGa_other {x y : Int32} {q : Nat} (h12 : q ≠ 12) (h9 : q ≠ 9) (h13 : q ≠ 13) (σ : xS) (m : Nat) : sGa σ m x y q = σ q := by rw [sGa, sGaE, xup_ne h12, sGaF_other h12 h9 h13]
theorem sGa_3 {x y : Int32} (σ : xS) (m : Nat) : sGa σ m x y 3 = σ 3 := sGa_other (by decide) (by decide) (by decide) σ m
section XFace2
variable {E : xE} {σ : xS} {x y v n : Int32}
theorem wOK_in (hw : wOK σ) {p : Nat} (hp : p < 192) (h : sTk σ p = true) : vp_in (σ 9 p) 40 := (hw p hp).resolve_left (by simpa [sTk] using h)
theorem c_B_isDyingPage (hw : wOK σ) (hx : vp_in x 192) : XC E i_B_isDyingPage 2 0 0 [.ref (xB E + 0), .int x] (xm σ) (xok (some (.int (bz (bDyP σ (xn x))))) (xm σ)) := by
  refine XC.ofF (by decide +kernel) cd_B_isDyingPage rfl (xle rfl) ?_
  have z : ¬ bz (sTk σ (xn x)) = 0 → sTk σ (xn x) = true := fun h => by rw [bz_z] at h; simpa using h
  refine XR.aload_n d_B_isDyingPage_0 rfl ?_
  refine XR.getref d_B_isDyingPage_1 (xle rfl) rfl rfl uin_B (fk := 1) (xle rfl) f_B_19 rfl (xle rfl) ?_
  refine XR.iload_n d_B_isDyingPage_4 rfl ?_
  refine XR.cV (as := [_]) d_B_isDyingPage_5 l_B_205 kv_S_isTaken (c_S_isTaken hx) rfl (xle rfl) rfl rfl (xle rfl) (xle rfl) ?_
  refine XR.if_eq d_B_isDyingPage_8 (tgt := 33) (by decide) (fun h8 => ?_) (fun h8 => ?_)
  · refine XR.iconst d_B_isDyingPage_33 (v := 0) (by decide) ?_
    refine XR.zret0 d_B_isDyingPage_34 rfl ?_
    exact xok_0 (by simp_all [bDyP, bz_z])
  refine XR.aload_n d_B_isDyingPage_11 rfl ?_
  refine XR.getref d_B_isDyingPage_12 (xle rfl) rfl rfl uin_B (fk := 0) (xle rfl) f_B_10 rfl (xle rfl) ?_
  refine XR.aload_n d_B_isDyingPage_15 rfl ?_
  refine XR.getref d_B_isDyingPage_16 (xle rfl) rfl rfl uin_B (fk := 1) (xle rfl) f_B_19 rfl (xle rfl) ?_
  refine XR.iload_n d_B_isDyingPage_19 rfl ?_
  refine XR.cV (as := [_]) d_B_isDyingPage_20 l_B_74 kv_S_ownerOf (c_S_ownerOf hx) rfl (xle rfl) rfl rfl (xle rfl) (xle rfl) ?_
  refine XR.cV (as := [_]) d_B_isDyingPage_23 l_B_77 kv_T_isDying (c_T_isDying (wOK_in hw (vp_in_xn hx) (z h8))) rfl (xle rfl) rfl rfl (xle rfl) (xle rfl) ?_
  refine XR.if_eq d_B_isDyingPage_26 (tgt := 33) (by decide) (fun h26 => ?_) (fun h26 => ?_)
  · refine XR.iconst d_B_isDyingPage_33 (v := 0) (by decide) ?_
    refine XR.zret0 d_B_isDyingPage_34 rfl ?_
    exact xok_0 (by simp_all [bDyP, bz_z])
  refine XR.iconst d_B_isDyingPage_29 (v := 1) (by decide) ?_
  refine XR.goto d_B_isDyingPage_30 (tgt := 34) (by decide) ?_
  refine XR.zret1 d_B_isDyingPage_34 rfl ?_
  exact xok_1 (by simp_all [bDyP, bz_z])
theorem c_B_isWithoutBank (hx : vp_in x 192) : XC E i_B_isWithoutBank 2 0 0 [.ref (xB E + 0), .int x] (xm σ) (xok (some (.int (bz (bWoP σ (xn x))))) (xm σ)) := by
  refine XC.ofF (by decide +kernel) cd_B_isWithoutBank rfl (xle rfl) ?_
  refine XR.aload_n d_B_isWithoutBank_0 rfl ?_
  refine XR.getref d_B_isWithoutBank_1 (xle rfl) rfl rfl uin_B (fk := 1) (xle rfl) f_B_19 rfl (xle rfl) ?_
  refine XR.iload_n d_B_isWithoutBank_4 rfl ?_
  refine XR.cV (as := [_]) d_B_isWithoutBank_5 l_B_205 kv_S_isTaken (c_S_isTaken hx) rfl (xle rfl) rfl rfl (xle rfl) (xle rfl) ?_
  refine XR.if_eq d_B_isWithoutBank_8 (tgt := 33) (by decide) (fun h8 => ?_) (fun h8 => ?_)
  · refine XR.iconst d_B_isWithoutBank_33 (v := 0) (by decide) ?_
    refine XR.zret0 d_B_isWithoutBank_34 rfl ?_
    exact xok_0 (by simp_all [bWoP, bz_z])
  refine XR.aload_n d_B_isWithoutBank_11 rfl ?_
  refine XR.getref d_B_isWithoutBank_12 (xle rfl) rfl rfl uin_B (fk := 0) (xle rfl) f_B_10 rfl (xle rfl) ?_
  refine XR.aload_n d_B_isWithoutBank_15 rfl ?_
  refine XR.getref d_B_isWithoutBank_16 (xle rfl) rfl rfl uin_B (fk := 1) (xle rfl) f_B_19 rfl (xle rfl) ?_
  refine XR.iload_n d_B_isWithoutBank_19 rfl ?_
  refine XR.cV (as := [_]) d_B_isWithoutBank_20 l_B_74 kv_S_ownerOf (c_S_ownerOf hx) rfl (xle rfl) rfl rfl (xle rfl) (xle rfl) ?_
  refine XR.cV (as := [_]) d_B_isWithoutBank_23 l_B_190 kv_T_isBank (c_T_isBank) rfl (xle rfl) rfl rfl (xle rfl) (xle rfl) ?_
  refine XR.if_ne d_B_isWithoutBank_26 (tgt := 33) (by decide) (fun h26 => ?_) (fun h26 => ?_)
  · refine XR.iconst d_B_isWithoutBank_33 (v := 0) (by decide) ?_
    refine XR.zret0 d_B_isWithoutBank_34 rfl ?_
    exact xok_0 (by simp_all [bWoP, bz_z])
  refine XR.iconst d_B_isWithoutBank_29 (v := 1) (by decide) ?_
  refine XR.goto d_B_isWithoutBank_30 (tgt := 34) (by decide) ?_
  refine XR.zret1 d_B_isWithoutBank_34 rfl ?_
  exact xok_1 (by simp_all [bWoP, bz_z])
theorem c_B_dyingPages (hw : wOK σ) : XC E i_B_dyingPages 3 0 0 [.ref (xB E + 0)] (xm σ) (xok (some (.int (nI (bDp σ)))) (xm σ)) := by
  refine XC.ofF (by decide +kernel) cd_B_dyingPages rfl (xle rfl) ?_
  have loop : ∀ (f i k : Nat), i + f = 192 → k = xcn (bDyP σ) i → XR E i_B_dyingPages 3 0 0 (xok (some (.int (nI (bDp σ)))) (xm σ)) 4 [.ref (xB E + 0), .int (nI k), .int (nI i)] [] (xm σ) := by
    intro f
    induction f with
    | zero =>
      intro i k hi hk
      have : i = 192 := by omega
      subst this; subst hk
      refine XR.iload_n d_B_dyingPages_4 rfl ?_
      refine XR.sipush d_B_dyingPages_5 (v := 192) (by decide) ?_
      refine XR.icmp_ge d_B_dyingPages_8 (tgt := 28) (by decide) (fun _ => ?_) (fun h => absurd (by decide) h)
      refine XR.iload_n d_B_dyingPages_28 rfl ?_
      refine XR.xreturn d_B_dyingPages_29 rfl ?_
      exact ⟨rfl, rfl⟩
    | succ f ih =>
      intro i k hi hk
      have ei : xn (nI i) = i := nI_clamp (by omega)
      refine XR.iload_n d_B_dyingPages_4 rfl ?_
      refine XR.sipush d_B_dyingPages_5 (v := 192) (by decide) ?_
      refine XR.icmp_ge d_B_dyingPages_8 (tgt := 28) (by decide) (fun h => absurd h (nn_le (n := 192) (by omega) (by decide))) (fun _ => ?_)
      refine XR.aload_n d_B_dyingPages_11 rfl ?_
      refine XR.iload_n d_B_dyingPages_12 rfl ?_
      refine XR.cV (as := [_]) d_B_dyingPages_13 l_B_145 kv_B_isDyingPage (c_B_isDyingPage hw (vp_in_nI (by omega) (by decide))) rfl (xle rfl) rfl rfl (xle rfl) (xle rfl) ?_
      refine XR.if_eq d_B_dyingPages_16 (tgt := 22) (by decide) (fun h16 => ?_) (fun h16 => ?_)
      · refine XR.iincN d_B_dyingPages_22 rfl (xle rfl) rfl ?_
        refine XR.goto d_B_dyingPages_25 (tgt := 4) (by decide) ?_
        exact ih (i + 1) _ (by omega) (by clear ih; simp_all [xcn, bz_z])
      refine XR.iincN d_B_dyingPages_19 rfl (xle rfl) rfl ?_
      refine XR.iincN d_B_dyingPages_22 rfl (xle rfl) rfl ?_
      refine XR.goto d_B_dyingPages_25 (tgt := 4) (by decide) ?_
      exact ih (i + 1) _ (by omega) (by clear ih; simp_all [xcn, bz_z])
  refine XR.iconst d_B_dyingPages_0 (v := nI 0) (by decide) ?_
  refine XR.istore_n d_B_dyingPages_1 (xle rfl) rfl ?_
  refine XR.iconst d_B_dyingPages_2 (v := nI 0) (by decide) ?_
  refine XR.istore_n d_B_dyingPages_3 (xle rfl) rfl ?_
  exact loop 192 0 0 rfl rfl
theorem c_B_weak (hw : wOK σ) : XC E i_B_weak 7 0 0 [.ref (xB E + 0), .int x] (xm σ) (xfn (cWeak σ x)) := by
  refine XC.ofF (by decide +kernel) cd_B_weak rfl (xle rfl) ?_
  refine XR.aload_n d_B_weak_0 rfl ?_
  refine XR.iload_n d_B_weak_1 rfl ?_
  refine XR.cVt (as := [_]) d_B_weak_2 l_B_61 kv_B_requireAlive (c_B_requireAlive hw) rfl (xle rfl) rfl rfl (xle rfl) (xle rfl) rfl (fun h2 => ?_) (fun h2 => ?_)
  · exact ⟨by rw [cWeak, if_pos h2], by rw [cWeak, if_pos h2]⟩
  refine XR.iload_n d_B_weak_5 rfl ?_
  refine XR.iconst d_B_weak_6 (v := 1) (by decide) ?_
  refine XR.ior d_B_weak_7 ?_
  refine XR.xreturn d_B_weak_8 rfl ?_
  exact ⟨by rw [cWeak, if_neg h2], by rw [cWeak, if_neg h2]⟩
theorem c_B_owner (hw : wOK σ) : XC E i_B_owner 7 0 0 [.ref (xB E + 0), .int x] (xm σ) (xfn (cOwner σ x)) := by
  refine XC.ofF (by decide +kernel) cd_B_owner rfl (xle rfl) ?_
  have q : ¬ bAl σ x = false → vp_in (bPl x) 192 := fun h => (bAl_in (by simpa using h)).1
  refine XR.aload_n d_B_owner_0 rfl ?_
  refine XR.iload_n d_B_owner_1 rfl ?_
  refine XR.cVt (as := [_]) d_B_owner_2 l_B_61 kv_B_requireAlive (c_B_requireAlive hw) rfl (xle rfl) rfl rfl (xle rfl) (xle rfl) rfl (fun h2 => ?_) (fun h2 => ?_)
  · exact ⟨by rw [cOwner, if_pos h2], by rw [cOwner, if_pos h2]⟩
  refine XR.aload_n d_B_owner_5 rfl ?_
  refine XR.getref d_B_owner_6 (xle rfl) rfl rfl uin_B (fk := 1) (xle rfl) f_B_19 rfl (xle rfl) ?_
  refine XR.iload_n d_B_owner_9 rfl ?_
  refine XR.cS (as := [_]) d_B_owner_10 l_B_67 ks_B_placeOf (c_B_placeOf) rfl (xle rfl) (xle rfl) ?_
  refine XR.cV (as := [_]) d_B_owner_13 l_B_74 kv_S_ownerOf (c_S_ownerOf (q h2)) rfl (xle rfl) rfl rfl (xle rfl) (xle rfl) ?_
  refine XR.xreturn d_B_owner_16 rfl ?_
  exact ⟨by rw [cOwner, if_neg h2], by rw [cOwner, if_neg h2]⟩
theorem c_B_read (hw : wOK σ) : XC E i_B_read 7 0 0 [.ref (xB E + 0), .int x, .int y] (xm σ) (xfn (cRead σ x y)) := by
  refine XC.ofF (by decide +kernel) cd_B_read rfl (xle rfl) ?_
  have q : ¬ bAl σ x = false → vp_in (bPl x) 192 := fun h => (bAl_in (by simpa using h)).1
  refine XR.aload_n d_B_read_0 rfl ?_
  refine XR.iload_n d_B_read_1 rfl ?_
  refine XR.cVt (as := [_]) d_B_read_2 l_B_61 kv_B_requireAlive (c_B_requireAlive hw) rfl (xle rfl) rfl rfl (xle rfl) (xle rfl) rfl (fun h2 => ?_) (fun h2 => ?_)
  · exact ⟨by rw [cRead, if_pos h2], by rw [cRead, if_pos h2]⟩
  refine XR.iload_n d_B_read_5 rfl ?_
  refine XR.cS (as := [_]) d_B_read_6 l_B_93 ks_B_isWord (c_B_isWord) rfl (xle rfl) (xle rfl) ?_
  refine XR.cSt (as := [_]) d_B_read_9 l_B_96 ks_B_requireIndex (c_B_requireIndex) rfl (xle rfl) (xle rfl) rfl (fun h9 => ?_) (fun h9 => ?_)
  · exact ⟨by rw [cRead, if_neg h2, if_pos h9], by rw [cRead, if_neg h2, if_pos h9]⟩
  refine XR.aload_n d_B_read_12 rfl ?_
  refine XR.getref d_B_read_13 (xle rfl) rfl rfl uin_B (fk := 1) (xle rfl) f_B_19 rfl (xle rfl) ?_
  refine XR.iload_n d_B_read_16 rfl ?_
  refine XR.cS (as := [_]) d_B_read_17 l_B_67 ks_B_placeOf (c_B_placeOf) rfl (xle rfl) (xle rfl) ?_
  refine XR.iload_n d_B_read_20 rfl ?_
  refine XR.cV (as := [_, _]) d_B_read_21 l_B_99 kv_S_wordAt (c_S_wordAt (bW_in (q h2) h9)) rfl (xle rfl) rfl rfl (xle rfl) (xle rfl) ?_
  refine XR.xreturn d_B_read_24 rfl ?_
  exact ⟨by rw [cRead, if_neg h2, if_neg h9], by rw [cRead, if_neg h2, if_neg h9]⟩
theorem c_B_write (hw : wOK σ) : XC E i_B_write 7 0 0 [.ref (xB E + 0), .int x, .int y, .int v] (xm σ) (xfn (cWrite σ x y v)) := by
  refine XC.ofF (by decide +kernel) cd_B_write rfl (xle rfl) ?_
  have q : ¬ bAl σ x = false → vp_in (bPl x) 192 := fun h => (bAl_in (by simpa using h)).1
  refine XR.aload_n d_B_write_0 rfl ?_
  refine XR.iload_n d_B_write_1 rfl ?_
  refine XR.cVt (as := [_]) d_B_write_2 l_B_61 kv_B_requireAlive (c_B_requireAlive hw) rfl (xle rfl) rfl rfl (xle rfl) (xle rfl) rfl (fun h2 => ?_) (fun h2 => ?_)
  · exact ⟨by rw [cWrite, if_pos h2], by rw [cWrite, if_pos h2]⟩
  refine XR.iload_n d_B_write_5 rfl ?_
  refine XR.cS (as := [_]) d_B_write_6 l_B_64 ks_B_isStrong (c_B_isStrong) rfl (xle rfl) (xle rfl) ?_
  refine XR.cSt (as := [_]) d_B_write_9 l_B_35 ks_B_requireArgument (c_B_requireArgument) rfl (xle rfl) (xle rfl) rfl (fun h9 => ?_) (fun h9 => ?_)
  · exact ⟨by rw [cWrite, if_neg h2, if_pos h9], by rw [cWrite, if_neg h2, if_pos h9]⟩
  refine XR.iload_n d_B_write_12 rfl ?_
  refine XR.cS (as := [_]) d_B_write_13 l_B_93 ks_B_isWord (c_B_isWord) rfl (xle rfl) (xle rfl) ?_
  refine XR.cSt (as := [_]) d_B_write_16 l_B_96 ks_B_requireIndex (c_B_requireIndex) rfl (xle rfl) (xle rfl) rfl (fun h16 => ?_) (fun h16 => ?_)
  · exact ⟨by rw [cWrite, if_neg h2, if_neg h9, if_pos h16], by rw [cWrite, if_neg h2, if_neg h9, if_pos h16]⟩
  refine XR.aload_n d_B_write_19 rfl ?_
  refine XR.getref d_B_write_20 (xle rfl) rfl rfl uin_B (fk := 1) (xle rfl) f_B_19 rfl (xle rfl) ?_
  refine XR.iload_n d_B_write_23 rfl ?_
  refine XR.cS (as := [_]) d_B_write_24 l_B_67 ks_B_placeOf (c_B_placeOf) rfl (xle rfl) (xle rfl) ?_
  refine XR.iload_n d_B_write_27 rfl ?_
  refine XR.iload_n d_B_write_28 rfl ?_
  refine XR.cV (as := [_, _, _]) d_B_write_29 l_B_102 kv_S_replaceWord (c_S_replaceWord (bW_in (q h2) h16)) rfl (xle rfl) rfl rfl (xle rfl) (xle rfl) ?_
  refine XR.xreturn d_B_write_32 rfl ?_
  exact ⟨by rw [cWrite, if_neg h2, if_neg h9, if_neg h16], by rw [cWrite, if_neg h2, if_neg h9, if_neg h16]⟩
theorem c_B_runKey (hw : wOK σ) : XC E i_B_runKey 7 0 0 [.ref (xB E + 0), .int x, .int y] (xm σ) (xfn (cRunKey σ x y)) := by
  refine XC.ofF (by decide +kernel) cd_B_runKey rfl (xle rfl) ?_
  have q : ¬ bAl σ x = false → vp_in (bPl x) 192 := fun h => (bAl_in (by simpa using h)).1
  have q2 : ¬ bAl σ x = false → ¬ y < 0 → ¬ 16 ≤ y → ¬ bPl x + y < 0 := fun h h1 h2 => by
    obtain ⟨g1, g2⟩ := vp_in_iff.mp (q h)
    have h0 : (0 : Int32).toInt = 0 := by decide
    have h16 : (16 : Int32).toInt = 16 := by decide
    rw [Int32.lt_iff_toInt_lt, h0] at h1 ⊢
    rw [Int32.le_iff_toInt_le, h16] at h2
    rw [tiA (by omega) (by omega)]
    omega
  have q3 : ¬ bAl σ x = false → ¬ y < 0 → ¬ 16 ≤ y → ¬ bz (sSame σ (bPl x) (bPl x + y)) = 0 → vp_in (bPl x + y) 192 ∧ vp_in (σ 9 (xn (bPl x + y))) 40 := fun h h1 h2 h3 => by
    rw [bz_z] at h3
    simp only [sSame, Bool.not_eq_false, Bool.and_eq_true, Bool.not_eq_true', decide_eq_false_iff_not] at h3
    have g := vp_in_lt (q2 h h1 h2) h3.1.1 (by decide : (192 : Int32).toInt = 192)
    exact ⟨g, wOK_in hw (vp_in_xn g) h3.1.2⟩
  refine XR.aload_n d_B_runKey_0 rfl ?_
  refine XR.iload_n d_B_runKey_1 rfl ?_
  refine XR.cVt (as := [_]) d_B_runKey_2 l_B_61 kv_B_requireAlive (c_B_requireAlive hw) rfl (xle rfl) rfl rfl (xle rfl) (xle rfl) rfl (fun h2 => ?_) (fun h2 => ?_)
  · exact ⟨by rw [cRunKey, if_pos h2], by rw [cRunKey, if_pos h2]⟩
  refine XR.iload_n d_B_runKey_5 rfl ?_
  refine XR.cS (as := [_]) d_B_runKey_6 l_B_64 ks_B_isStrong (c_B_isStrong) rfl (xle rfl) (xle rfl) ?_
  refine XR.if_eq d_B_runKey_9 (tgt := 26) (by decide) (fun h9 => ?_) (fun h9 => ?_)
  · refine XR.iconst d_B_runKey_26 (v := 0) (by decide) ?_
    refine XR.cSt (as := [_]) d_B_runKey_27 l_B_35 ks_B_requireArgument (c_B_requireArgument) rfl (xle rfl) (xle rfl) rfl (fun h27 => ?_) (fun h27 => ?_)
    · exact ⟨by rw [cRunKey, if_neg h2, if_pos h9], by rw [cRunKey, if_neg h2, if_pos h9]⟩
    exact absurd rfl h27
  refine XR.iload_n d_B_runKey_12 rfl ?_
  refine XR.if_lt d_B_runKey_13 (tgt := 26) (by decide) (fun h13 => ?_) (fun h13 => ?_)
  · refine XR.iconst d_B_runKey_26 (v := 0) (by decide) ?_
    refine XR.cSt (as := [_]) d_B_runKey_27 l_B_35 ks_B_requireArgument (c_B_requireArgument) rfl (xle rfl) (xle rfl) rfl (fun h27 => ?_) (fun h27 => ?_)
    · exact ⟨by rw [cRunKey, if_neg h2, if_neg h9, if_pos h13], by rw [cRunKey, if_neg h2, if_neg h9, if_pos h13]⟩
    exact absurd rfl h27
  refine XR.iload_n d_B_runKey_16 rfl ?_
  refine XR.bipush d_B_runKey_17 (v := 16) (by decide) ?_
  refine XR.icmp_ge d_B_runKey_19 (tgt := 26) (by decide) (fun h19 => ?_) (fun h19 => ?_)
  · refine XR.iconst d_B_runKey_26 (v := 0) (by decide) ?_
    refine XR.cSt (as := [_]) d_B_runKey_27 l_B_35 ks_B_requireArgument (c_B_requireArgument) rfl (xle rfl) (xle rfl) rfl (fun h27 => ?_) (fun h27 => ?_)
    · exact ⟨by rw [cRunKey, if_neg h2, if_neg h9, if_neg h13, if_pos h19], by rw [cRunKey, if_neg h2, if_neg h9, if_neg h13, if_pos h19]⟩
    exact absurd rfl h27
  refine XR.iconst d_B_runKey_22 (v := 1) (by decide) ?_
  refine XR.goto d_B_runKey_23 (tgt := 27) (by decide) ?_
  refine XR.cSt (as := [_]) d_B_runKey_27 l_B_35 ks_B_requireArgument (c_B_requireArgument) rfl (xle rfl) (xle rfl) rfl (fun h27 => ?_) (fun h27 => ?_)
  · exact absurd h27 (by decide)
  refine XR.iload_n d_B_runKey_30 rfl ?_
  refine XR.cS (as := [_]) d_B_runKey_31 l_B_67 ks_B_placeOf (c_B_placeOf) rfl (xle rfl) (xle rfl) ?_
  refine XR.istore_n d_B_runKey_34 (xle rfl) rfl ?_
  refine XR.iload_n d_B_runKey_35 rfl ?_
  refine XR.iload_n d_B_runKey_36 rfl ?_
  refine XR.iadd d_B_runKey_37 ?_
  refine XR.istore d_B_runKey_38 (xle rfl) rfl ?_
  refine XR.aload_n d_B_runKey_40 rfl ?_
  refine XR.getref d_B_runKey_41 (xle rfl) rfl rfl uin_B (fk := 1) (xle rfl) f_B_19 rfl (xle rfl) ?_
  refine XR.iload_n d_B_runKey_44 rfl ?_
  refine XR.iload d_B_runKey_45 rfl ?_
  refine XR.cV (as := [_, _]) d_B_runKey_47 l_B_70 kv_S_isSameRun (c_S_isSameRun (q h2) (q2 h2 h13 h19)) rfl (xle rfl) rfl rfl (xle rfl) (xle rfl) ?_
  refine XR.if_eq d_B_runKey_50 (tgt := 72) (by decide) (fun h50 => ?_) (fun h50 => ?_)
  · refine XR.iconst d_B_runKey_72 (v := 0) (by decide) ?_
    refine XR.xreturn d_B_runKey_73 rfl ?_
    exact ⟨by rw [cRunKey, if_neg h2, if_neg h9, if_neg h13, if_neg h19, if_pos h50], by rw [cRunKey, if_neg h2, if_neg h9, if_neg h13, if_neg h19, if_pos h50]⟩
  refine XR.aload_n d_B_runKey_53 rfl ?_
  refine XR.getref d_B_runKey_54 (xle rfl) rfl rfl uin_B (fk := 0) (xle rfl) f_B_10 rfl (xle rfl) ?_
  refine XR.aload_n d_B_runKey_57 rfl ?_
  refine XR.getref d_B_runKey_58 (xle rfl) rfl rfl uin_B (fk := 1) (xle rfl) f_B_19 rfl (xle rfl) ?_
  refine XR.iload d_B_runKey_61 rfl ?_
  refine XR.cV (as := [_]) d_B_runKey_63 l_B_74 kv_S_ownerOf (c_S_ownerOf (q3 h2 h13 h19 h50).1) rfl (xle rfl) rfl rfl (xle rfl) (xle rfl) ?_
  refine XR.cV (as := [_]) d_B_runKey_66 l_B_77 kv_T_isDying (c_T_isDying (q3 h2 h13 h19 h50).2) rfl (xle rfl) rfl rfl (xle rfl) (xle rfl) ?_
  refine XR.if_eq d_B_runKey_69 (tgt := 74) (by decide) (fun h69 => ?_) (fun h69 => ?_)
  · refine XR.aload_n d_B_runKey_74 rfl ?_
    refine XR.getref d_B_runKey_75 (xle rfl) rfl rfl uin_B (fk := 1) (xle rfl) f_B_19 rfl (xle rfl) ?_
    refine XR.iload d_B_runKey_78 rfl ?_
    refine XR.cV (as := [_]) d_B_runKey_80 l_B_80 kv_S_strongKey (c_S_strongKey (q3 h2 h13 h19 h50).1) rfl (xle rfl) rfl rfl (xle rfl) (xle rfl) ?_
    refine XR.xreturn d_B_runKey_83 rfl ?_
    exact ⟨by rw [cRunKey, if_neg h2, if_neg h9, if_neg h13, if_neg h19, if_neg h50, if_pos h69], by rw [cRunKey, if_neg h2, if_neg h9, if_neg h13, if_neg h19, if_neg h50, if_pos h69]⟩
  refine XR.iconst d_B_runKey_72 (v := 0) (by decide) ?_
  refine XR.xreturn d_B_runKey_73 rfl ?_
  exact ⟨by rw [cRunKey, if_neg h2, if_neg h9, if_neg h13, if_neg h19, if_neg h50, if_neg h69], by rw [cRunKey, if_neg h2, if_neg h9, if_neg h13, if_neg h19, if_neg h50, if_neg h69]⟩
theorem c_B_sell {m : Nat} (hp : pOK σ) (hw : wOK σ) (ho : oOK σ m) : XC E i_B_sell 7 0 0 [.ref (xB E + 0), .int x] (xm σ) (xfn (cSell σ m x)) := by
  refine XC.ofF (by decide +kernel) cd_B_sell rfl (xle rfl) ?_
  have q : ¬ bAl σ x = false → vp_in (bPl x) 192 := fun h => (bAl_in (by simpa using h)).1
  have ho2 : oOK (xu σ 9 (xn (bPl x)) (-1)) m := ho
  have hp2 : pOK (sGap (xu σ 9 (xn (bPl x)) (-1)) m) := hp.of (sGap_3 _ _)
  refine XR.aload_n d_B_sell_0 rfl ?_
  refine XR.iload_n d_B_sell_1 rfl ?_
  refine XR.cVt (as := [_]) d_B_sell_2 l_B_61 kv_B_requireAlive (c_B_requireAlive hw) rfl (xle rfl) rfl rfl (xle rfl) (xle rfl) rfl (fun h2 => ?_) (fun h2 => ?_)
  · exact ⟨by rw [cSell, if_pos h2], by rw [cSell, if_pos h2]⟩
  refine XR.iload_n d_B_sell_5 rfl ?_
  refine XR.cS (as := [_]) d_B_sell_6 l_B_64 ks_B_isStrong (c_B_isStrong) rfl (xle rfl) (xle rfl) ?_
  refine XR.cSt (as := [_]) d_B_sell_9 l_B_35 ks_B_requireArgument (c_B_requireArgument) rfl (xle rfl) (xle rfl) rfl (fun h9 => ?_) (fun h9 => ?_)
  · exact ⟨by rw [cSell, if_neg h2, if_pos h9], by rw [cSell, if_neg h2, if_pos h9]⟩
  refine XR.iload_n d_B_sell_12 rfl ?_
  refine XR.cS (as := [_]) d_B_sell_13 l_B_67 ks_B_placeOf (c_B_placeOf) rfl (xle rfl) (xle rfl) ?_
  refine XR.istore_n d_B_sell_16 (xle rfl) rfl ?_
  refine XR.aload_n d_B_sell_17 rfl ?_
  refine XR.getref d_B_sell_18 (xle rfl) rfl rfl uin_B (fk := 1) (xle rfl) f_B_19 rfl (xle rfl) ?_
  refine XR.iload_n d_B_sell_21 rfl ?_
  refine XR.cV (as := [_]) d_B_sell_22 l_B_74 kv_S_ownerOf (c_S_ownerOf (q h2)) rfl (xle rfl) rfl rfl (xle rfl) (xle rfl) ?_
  refine XR.istore_n d_B_sell_25 (xle rfl) rfl ?_
  refine XR.aload_n d_B_sell_26 rfl ?_
  refine XR.getref d_B_sell_27 (xle rfl) rfl rfl uin_B (fk := 1) (xle rfl) f_B_19 rfl (xle rfl) ?_
  refine XR.iload_n d_B_sell_30 rfl ?_
  refine XR.cV (as := [_]) d_B_sell_31 l_B_83 kv_S_vacate (c_S_vacate (q h2)) rfl (xle rfl) rfl rfl (xle rfl) (xle rfl) ?_
  refine XR.aload_n d_B_sell_34 rfl ?_
  refine XR.getref d_B_sell_35 (xle rfl) rfl rfl uin_B (fk := 1) (xle rfl) f_B_19 rfl (xle rfl) ?_
  refine XR.cV (as := []) d_B_sell_38 l_B_86 kv_S_closeGaps (c_S_closeGaps ho2) rfl (xle rfl) rfl rfl (xle rfl) (xle rfl) ?_
  refine XR.aload_n d_B_sell_41 rfl ?_
  refine XR.getref d_B_sell_42 (xle rfl) rfl rfl uin_B (fk := 0) (xle rfl) f_B_10 rfl (xle rfl) ?_
  refine XR.iload_n d_B_sell_45 rfl ?_
  refine XR.iconst d_B_sell_46 (v := -1) (by decide) ?_
  refine XR.cV (as := [_, _]) d_B_sell_47 l_B_89 kv_T_addUse (c_T_addUse hp2 (hw _ (vp_in_xn (q h2)))) rfl (xle rfl) rfl rfl (xle rfl) (xle rfl) ?_
  refine XR.iload_n d_B_sell_50 rfl ?_
  refine XR.xreturn d_B_sell_51 rfl ?_
  exact ⟨by rw [cSell, if_neg h2, if_neg h9], by rw [cSell, if_neg h2, if_neg h9]⟩
theorem c_B_page {m : Nat} (ho : oOK σ m) : XC E i_B_page 8 0 0 [.ref (xB E + 0), .int x, .int y] (xm σ) (xfn (cPage σ m x y)) := by
  refine XC.ofF (by decide +kernel) cd_B_page rfl (xle rfl) ?_
  have q : ¬ sPl σ m x y = -1 → vp_in (sPl σ m x y) 192 := fun h => sPlF_in ho.2.2 m 0 0 (by omega) h
  refine XR.aload_n d_B_page_0 rfl ?_
  refine XR.iload_n d_B_page_1 rfl ?_
  refine XR.cVt (as := [_]) d_B_page_2 l_B_27 kv_B_requireBank (c_B_requireBank) rfl (xle rfl) rfl rfl (xle rfl) (xle rfl) rfl (fun h2 => ?_) (fun h2 => ?_)
  · exact ⟨by rw [cPage, if_pos h2], by rw [cPage, if_pos h2]⟩
  refine XR.aload_n d_B_page_5 rfl ?_
  refine XR.getref d_B_page_6 (xle rfl) rfl rfl uin_B (fk := 1) (xle rfl) f_B_19 rfl (xle rfl) ?_
  refine XR.iload_n d_B_page_9 rfl ?_
  refine XR.iload_n d_B_page_10 rfl ?_
  refine XR.cV (as := [_, _]) d_B_page_11 l_B_172 kv_S_placeOfOwned (c_S_placeOfOwned ho) rfl (xle rfl) rfl rfl (xle rfl) (xle rfl) ?_
  refine XR.istore_n d_B_page_14 (xle rfl) rfl ?_
  refine XR.iload_n d_B_page_15 rfl ?_
  refine XR.iconst d_B_page_16 (v := -1) (by decide) ?_
  refine XR.icmp_eq d_B_page_17 (tgt := 24) (by decide) (fun h17 => ?_) (fun h17 => ?_)
  · refine XR.iconst d_B_page_24 (v := 0) (by decide) ?_
    refine XR.cSt (as := [_]) d_B_page_25 l_B_96 ks_B_requireIndex (c_B_requireIndex) rfl (xle rfl) (xle rfl) rfl (fun h25 => ?_) (fun h25 => ?_)
    · exact ⟨by rw [cPage, if_neg h2, if_pos h17], by rw [cPage, if_neg h2, if_pos h17]⟩
    exact absurd rfl h25
  refine XR.iconst d_B_page_20 (v := 1) (by decide) ?_
  refine XR.goto d_B_page_21 (tgt := 25) (by decide) ?_
  refine XR.cSt (as := [_]) d_B_page_25 l_B_96 ks_B_requireIndex (c_B_requireIndex) rfl (xle rfl) (xle rfl) rfl (fun h25 => ?_) (fun h25 => ?_)
  · exact absurd h25 (by decide)
  refine XR.aload_n d_B_page_28 rfl ?_
  refine XR.getref d_B_page_29 (xle rfl) rfl rfl uin_B (fk := 0) (xle rfl) f_B_10 rfl (xle rfl) ?_
  refine XR.iload_n d_B_page_32 rfl ?_
  refine XR.cV (as := [_]) d_B_page_33 l_B_77 kv_T_isDying (c_T_isDying (tBk_in h2)) rfl (xle rfl) rfl rfl (xle rfl) (xle rfl) ?_
  refine XR.if_eq d_B_page_36 (tgt := 43) (by decide) (fun h36 => ?_) (fun h36 => ?_)
  · refine XR.aload_n d_B_page_43 rfl ?_
    refine XR.getref d_B_page_44 (xle rfl) rfl rfl uin_B (fk := 1) (xle rfl) f_B_19 rfl (xle rfl) ?_
    refine XR.iload_n d_B_page_47 rfl ?_
    refine XR.cV (as := [_]) d_B_page_48 l_B_80 kv_S_strongKey (c_S_strongKey (q h17)) rfl (xle rfl) rfl rfl (xle rfl) (xle rfl) ?_
    refine XR.xreturn d_B_page_51 rfl ?_
    exact ⟨by rw [cPage, if_neg h2, if_neg h17, if_pos h36], by rw [cPage, if_neg h2, if_neg h17, if_pos h36]⟩
  refine XR.iconst d_B_page_39 (v := 0) (by decide) ?_
  refine XR.goto d_B_page_40 (tgt := 51) (by decide) ?_
  refine XR.xreturn d_B_page_51 rfl ?_
  exact ⟨by rw [cPage, if_neg h2, if_neg h17, if_neg h36], by rw [cPage, if_neg h2, if_neg h17, if_neg h36]⟩
theorem c_B_destroy (hp : pOK σ) (hw : wOK σ) : XC E i_B_destroy 9 0 0 [.ref (xB E + 0), .int x] (xm σ) (xfn (cDestroy σ x)) := by
  refine XC.ofF (by decide +kernel) cd_B_destroy rfl (xle rfl) ?_
  have hw2 : wOK (tCl (tCd σ x)) := fun p h => by rw [tCl_other (by decide), tCd_other (by decide) (by decide) (by decide)]; exact hw p h
  refine XR.aload_n d_B_destroy_0 rfl ?_
  refine XR.iload_n d_B_destroy_1 rfl ?_
  refine XR.cVt2 (as := [_]) d_B_destroy_2 l_B_130 kv_B_requireOtherThanRoot (c_B_requireOtherThanRoot) rfl (xle rfl) rfl rfl (xle rfl) (xle rfl) rfl (fun h2a => ?_) (fun h2a h2b => ?_) (fun h2a h2b => ?_)
  · exact ⟨by rw [cDestroy, if_pos h2a], by rw [cDestroy, if_pos h2a]⟩
  · exact ⟨by rw [cDestroy, if_neg h2a, if_pos h2b], by rw [cDestroy, if_neg h2a, if_pos h2b]⟩
  refine XR.aload_n d_B_destroy_5 rfl ?_
  refine XR.getref d_B_destroy_6 (xle rfl) rfl rfl uin_B (fk := 0) (xle rfl) f_B_10 rfl (xle rfl) ?_
  refine XR.iload_n d_B_destroy_9 rfl ?_
  refine XR.cV (as := [_]) d_B_destroy_10 l_B_77 kv_T_isDying (c_T_isDying (tBk_in h2a)) rfl (xle rfl) rfl rfl (xle rfl) (xle rfl) ?_
  refine XR.if_ne d_B_destroy_13 (tgt := 20) (by decide) (fun h13 => ?_) (fun h13 => ?_)
  · refine XR.iconst d_B_destroy_20 (v := 0) (by decide) ?_
    refine XR.cSt (as := [_]) d_B_destroy_21 l_B_115 ks_B_requireState (c_B_requireState) rfl (xle rfl) (xle rfl) rfl (fun h21 => ?_) (fun h21 => ?_)
    · exact ⟨by rw [cDestroy, if_neg h2a, if_neg h2b, if_neg h13], by rw [cDestroy, if_neg h2a, if_neg h2b, if_neg h13]⟩
    exact absurd rfl h21
  refine XR.iconst d_B_destroy_16 (v := 1) (by decide) ?_
  refine XR.goto d_B_destroy_17 (tgt := 21) (by decide) ?_
  refine XR.cSt (as := [_]) d_B_destroy_21 l_B_115 ks_B_requireState (c_B_requireState) rfl (xle rfl) (xle rfl) rfl (fun h21 => ?_) (fun h21 => ?_)
  · exact absurd h21 (by decide)
  refine XR.aload_n d_B_destroy_24 rfl ?_
  refine XR.getref d_B_destroy_25 (xle rfl) rfl rfl uin_B (fk := 0) (xle rfl) f_B_10 rfl (xle rfl) ?_
  refine XR.iload_n d_B_destroy_28 rfl ?_
  refine XR.cV (as := [_]) d_B_destroy_29 l_B_136 kv_T_condemn (c_T_condemn hp) rfl (xle rfl) rfl rfl (xle rfl) (xle rfl) ?_
  refine XR.aload_n d_B_destroy_32 rfl ?_
  refine XR.getref d_B_destroy_33 (xle rfl) rfl rfl uin_B (fk := 0) (xle rfl) f_B_10 rfl (xle rfl) ?_
  refine XR.cV (as := []) d_B_destroy_36 l_B_139 kv_T_closeEmptyDying (c_T_closeEmptyDying) rfl (xle rfl) rfl rfl (xle rfl) (xle rfl) ?_
  refine XR.aload_n d_B_destroy_39 rfl ?_
  refine XR.cV (as := []) d_B_destroy_40 l_B_142 kv_B_dyingPages (c_B_dyingPages hw2) rfl (xle rfl) rfl rfl (xle rfl) (xle rfl) ?_
  refine XR.xreturn d_B_destroy_43 rfl ?_
  exact ⟨by rw [cDestroy, if_neg h2a, if_neg h2b, if_pos h13], by rw [cDestroy, if_neg h2a, if_neg h2b, if_pos h13]⟩
theorem c_B_handUp {m : Nat} (ho : oOK σ m) (hh : ¬ tBk σ x = false → ¬ x = 0 → vp_in (σ 3 (xn x)) 40) : XC E i_B_handUp 9 0 0 [.ref (xB E + 0), .int x] (xm σ) (xfn (cHandUp σ m x)) := by
  refine XC.ofF (by decide +kernel) cd_B_handUp rfl (xle rfl) ?_
  have q : ¬ tBk σ x = false → ¬ x = 0 → vp_in (sGa σ m x (σ 3 (xn x)) 3 (xn x)) 40 := fun a b => by rw [sGa_3]; exact hh a b
  refine XR.aload_n d_B_handUp_0 rfl ?_
  refine XR.iload_n d_B_handUp_1 rfl ?_
  refine XR.cVt2 (as := [_]) d_B_handUp_2 l_B_130 kv_B_requireOtherThanRoot (c_B_requireOtherThanRoot) rfl (xle rfl) rfl rfl (xle rfl) (xle rfl) rfl (fun h2a => ?_) (fun h2a h2b => ?_) (fun h2a h2b => ?_)
  · exact ⟨by rw [cHandUp, if_pos h2a], by rw [cHandUp, if_pos h2a]⟩
  · exact ⟨by rw [cHandUp, if_neg h2a, if_pos h2b], by rw [cHandUp, if_neg h2a, if_pos h2b]⟩
  refine XR.aload_n d_B_handUp_5 rfl ?_
  refine XR.getref d_B_handUp_6 (xle rfl) rfl rfl uin_B (fk := 0) (xle rfl) f_B_10 rfl (xle rfl) ?_
  refine XR.iload_n d_B_handUp_9 rfl ?_
  refine XR.cV (as := [_]) d_B_handUp_10 l_B_77 kv_T_isDying (c_T_isDying (tBk_in h2a)) rfl (xle rfl) rfl rfl (xle rfl) (xle rfl) ?_
  refine XR.if_ne d_B_handUp_13 (tgt := 20) (by decide) (fun h13 => ?_) (fun h13 => ?_)
  · refine XR.iconst d_B_handUp_20 (v := 0) (by decide) ?_
    refine XR.cSt (as := [_]) d_B_handUp_21 l_B_115 ks_B_requireState (c_B_requireState) rfl (xle rfl) (xle rfl) rfl (fun h21 => ?_) (fun h21 => ?_)
    · exact ⟨by rw [cHandUp, if_neg h2a, if_neg h2b, if_neg h13], by rw [cHandUp, if_neg h2a, if_neg h2b, if_neg h13]⟩
    exact absurd rfl h21
  refine XR.iconst d_B_handUp_16 (v := 1) (by decide) ?_
  refine XR.goto d_B_handUp_17 (tgt := 21) (by decide) ?_
  refine XR.cSt (as := [_]) d_B_handUp_21 l_B_115 ks_B_requireState (c_B_requireState) rfl (xle rfl) (xle rfl) rfl (fun h21 => ?_) (fun h21 => ?_)
  · exact absurd h21 (by decide)
  refine XR.aload_n d_B_handUp_24 rfl ?_
  refine XR.getref d_B_handUp_25 (xle rfl) rfl rfl uin_B (fk := 1) (xle rfl) f_B_19 rfl (xle rfl) ?_
  refine XR.iload_n d_B_handUp_28 rfl ?_
  refine XR.cV (as := [_]) d_B_handUp_29 l_B_148 kv_S_ownedBy (c_S_ownedBy) rfl (xle rfl) rfl rfl (xle rfl) (xle rfl) ?_
  refine XR.istore_n d_B_handUp_32 (xle rfl) rfl ?_
  refine XR.aload_n d_B_handUp_33 rfl ?_
  refine XR.getref d_B_handUp_34 (xle rfl) rfl rfl uin_B (fk := 1) (xle rfl) f_B_19 rfl (xle rfl) ?_
  refine XR.iload_n d_B_handUp_37 rfl ?_
  refine XR.aload_n d_B_handUp_38 rfl ?_
  refine XR.getref d_B_handUp_39 (xle rfl) rfl rfl uin_B (fk := 0) (xle rfl) f_B_10 rfl (xle rfl) ?_
  refine XR.iload_n d_B_handUp_42 rfl ?_
  refine XR.cV (as := [_]) d_B_handUp_43 l_B_151 kv_T_parentOf (c_T_parentOf (tBk_in h2a)) rfl (xle rfl) rfl rfl (xle rfl) (xle rfl) ?_
  refine XR.cV (as := [_, _]) d_B_handUp_46 l_B_154 kv_S_giveAll (c_S_giveAll ho) rfl (xle rfl) rfl rfl (xle rfl) (xle rfl) ?_
  refine XR.aload_n d_B_handUp_49 rfl ?_
  refine XR.getref d_B_handUp_50 (xle rfl) rfl rfl uin_B (fk := 0) (xle rfl) f_B_10 rfl (xle rfl) ?_
  refine XR.iload_n d_B_handUp_53 rfl ?_
  refine XR.cV (as := [_]) d_B_handUp_54 l_B_157 kv_T_mergeIntoParent (c_T_mergeIntoParent (tBk_in h2a) (q h2a h2b)) rfl (xle rfl) rfl rfl (xle rfl) (xle rfl) ?_
  refine XR.iload_n d_B_handUp_57 rfl ?_
  refine XR.xreturn d_B_handUp_58 rfl ?_
  exact ⟨by rw [cHandUp, if_neg h2a, if_neg h2b, if_pos h13], by rw [cHandUp, if_neg h2a, if_neg h2b, if_pos h13]⟩
theorem c_B_refused : XC E i_B_refused 1 0 0 [.ref (xB E + 0)] (xm σ) (xok (some (.int (σ 0 2))) (xm σ)) := by
  refine XC.ofF (by decide +kernel) cd_B_refused rfl (xle rfl) ?_
  refine XR.aload_n d_B_refused_0 rfl ?_
  refine XR.getint d_B_refused_1 (xle rfl) rfl rfl uin_B (fk := 2) (xle rfl) f_B_23 rfl ?_
  refine XR.xreturn d_B_refused_4 rfl ?_
  exact ⟨rfl, rfl⟩
end XFace2
