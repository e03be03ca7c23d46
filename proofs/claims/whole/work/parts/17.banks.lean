/-! the class's own helpers -/
def jMod (x y : Int32) : Int32 := if 0 ≤ x ^^^ y then x - x / y * y else if x - x / y * y = 0 then x - x / y * y else x - x / y * y + y
def jDiv (x y : Int32) : Int32 := if 0 ≤ x ^^^ y then x / y else if x / y * y = x then x / y else x / y - 1
def bPl (k : Int32) : Int32 := jMod k 1024 / 2
def bVe (k : Int32) : Int32 := jDiv k 1024
def bAl (σ : xS) (k : Int32) : Bool := sHas σ (bPl k) (bVe k) && !tDy σ (σ 9 (xn (bPl k)))
/-- owners are none or banks' numbers -/
def wOK (σ : xS) : Prop := ∀ p, p < 192 → σ 9 p = -1 ∨ vp_in (σ 9 p) 40
section XBanks
variable {E : xE} {σ : xS} {x y n : Int32}
theorem c_J_floorMod (hy : ¬ y = 0) : XC E i_J_floorMod 1 0 0 [.int x, .int y] (xm σ) (xok (some (.int (jMod x y))) (xm σ)) := by
  refine XC.ofF (by decide +kernel) cd_J_floorMod rfl (xle rfl) ?_
  have q1 : 0 ≤ x ^^^ y → jMod x y = x - x / y * y := fun a => by simp only [jMod, if_pos a]
  have q2 : ¬ 0 ≤ x ^^^ y → x - x / y * y = 0 → jMod x y = x - x / y * y := fun a b => by rw [jMod, if_neg a, if_pos b]
  have q3 : ¬ 0 ≤ x ^^^ y → ¬ x - x / y * y = 0 → jMod x y = x - x / y * y + y := fun a b => by rw [jMod, if_neg a, if_neg b]
  refine XR.iload_n d_J_floorMod_0 rfl ?_
  refine XR.iload_n d_J_floorMod_1 rfl ?_
  refine XR.irem d_J_floorMod_2 hy ?_
  refine XR.istore_n d_J_floorMod_3 (xle rfl) rfl ?_
  refine XR.iload_n d_J_floorMod_4 rfl ?_
  refine XR.iload_n d_J_floorMod_5 rfl ?_
  refine XR.ixor d_J_floorMod_6 ?_
  refine XR.if_ge d_J_floorMod_7 (tgt := 18) (by decide) (fun h7 => ?_) (fun h7 => ?_)
  · refine XR.iload_n d_J_floorMod_18 rfl ?_
    refine XR.xreturn d_J_floorMod_19 rfl ?_
    first | exact ⟨by rw [q1 h7], rfl⟩ | exact ⟨by rw [q2 h7 h11], rfl⟩
  refine XR.iload_n d_J_floorMod_10 rfl ?_
  refine XR.if_eq d_J_floorMod_11 (tgt := 18) (by decide) (fun h11 => ?_) (fun h11 => ?_)
  · refine XR.iload_n d_J_floorMod_18 rfl ?_
    refine XR.xreturn d_J_floorMod_19 rfl ?_
    first | exact ⟨by rw [q1 h7], rfl⟩ | exact ⟨by rw [q2 h7 h11], rfl⟩
  refine XR.iload_n d_J_floorMod_14 rfl ?_
  refine XR.iload_n d_J_floorMod_15 rfl ?_
  refine XR.iadd d_J_floorMod_16 ?_
  refine XR.xreturn d_J_floorMod_17 rfl ?_
  exact ⟨by rw [q3 h7 h11], rfl⟩
theorem c_J_floorDiv (hy : ¬ y = 0) : XC E i_J_floorDiv 1 0 0 [.int x, .int y] (xm σ) (xok (some (.int (jDiv x y))) (xm σ)) := by
  refine XC.ofF (by decide +kernel) cd_J_floorDiv rfl (xle rfl) ?_
  have q1 : 0 ≤ x ^^^ y → jDiv x y = x / y := fun a => by rw [jDiv, if_pos a]
  have q2 : ¬ 0 ≤ x ^^^ y → x / y * y = x → jDiv x y = x / y := fun a b => by rw [jDiv, if_neg a, if_pos b]
  have q3 : ¬ 0 ≤ x ^^^ y → ¬ x / y * y = x → jDiv x y = x / y - 1 := fun a b => by rw [jDiv, if_neg a, if_neg b]
  refine XR.iload_n d_J_floorDiv_0 rfl ?_
  refine XR.iload_n d_J_floorDiv_1 rfl ?_
  refine XR.idiv d_J_floorDiv_2 hy ?_
  refine XR.istore_n d_J_floorDiv_3 (xle rfl) rfl ?_
  refine XR.iload_n d_J_floorDiv_4 rfl ?_
  refine XR.iload_n d_J_floorDiv_5 rfl ?_
  refine XR.ixor d_J_floorDiv_6 ?_
  refine XR.if_ge d_J_floorDiv_7 (tgt := 21) (by decide) (fun h7 => ?_) (fun h7 => ?_)
  · refine XR.iload_n d_J_floorDiv_21 rfl ?_
    refine XR.xreturn d_J_floorDiv_22 rfl ?_
    first | exact ⟨by rw [q1 h7], rfl⟩ | exact ⟨by rw [q2 h7 h14], rfl⟩
  refine XR.iload_n d_J_floorDiv_10 rfl ?_
  refine XR.iload_n d_J_floorDiv_11 rfl ?_
  refine XR.imul d_J_floorDiv_12 ?_
  refine XR.iload_n d_J_floorDiv_13 rfl ?_
  refine XR.icmp_eq d_J_floorDiv_14 (tgt := 21) (by decide) (fun h14 => ?_) (fun h14 => ?_)
  · refine XR.iload_n d_J_floorDiv_21 rfl ?_
    refine XR.xreturn d_J_floorDiv_22 rfl ?_
    first | exact ⟨by rw [q1 h7], rfl⟩ | exact ⟨by rw [q2 h7 h14], rfl⟩
  refine XR.iload_n d_J_floorDiv_17 rfl ?_
  refine XR.iconst d_J_floorDiv_18 (v := 1) (by decide) ?_
  refine XR.isub d_J_floorDiv_19 ?_
  refine XR.xreturn d_J_floorDiv_20 rfl ?_
  exact ⟨by rw [q3 h7 h14], rfl⟩
theorem c_B_placeOf : XC E i_B_placeOf 2 0 0 [.int x] (xm σ) (xok (some (.int (bPl x))) (xm σ)) := by
  refine XC.ofF (by decide +kernel) cd_B_placeOf rfl (xle rfl) ?_
  refine XR.iload_n d_B_placeOf_0 rfl ?_
  refine XR.sipush d_B_placeOf_1 (v := 1024) (by decide) ?_
  refine XR.cS (as := [_, _]) d_B_placeOf_4 l_B_234 ks_J_floorMod (c_J_floorMod (by decide)) rfl (xle rfl) (xle rfl) ?_
  refine XR.iconst d_B_placeOf_7 (v := 2) (by decide) ?_
  refine XR.idiv d_B_placeOf_8 (by decide) ?_
  refine XR.xreturn d_B_placeOf_9 rfl ?_
  exact ⟨rfl, rfl⟩
theorem c_B_versionOf : XC E i_B_versionOf 2 0 0 [.int x] (xm σ) (xok (some (.int (bVe x))) (xm σ)) := by
  refine XC.ofF (by decide +kernel) cd_B_versionOf rfl (xle rfl) ?_
  refine XR.iload_n d_B_versionOf_0 rfl ?_
  refine XR.sipush d_B_versionOf_1 (v := 1024) (by decide) ?_
  refine XR.cS (as := [_, _]) d_B_versionOf_4 l_B_237 ks_J_floorDiv (c_J_floorDiv (by decide)) rfl (xle rfl) (xle rfl) ?_
  refine XR.xreturn d_B_versionOf_7 rfl ?_
  exact ⟨rfl, rfl⟩
theorem jMod_i (k : Int32) : (jMod k 1024).toInt = k.toInt % 1024 := by
  have h0 : (0 : Int32).toInt = 0 := by decide
  have h1 : (1024 : Int32).toInt = 1024 := by decide
  have hb := xrg k
  have hr := rem1024 k
  by_cases h : 0 ≤ k
  · have h' : 0 ≤ k.toInt := by rw [Int32.le_iff_toInt_le, h0] at h; exact h
    rw [if_pos h'] at hr
    rw [jMod, if_pos ((xor_nn k).mpr h), hr]
  · have h' : ¬ 0 ≤ k.toInt := by rw [Int32.le_iff_toInt_le, h0] at h; exact h
    rw [if_neg h'] at hr
    rw [jMod, if_neg (fun q => h ((xor_nn k).mp q))]
    split
    · next e => rw [ti_eq, h0, hr] at e; rw [hr]; omega
    · next e =>
      rw [ti_eq, h0, hr] at e
      rw [tiA (by rw [hr, h1]; omega) (by rw [hr, h1]; omega), hr, h1]
      omega
theorem jDiv_i (k : Int32) : (jDiv k 1024).toInt = k.toInt / 1024 := by
  have h0 : (0 : Int32).toInt = 0 := by decide
  have h1 : (1024 : Int32).toInt = 1024 := by decide
  have h2 : (1 : Int32).toInt = 1 := by decide
  have hb := xrg k
  have hd := div1024 k
  by_cases h : 0 ≤ k
  · have h' : 0 ≤ k.toInt := by rw [Int32.le_iff_toInt_le, h0] at h; exact h
    rw [if_pos h'] at hd
    rw [jDiv, if_pos ((xor_nn k).mpr h), hd]
  · have h' : ¬ 0 ≤ k.toInt := by rw [Int32.le_iff_toInt_le, h0] at h; exact h
    rw [if_neg h'] at hd
    have e1 : (k / 1024 * 1024).toInt = -((-k.toInt) / 1024) * 1024 := by rw [tiM (by rw [hd, h1]; omega) (by rw [hd, h1]; omega), hd, h1]
    rw [jDiv, if_neg (fun q => h ((xor_nn k).mp q))]
    split
    · next e => rw [ti_eq, e1] at e; rw [hd]; omega
    · next e =>
      rw [ti_eq, e1] at e
      rw [tiS (by rw [hd, h2]; omega) (by rw [hd, h2]; omega), hd, h2]
      omega
theorem bPl_i (k : Int32) : (bPl k).toInt = k.toInt % 1024 / 2 := by
  have h2 : (2 : Int32).toInt = 2 := by decide
  have h := jMod_i k
  rw [bPl, Int32.toInt_div, h, h2, tdiv_pos _ (by omega), bm32 (by omega) (by omega)]
theorem bVe_i (k : Int32) : (bVe k).toInt = k.toInt / 1024 := jDiv_i k
theorem bPl_nn (k : Int32) : ¬ bPl k < 0 := by
  have h0 : (0 : Int32).toInt = 0 := by decide
  rw [Int32.lt_iff_toInt_lt, bPl_i, h0]
  omega
theorem bAl_in (h : bAl σ x = true) : vp_in (bPl x) 192 ∧ ¬ σ 9 (xn (bPl x)) = -1 := by
  simp only [bAl, sHas, Bool.and_eq_true, Bool.not_eq_true', decide_eq_false_iff_not] at h
  refine ⟨vp_in_lt (bPl_nn x) h.1.1.1 (by decide), ?_⟩
  have := h.1.1.2
  simpa [sTk] using this
theorem c_B_isAlive (hw : wOK σ) : XC E i_B_isAlive 3 0 0 [.ref (xB E + 0), .int x] (xm σ) (xok (some (.int (bz (bAl σ x)))) (xm σ)) := by
  refine XC.ofF (by decide +kernel) cd_B_isAlive rfl (xle rfl) ?_
  have g1 : sHas σ (bPl x) (bVe x) = true → vp_in (bPl x) 192 ∧ vp_in (σ 9 (xn (bPl x))) 40 := fun h => by
    simp only [sHas, Bool.and_eq_true, Bool.not_eq_true', decide_eq_false_iff_not] at h
    have h1 := vp_in_lt (bPl_nn x) h.1.1 (by decide : (192 : Int32).toInt = 192)
    refine ⟨h1, (hw _ (vp_in_xn h1)).resolve_left ?_⟩
    have := h.1.2
    simpa [sTk] using this
  have z : ¬ bz (sHas σ (bPl x) (bVe x)) = 0 → sHas σ (bPl x) (bVe x) = true := fun h => by rw [bz_z] at h; simpa using h
  refine XR.iload_n d_B_isAlive_0 rfl ?_
  refine XR.cS (as := [_]) d_B_isAlive_1 l_B_67 ks_B_placeOf (c_B_placeOf) rfl (xle rfl) (xle rfl) ?_
  refine XR.istore_n d_B_isAlive_4 (xle rfl) rfl ?_
  refine XR.aload_n d_B_isAlive_5 rfl ?_
  refine XR.getref d_B_isAlive_6 (xle rfl) rfl rfl uin_B (fk := 1) (xle rfl) f_B_19 rfl (xle rfl) ?_
  refine XR.iload_n d_B_isAlive_9 rfl ?_
  refine XR.iload_n d_B_isAlive_10 rfl ?_
  refine XR.cS (as := [_]) d_B_isAlive_11 l_B_175 ks_B_versionOf (c_B_versionOf) rfl (xle rfl) (xle rfl) ?_
  refine XR.cV (as := [_, _]) d_B_isAlive_14 l_B_178 kv_S_hasPage (c_S_hasPage (bPl_nn x)) rfl (xle rfl) rfl rfl (xle rfl) (xle rfl) ?_
  refine XR.if_eq d_B_isAlive_17 (tgt := 42) (by decide) (fun h17 => ?_) (fun h17 => ?_)
  · refine XR.iconst d_B_isAlive_42 (v := 0) (by decide) ?_
    refine XR.zret0 d_B_isAlive_43 rfl ?_
    exact xok_0 (by simp_all [bAl, bz_z])
  refine XR.aload_n d_B_isAlive_20 rfl ?_
  refine XR.getref d_B_isAlive_21 (xle rfl) rfl rfl uin_B (fk := 0) (xle rfl) f_B_10 rfl (xle rfl) ?_
  refine XR.aload_n d_B_isAlive_24 rfl ?_
  refine XR.getref d_B_isAlive_25 (xle rfl) rfl rfl uin_B (fk := 1) (xle rfl) f_B_19 rfl (xle rfl) ?_
  refine XR.iload_n d_B_isAlive_28 rfl ?_
  refine XR.cV (as := [_]) d_B_isAlive_29 l_B_74 kv_S_ownerOf (c_S_ownerOf (g1 (z h17)).1) rfl (xle rfl) rfl rfl (xle rfl) (xle rfl) ?_
  refine XR.cV (as := [_]) d_B_isAlive_32 l_B_77 kv_T_isDying (c_T_isDying (g1 (z h17)).2) rfl (xle rfl) rfl rfl (xle rfl) (xle rfl) ?_
  refine XR.if_ne d_B_isAlive_35 (tgt := 42) (by decide) (fun h35 => ?_) (fun h35 => ?_)
  · refine XR.iconst d_B_isAlive_42 (v := 0) (by decide) ?_
    refine XR.zret0 d_B_isAlive_43 rfl ?_
    exact xok_0 (by simp_all [bAl, bz_z])
  refine XR.iconst d_B_isAlive_38 (v := 1) (by decide) ?_
  refine XR.goto d_B_isAlive_39 (tgt := 43) (by decide) ?_
  refine XR.zret1 d_B_isAlive_43 rfl ?_
  exact xok_1 (by simp_all [bAl, bz_z])
theorem c_B_requireAlive (hw : wOK σ) : XC E i_B_requireAlive 6 0 0 [.ref (xB E + 0), .int x] (xm σ) (xtry (bAl σ x = false) "java/util/NoSuchElementException" (xm σ) none (xm σ)) := by
  refine XC.ofF (by decide +kernel) cd_B_requireAlive rfl (xle rfl) ?_
  refine XR.aload_n d_B_requireAlive_0 rfl ?_
  refine XR.iload_n d_B_requireAlive_1 rfl ?_
  refine XR.cV (as := [_]) d_B_requireAlive_2 l_B_222 kv_B_isAlive (c_B_isAlive hw) rfl (xle rfl) rfl rfl (xle rfl) (xle rfl) ?_
  refine XR.if_ne d_B_requireAlive_5 (tgt := 16) (by decide) (fun h5 => ?_) (fun h5 => ?_)
  · refine XR.return_ d_B_requireAlive_16 rfl ?_
    exact ⟨fun h => absurd (by rw [h]; rfl) h5, fun _ => ⟨rfl, rfl⟩⟩
  refine XR.throw (names := xnames) d_B_requireAlive_8 d_B_requireAlive_11 d_B_requireAlive_12 d_B_requireAlive_15 c_B_225 in_java_util_NoSuchElementException it_java_util_NoSuchElementException fit_NoSuchElementException xnames_fit ta_NoSuchElementException (xnlt rfl) (fun _ hx => absurd hx List.not_mem_nil) (xle rfl) (xle rfl) ?_
  exact ⟨fun _ => ⟨rfl, rfl⟩, fun h => absurd (by rw [bz_z] at h5; exact h5) h⟩
theorem c_B_requireBank : XC E i_B_requireBank 7 0 0 [.ref (xB E + 0), .int x] (xm σ) (xtry (tBk σ x = false) "java/lang/IndexOutOfBoundsException" (xm σ) none (xm σ)) := by
  refine XC.ofF (by decide +kernel) cd_B_requireBank rfl (xle rfl) ?_
  refine XR.aload_n d_B_requireBank_0 rfl ?_
  refine XR.getref d_B_requireBank_1 (xle rfl) rfl rfl uin_B (fk := 0) (xle rfl) f_B_10 rfl (xle rfl) ?_
  refine XR.iload_n d_B_requireBank_4 rfl ?_
  refine XR.cV (as := [_]) d_B_requireBank_5 l_B_190 kv_T_isBank (c_T_isBank) rfl (xle rfl) rfl rfl (xle rfl) (xle rfl) ?_
  refine XR.cSt (as := [_]) d_B_requireBank_8 l_B_96 ks_B_requireIndex (c_B_requireIndex) rfl (xle rfl) (xle rfl) rfl (fun h8 => ?_) (fun h8 => ?_)
  · exact ⟨fun _ => ⟨rfl, rfl⟩, fun h => absurd (by rw [bz_z] at h8; exact h8) h⟩
  refine XR.return_ d_B_requireBank_11 rfl ?_
  exact ⟨fun h => absurd (by rw [h]; rfl) h8, fun _ => ⟨rfl, rfl⟩⟩
theorem c_B_requireLive (hx : vp_in x 40) : XC E i_B_requireLive 7 0 0 [.ref (xB E + 0), .int x] (xm σ) (xtry (¬ σ 2 (xn x) = 0) "java/lang/IllegalStateException" (xm σ) none (xm σ)) := by
  refine XC.ofF (by decide +kernel) cd_B_requireLive rfl (xle rfl) ?_
  refine XR.aload_n d_B_requireLive_0 rfl ?_
  refine XR.getref d_B_requireLive_1 (xle rfl) rfl rfl uin_B (fk := 0) (xle rfl) f_B_10 rfl (xle rfl) ?_
  refine XR.iload_n d_B_requireLive_4 rfl ?_
  refine XR.cV (as := [_]) d_B_requireLive_5 l_B_163 kv_T_stateOf (c_T_stateOf hx) rfl (xle rfl) rfl rfl (xle rfl) (xle rfl) ?_
  refine XR.if_ne d_B_requireLive_8 (tgt := 15) (by decide) (fun h8 => ?_) (fun h8 => ?_)
  · refine XR.iconst d_B_requireLive_15 (v := 0) (by decide) ?_
    refine XR.cSt (as := [_]) d_B_requireLive_16 l_B_115 ks_B_requireState (c_B_requireState) rfl (xle rfl) (xle rfl) rfl (fun h16 => ?_) (fun h16 => ?_)
    · first | exact ⟨fun _ => ⟨rfl, rfl⟩, fun h => absurd h8 h⟩ | exact absurd h16 (by decide)
    refine XR.return_ d_B_requireLive_19 rfl ?_
    first | exact ⟨fun h => absurd h8 h, fun _ => ⟨rfl, rfl⟩⟩ | exact absurd rfl h16
  refine XR.iconst d_B_requireLive_11 (v := 1) (by decide) ?_
  refine XR.goto d_B_requireLive_12 (tgt := 16) (by decide) ?_
  refine XR.cSt (as := [_]) d_B_requireLive_16 l_B_115 ks_B_requireState (c_B_requireState) rfl (xle rfl) (xle rfl) rfl (fun h16 => ?_) (fun h16 => ?_)
  · first | exact ⟨fun _ => ⟨rfl, rfl⟩, fun h => absurd h8 h⟩ | exact absurd h16 (by decide)
  refine XR.return_ d_B_requireLive_19 rfl ?_
  first | exact ⟨fun h => absurd h8 h, fun _ => ⟨rfl, rfl⟩⟩ | exact absurd rfl h16
theorem c_B_requireOtherThanRoot : XC E i_B_requireOtherThanRoot 8 0 0 [.ref (xB E + 0), .int x] (xm σ) (fun o w => w = xm σ ∧ o = (if tBk σ x = false then .inr "java/lang/IndexOutOfBoundsException" else if x = 0 then .inr "java/lang/IllegalArgumentException" else .inl none)) := by
  refine XC.ofF (by decide +kernel) cd_B_requireOtherThanRoot rfl (xle rfl) ?_
  refine XR.aload_n d_B_requireOtherThanRoot_0 rfl ?_
  refine XR.iload_n d_B_requireOtherThanRoot_1 rfl ?_
  refine XR.cVt (as := [_]) d_B_requireOtherThanRoot_2 l_B_27 kv_B_requireBank (c_B_requireBank) rfl (xle rfl) rfl rfl (xle rfl) (xle rfl) rfl (fun h2 => ?_) (fun h2 => ?_)
  · exact ⟨rfl, by rw [if_pos h2]⟩
  refine XR.iload_n d_B_requireOtherThanRoot_5 rfl ?_
  refine XR.if_eq d_B_requireOtherThanRoot_6 (tgt := 13) (by decide) (fun h6 => ?_) (fun h6 => ?_)
  · refine XR.iconst d_B_requireOtherThanRoot_13 (v := 0) (by decide) ?_
    refine XR.cSt (as := [_]) d_B_requireOtherThanRoot_14 l_B_35 ks_B_requireArgument (c_B_requireArgument) rfl (xle rfl) (xle rfl) rfl (fun h14 => ?_) (fun h14 => ?_)
    · first | exact ⟨rfl, by rw [if_neg h2, if_pos h6]⟩ | exact absurd h14 (by decide)
    refine XR.return_ d_B_requireOtherThanRoot_17 rfl ?_
    first | exact ⟨rfl, by rw [if_neg h2, if_neg h6]⟩ | exact absurd rfl h14
  refine XR.iconst d_B_requireOtherThanRoot_9 (v := 1) (by decide) ?_
  refine XR.goto d_B_requireOtherThanRoot_10 (tgt := 14) (by decide) ?_
  refine XR.cSt (as := [_]) d_B_requireOtherThanRoot_14 l_B_35 ks_B_requireArgument (c_B_requireArgument) rfl (xle rfl) (xle rfl) rfl (fun h14 => ?_) (fun h14 => ?_)
  · first | exact ⟨rfl, by rw [if_neg h2, if_pos h6]⟩ | exact absurd h14 (by decide)
  refine XR.return_ d_B_requireOtherThanRoot_17 rfl ?_
  first | exact ⟨rfl, by rw [if_neg h2, if_neg h6]⟩ | exact absurd rfl h14
theorem c_B_refuse : XC E i_B_refuse 6 0 0 [.ref (xB E + 0), .int x] (xm σ) (fun o w => o = .inr "java/lang/UnsupportedOperationException" ∧ w = xm (xu σ 0 2 x)) := by
  refine XC.ofF (by decide +kernel) cd_B_refuse rfl (xle rfl) ?_
  refine XR.aload_n d_B_refuse_0 rfl ?_
  refine XR.iload_n d_B_refuse_1 rfl ?_
  refine XR.putfield d_B_refuse_2 (xle rfl) (fun _ => rfl) rfl uin_B tyB_ok nmB (fk := 2) (xle rfl) f_B_23 rfl rfl (fun _ => rfl) (fun _ => xle rfl) ?_
  refine XR.throw (names := xnames) d_B_refuse_5 d_B_refuse_8 d_B_refuse_9 d_B_refuse_12 c_B_219 in_java_lang_UnsupportedOperationException it_java_lang_UnsupportedOperationException fit_UnsupportedOperationException xnames_fit ta_UnsupportedOperationException (xnlt rfl) (fun _ hx => absurd hx List.not_mem_nil) (xle rfl) (xle rfl) ?_
  exact ⟨rfl, rfl⟩
end XBanks
