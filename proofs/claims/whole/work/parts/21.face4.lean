/-! told, count, astray -/
def bSt1 (σ : xS) (b : Nat) : Bool := tBk σ (nI b) && tStray σ (nI b) (nI (sOwn σ (nI b)))
def bSt2 (σ : xS) (p : Nat) : Bool := !(σ 13 p == bz (sTk σ p)) || bWoP σ p
def cAstray (σ : xS) (m : Nat) : Nat := xcn (bSt1 σ) 40 + xcn (bSt2 (sCoF m 0 (xfl σ 13 0 192))) 192
abbrev cAstrayS (σ : xS) (m : Nat) : xS := sCoF m 0 (xfl σ 13 0 192)
theorem sCoF_other {q : Nat} (hq : q ≠ 13) : ∀ (f i : Nat) (σ : xS), sCoF f i σ q = σ q
  | 0, _, _ => rfl
  | f + 1, i, σ => by simp only [sCoF]; rw [sCoF_other hq f _ _, xu_other hq]
theorem xcn_t {p : Nat → Bool} {n : Nat} (h : p n = true) : xcn p (n + 1) = xcn p n + 1 := by simp [xcn, h]
theorem xcn_f {p : Nat → Bool} {n : Nat} (h : p n = false) : xcn p (n + 1) = xcn p n := by simp [xcn, h]
section XFace4
variable {E : xE} {σ : xS} {x y v n : Int32}
theorem c_B_told (hp : pOK σ) : XC E i_B_told 8 0 0 [.ref (xB E + 0), .int x, .int y] (xm σ) (xfn (cTold σ x y)) := by
  refine XC.ofF (by decide +kernel) cd_B_told rfl (xle rfl) ?_
  refine XR.aload_n d_B_told_0 rfl ?_
  refine XR.iload_n d_B_told_1 rfl ?_
  refine XR.cVt (as := [_]) d_B_told_2 l_B_27 kv_B_requireBank (c_B_requireBank) rfl (xle rfl) rfl rfl (xle rfl) (xle rfl) rfl (fun h2 => ?_) (fun h2 => ?_)
  · exact ⟨by rw [cTold, if_pos h2], by rw [cTold, if_pos h2]⟩
  refine XR.iload_n d_B_told_5 rfl ?_
  skip
  by_cases ho : y.toInt < 0 ∨ 7 < y.toInt
  · refine XR.tableOut d_B_told_6 ho (tgt := 124) (by decide) ?_
    refine XR.throw (names := xnames) d_B_told_124 d_B_told_127 d_B_told_128 d_B_told_131 c_B_169 in_java_lang_IllegalArgumentException it_java_lang_IllegalArgumentException fit_IllegalArgumentException xnames_fit ta_IllegalArgumentException (xnlt rfl) (fun _ hx => absurd hx List.not_mem_nil) (xle rfl) (xle rfl) ?_
    exact ⟨by rw [cTold, if_neg h2, if_pos ho], by rw [cTold, if_neg h2, if_pos ho]⟩
  · have h8 : y.toInt = 0 ∨ y.toInt = 1 ∨ y.toInt = 2 ∨ y.toInt = 3 ∨ y.toInt = 4 ∨ y.toInt = 5 ∨ y.toInt = 6 ∨ y.toInt = 7 := by omega
    have hc : ∀ r : Int32, r = (if y.toInt = 0 then σ 6 (xn x) else if y.toInt = 1 then nI (sOwn σ x) else if y.toInt = 2 then σ 5 (xn x) else if y.toInt = 3 then σ 4 (xn x) else if y.toInt = 4 then σ 3 (xn x) else if y.toInt = 5 then nI (tDep σ x) else if y.toInt = 6 then σ 2 (xn x) else nI (tSz σ x)) → xfn (cTold σ x y) (.inl (some (.int r))) (xm σ) := fun r hr => ⟨by rw [cTold, if_neg h2, if_neg ho, ← hr], by rw [cTold, if_neg h2, if_neg ho]⟩
    rcases h8 with e | e | e | e | e | e | e | e
    · refine XR.tableIn d_B_told_6 (off := 46) (tgt := 52) (by omega) (by omega) (by rw [e]; rfl) (by decide) ?_
      refine XR.aload_n d_B_told_52 rfl ?_
      refine XR.getref d_B_told_53 (xle rfl) rfl rfl uin_B (fk := 0) (xle rfl) f_B_10 rfl (xle rfl) ?_
      refine XR.iload_n d_B_told_56 rfl ?_
      refine XR.cV (as := [_]) d_B_told_57 l_B_112 kv_T_useOf (c_T_useOf (tBk_in h2)) rfl (xle rfl) rfl rfl (xle rfl) (xle rfl) ?_
      refine XR.xreturn d_B_told_60 rfl ?_
      exact hc _ (by simp [e])
    · refine XR.tableIn d_B_told_6 (off := 55) (tgt := 61) (by omega) (by omega) (by rw [e]; rfl) (by decide) ?_
      refine XR.aload_n d_B_told_61 rfl ?_
      refine XR.getref d_B_told_62 (xle rfl) rfl rfl uin_B (fk := 1) (xle rfl) f_B_19 rfl (xle rfl) ?_
      refine XR.iload_n d_B_told_65 rfl ?_
      refine XR.cV (as := [_]) d_B_told_66 l_B_148 kv_S_ownedBy (c_S_ownedBy) rfl (xle rfl) rfl rfl (xle rfl) (xle rfl) ?_
      refine XR.xreturn d_B_told_69 rfl ?_
      exact hc _ (by simp [e])
    · refine XR.tableIn d_B_told_6 (off := 64) (tgt := 70) (by omega) (by omega) (by rw [e]; rfl) (by decide) ?_
      refine XR.aload_n d_B_told_70 rfl ?_
      refine XR.getref d_B_told_71 (xle rfl) rfl rfl uin_B (fk := 0) (xle rfl) f_B_10 rfl (xle rfl) ?_
      refine XR.iload_n d_B_told_74 rfl ?_
      refine XR.cV (as := [_]) d_B_told_75 l_B_127 kv_T_reservedBy (c_T_reservedBy (tBk_in h2)) rfl (xle rfl) rfl rfl (xle rfl) (xle rfl) ?_
      refine XR.xreturn d_B_told_78 rfl ?_
      exact hc _ (by simp [e])
    · refine XR.tableIn d_B_told_6 (off := 73) (tgt := 79) (by omega) (by omega) (by rw [e]; rfl) (by decide) ?_
      refine XR.aload_n d_B_told_79 rfl ?_
      refine XR.getref d_B_told_80 (xle rfl) rfl rfl uin_B (fk := 0) (xle rfl) f_B_10 rfl (xle rfl) ?_
      refine XR.iload_n d_B_told_83 rfl ?_
      refine XR.cV (as := [_]) d_B_told_84 l_B_160 kv_T_limitOf (c_T_limitOf (tBk_in h2)) rfl (xle rfl) rfl rfl (xle rfl) (xle rfl) ?_
      refine XR.xreturn d_B_told_87 rfl ?_
      exact hc _ (by simp [e])
    · refine XR.tableIn d_B_told_6 (off := 82) (tgt := 88) (by omega) (by omega) (by rw [e]; rfl) (by decide) ?_
      refine XR.aload_n d_B_told_88 rfl ?_
      refine XR.getref d_B_told_89 (xle rfl) rfl rfl uin_B (fk := 0) (xle rfl) f_B_10 rfl (xle rfl) ?_
      refine XR.iload_n d_B_told_92 rfl ?_
      refine XR.cV (as := [_]) d_B_told_93 l_B_151 kv_T_parentOf (c_T_parentOf (tBk_in h2)) rfl (xle rfl) rfl rfl (xle rfl) (xle rfl) ?_
      refine XR.xreturn d_B_told_96 rfl ?_
      exact hc _ (by simp [e])
    · refine XR.tableIn d_B_told_6 (off := 91) (tgt := 97) (by omega) (by omega) (by rw [e]; rfl) (by decide) ?_
      refine XR.aload_n d_B_told_97 rfl ?_
      refine XR.getref d_B_told_98 (xle rfl) rfl rfl uin_B (fk := 0) (xle rfl) f_B_10 rfl (xle rfl) ?_
      refine XR.iload_n d_B_told_101 rfl ?_
      refine XR.cV (as := [_]) d_B_told_102 l_B_46 kv_T_depthOf (c_T_depthOf hp (tBk_in h2)) rfl (xle rfl) rfl rfl (xle rfl) (xle rfl) ?_
      refine XR.xreturn d_B_told_105 rfl ?_
      exact hc _ (by simp [e])
    · refine XR.tableIn d_B_told_6 (off := 100) (tgt := 106) (by omega) (by omega) (by rw [e]; rfl) (by decide) ?_
      refine XR.aload_n d_B_told_106 rfl ?_
      refine XR.getref d_B_told_107 (xle rfl) rfl rfl uin_B (fk := 0) (xle rfl) f_B_10 rfl (xle rfl) ?_
      refine XR.iload_n d_B_told_110 rfl ?_
      refine XR.cV (as := [_]) d_B_told_111 l_B_163 kv_T_stateOf (c_T_stateOf (tBk_in h2)) rfl (xle rfl) rfl rfl (xle rfl) (xle rfl) ?_
      refine XR.xreturn d_B_told_114 rfl ?_
      exact hc _ (by simp [e])
    · refine XR.tableIn d_B_told_6 (off := 109) (tgt := 115) (by omega) (by omega) (by rw [e]; rfl) (by decide) ?_
      refine XR.aload_n d_B_told_115 rfl ?_
      refine XR.getref d_B_told_116 (xle rfl) rfl rfl uin_B (fk := 0) (xle rfl) f_B_10 rfl (xle rfl) ?_
      refine XR.iload_n d_B_told_119 rfl ?_
      refine XR.cV (as := [_]) d_B_told_120 l_B_166 kv_T_subtreeSize (c_T_subtreeSize hp) rfl (xle rfl) rfl rfl (xle rfl) (xle rfl) ?_
      refine XR.xreturn d_B_told_123 rfl ?_
      exact hc _ (by simp [e])
theorem c_B_count (hp : pOK σ) : XC E i_B_count 4 0 0 [.ref (xB E + 0), .int y] (xm σ) (xok (some (.int (cCount σ y))) (xm σ)) := by
  refine XC.ofF (by decide +kernel) cd_B_count rfl (xle rfl) ?_
  refine XR.iload_n d_B_count_0 rfl ?_
  skip
  by_cases ho : y.toInt < 0 ∨ 3 < y.toInt
  · refine XR.tableOut d_B_count_1 ho (tgt := 65) (by decide) ?_
    have e0 : ¬ y.toInt = 0 := by omega
    have e1 : ¬ y.toInt = 1 := by omega
    have e2 : ¬ y.toInt = 2 := by omega
    have e3 : ¬ y.toInt = 3 := by omega
    refine XR.iconst d_B_count_65 (v := -1) (by decide) ?_
    refine XR.xreturn d_B_count_66 rfl ?_
    exact ⟨by rw [cCount, if_neg e0, if_neg e1, if_neg e2, if_neg e3], rfl⟩
  · have h8 : y.toInt = 0 ∨ y.toInt = 1 ∨ y.toInt = 2 ∨ y.toInt = 3 := by omega
    rcases h8 with e | e | e | e
    · refine XR.tableIn d_B_count_1 (off := 31) (tgt := 32) (by omega) (by omega) (by rw [e]; rfl) (by decide) ?_
      refine XR.aload_n d_B_count_32 rfl ?_
      refine XR.getref d_B_count_33 (xle rfl) rfl rfl uin_B (fk := 1) (xle rfl) f_B_19 rfl (xle rfl) ?_
      refine XR.cV (as := []) d_B_count_36 l_B_181 kv_S_freePlaces (c_S_freePlaces) rfl (xle rfl) rfl rfl (xle rfl) (xle rfl) ?_
      refine XR.xreturn d_B_count_39 rfl ?_
      exact ⟨by rw [cCount, if_pos e], rfl⟩
    · refine XR.tableIn d_B_count_1 (off := 39) (tgt := 40) (by omega) (by omega) (by rw [e]; rfl) (by decide) ?_
      refine XR.aload_n d_B_count_40 rfl ?_
      refine XR.getref d_B_count_41 (xle rfl) rfl rfl uin_B (fk := 1) (xle rfl) f_B_19 rfl (xle rfl) ?_
      refine XR.cV (as := []) d_B_count_44 l_B_184 kv_S_retiredPlaces (c_S_retiredPlaces) rfl (xle rfl) rfl rfl (xle rfl) (xle rfl) ?_
      refine XR.xreturn d_B_count_47 rfl ?_
      exact ⟨by rw [cCount, if_neg (by omega), if_pos e], rfl⟩
    · refine XR.tableIn d_B_count_1 (off := 47) (tgt := 48) (by omega) (by omega) (by rw [e]; rfl) (by decide) ?_
      refine XR.aload_n d_B_count_48 rfl ?_
      refine XR.getref d_B_count_49 (xle rfl) rfl rfl uin_B (fk := 1) (xle rfl) f_B_19 rfl (xle rfl) ?_
      refine XR.cV (as := []) d_B_count_52 l_B_187 kv_S_pages (c_S_pages) rfl (xle rfl) rfl rfl (xle rfl) (xle rfl) ?_
      refine XR.xreturn d_B_count_55 rfl ?_
      exact ⟨by rw [cCount, if_neg (by omega), if_neg (by omega), if_pos e], rfl⟩
    · refine XR.tableIn d_B_count_1 (off := 55) (tgt := 56) (by omega) (by omega) (by rw [e]; rfl) (by decide) ?_
      refine XR.aload_n d_B_count_56 rfl ?_
      refine XR.getref d_B_count_57 (xle rfl) rfl rfl uin_B (fk := 0) (xle rfl) f_B_10 rfl (xle rfl) ?_
      refine XR.iconst d_B_count_60 (v := 0) (by decide) ?_
      refine XR.cV (as := [_]) d_B_count_61 l_B_166 kv_T_subtreeSize (c_T_subtreeSize hp) rfl (xle rfl) rfl rfl (xle rfl) (xle rfl) ?_
      refine XR.xreturn d_B_count_64 rfl ?_
      exact ⟨by rw [cCount, if_neg (by omega), if_neg (by omega), if_neg (by omega), if_pos e], rfl⟩
theorem c_B_astray {m : Nat} (hp : pOK σ) (ho : oOK σ m) : XC E i_B_astray 3 0 0 [.ref (xB E + 0)] (xm σ) (xok (some (.int (nI (cAstray σ m)))) (xm (cAstrayS σ m))) := by
  refine XC.ofF (by decide +kernel) cd_B_astray rfl (xle rfl) ?_
  have loop2 : ∀ (f i k : Nat), i + f = 192 → k = xcn (bSt1 σ) 40 + xcn (bSt2 (cAstrayS σ m)) i → XR E i_B_astray 3 0 0 (xok (some (.int (nI (cAstray σ m)))) (xm (cAstrayS σ m))) 58 [.ref (xB E + 0), .int (nI k), .int (nI i)] [] (xm (cAstrayS σ m)) := by
    intro f
    induction f with
    | zero =>
      intro i k hi hk
      have : i = 192 := by omega
      subst this; subst hk
      refine XR.iload_n d_B_astray_58 rfl ?_
      refine XR.sipush d_B_astray_59 (v := 192) (by decide) ?_
      refine XR.icmp_ge d_B_astray_62 (tgt := 93) (by decide) (fun _ => ?_) (fun h => absurd (by decide) h)
      refine XR.iload_n d_B_astray_93 rfl ?_
      refine XR.xreturn d_B_astray_94 rfl ?_
      exact ⟨rfl, rfl⟩
    | succ f ih =>
      intro i k hi hk
      have ei : xn (nI i) = i := nI_clamp (by omega)
      have hi1 : vp_in (nI i) 192 := vp_in_nI (by omega) (by decide)
      have q1 : bSt2 (cAstrayS σ m) i = true → k + 1 = xcn (bSt1 σ) 40 + xcn (bSt2 (cAstrayS σ m)) (i + 1) := fun h => by rw [xcn_t h, hk]; omega
      have q2 : bSt2 (cAstrayS σ m) i = false → k = xcn (bSt1 σ) 40 + xcn (bSt2 (cAstrayS σ m)) (i + 1) := fun h => by rw [xcn_f h, hk]
      refine XR.iload_n d_B_astray_58 rfl ?_
      refine XR.sipush d_B_astray_59 (v := 192) (by decide) ?_
      refine XR.icmp_ge d_B_astray_62 (tgt := 93) (by decide) (fun h => absurd h (nn_le (n := 192) (by omega) (by decide))) (fun _ => ?_)
      refine XR.aload_n d_B_astray_65 rfl ?_
      refine XR.getref d_B_astray_66 (xle rfl) rfl rfl uin_B (fk := 1) (xle rfl) f_B_19 rfl (xle rfl) ?_
      refine XR.iload_n d_B_astray_69 rfl ?_
      refine XR.cV (as := [_]) d_B_astray_70 l_B_199 kv_S_isListedWrongly (c_S_isListedWrongly hi1) rfl (xle rfl) rfl rfl (xle rfl) (xle rfl) ?_
      refine XR.if_ne d_B_astray_73 (tgt := 84) (by decide) (fun h73 => ?_) (fun h73 => ?_)
      · refine XR.iincN d_B_astray_84 rfl (xle rfl) rfl ?_
        refine XR.iincN d_B_astray_87 rfl (xle rfl) rfl ?_
        refine XR.goto d_B_astray_90 (tgt := 58) (by decide) ?_
        first | exact ih (i + 1) _ (by omega) (q1 (by clear ih q1 hk; simp_all [bSt2, bz_z])) | exact ih (i + 1) _ (by omega) (q2 (by clear ih q1 q2 hk; simp_all [bSt2, bz_z]))
      refine XR.aload_n d_B_astray_76 rfl ?_
      refine XR.iload_n d_B_astray_77 rfl ?_
      refine XR.cV (as := [_]) d_B_astray_78 l_B_202 kv_B_isWithoutBank (c_B_isWithoutBank hi1) rfl (xle rfl) rfl rfl (xle rfl) (xle rfl) ?_
      refine XR.if_eq d_B_astray_81 (tgt := 87) (by decide) (fun h81 => ?_) (fun h81 => ?_)
      · refine XR.iincN d_B_astray_87 rfl (xle rfl) rfl ?_
        refine XR.goto d_B_astray_90 (tgt := 58) (by decide) ?_
        first | exact ih (i + 1) _ (by omega) (q1 (by clear ih q1 hk; simp_all [bSt2, bz_z])) | exact ih (i + 1) _ (by omega) (q2 (by clear ih q1 q2 hk; simp_all [bSt2, bz_z]))
      refine XR.iincN d_B_astray_84 rfl (xle rfl) rfl ?_
      refine XR.iincN d_B_astray_87 rfl (xle rfl) rfl ?_
      refine XR.goto d_B_astray_90 (tgt := 58) (by decide) ?_
      first | exact ih (i + 1) _ (by omega) (q1 (by clear ih q1 hk; simp_all [bSt2, bz_z])) | exact ih (i + 1) _ (by omega) (q2 (by clear ih q1 q2 hk; simp_all [bSt2, bz_z]))
  have loop1 : ∀ (f i k : Nat), i + f = 40 → k = xcn (bSt1 σ) i → XR E i_B_astray 3 0 0 (xok (some (.int (nI (cAstray σ m)))) (xm (cAstrayS σ m))) 4 [.ref (xB E + 0), .int (nI k), .int (nI i)] [] (xm σ) := by
    intro f
    induction f with
    | zero =>
      intro i k hi hk
      have : i = 40 := by omega
      subst this; subst hk
      refine XR.iload_n d_B_astray_4 rfl ?_
      refine XR.bipush d_B_astray_5 (v := 40) (by decide) ?_
      refine XR.icmp_ge d_B_astray_7 (tgt := 49) (by decide) (fun _ => ?_) (fun h => absurd (by decide) h)
      refine XR.aload_n d_B_astray_49 rfl ?_
      refine XR.getref d_B_astray_50 (xle rfl) rfl rfl uin_B (fk := 1) (xle rfl) f_B_19 rfl (xle rfl) ?_
      refine XR.cV (as := []) d_B_astray_53 l_B_196 kv_S_countListings (c_S_countListings ho) rfl (xle rfl) rfl rfl (xle rfl) (xle rfl) ?_
      refine XR.iconst d_B_astray_56 (v := nI 0) (by decide) ?_
      refine XR.istore_n d_B_astray_57 (xle rfl) rfl ?_
      exact loop2 192 0 _ rfl rfl
    | succ f ih =>
      intro i k hi hk
      have hi1 : vp_in (nI i) 40 := vp_in_nI (by omega) (by decide)
      have q1 : bSt1 σ i = true → k + 1 = xcn (bSt1 σ) (i + 1) := fun h => by rw [xcn_t h, hk]
      have q2 : bSt1 σ i = false → k = xcn (bSt1 σ) (i + 1) := fun h => by rw [xcn_f h, hk]
      refine XR.iload_n d_B_astray_4 rfl ?_
      refine XR.bipush d_B_astray_5 (v := 40) (by decide) ?_
      refine XR.icmp_ge d_B_astray_7 (tgt := 49) (by decide) (fun h => absurd h (nn_le (n := 40) (by omega) (by decide))) (fun _ => ?_)
      refine XR.aload_n d_B_astray_10 rfl ?_
      refine XR.getref d_B_astray_11 (xle rfl) rfl rfl uin_B (fk := 0) (xle rfl) f_B_10 rfl (xle rfl) ?_
      refine XR.iload_n d_B_astray_14 rfl ?_
      refine XR.cV (as := [_]) d_B_astray_15 l_B_190 kv_T_isBank (c_T_isBank) rfl (xle rfl) rfl rfl (xle rfl) (xle rfl) ?_
      refine XR.if_eq d_B_astray_18 (tgt := 43) (by decide) (fun h18 => ?_) (fun h18 => ?_)
      · refine XR.iincN d_B_astray_43 rfl (xle rfl) rfl ?_
        refine XR.goto d_B_astray_46 (tgt := 4) (by decide) ?_
        first | exact ih (i + 1) _ (by omega) (q1 (by clear ih q1 hk loop2; simp_all [bSt1, bz_z])) | exact ih (i + 1) _ (by omega) (q2 (by clear ih q1 q2 hk loop2; simp_all [bSt1, bz_z]))
      refine XR.aload_n d_B_astray_21 rfl ?_
      refine XR.getref d_B_astray_22 (xle rfl) rfl rfl uin_B (fk := 0) (xle rfl) f_B_10 rfl (xle rfl) ?_
      refine XR.iload_n d_B_astray_25 rfl ?_
      refine XR.aload_n d_B_astray_26 rfl ?_
      refine XR.getref d_B_astray_27 (xle rfl) rfl rfl uin_B (fk := 1) (xle rfl) f_B_19 rfl (xle rfl) ?_
      refine XR.iload_n d_B_astray_30 rfl ?_
      refine XR.cV (as := [_]) d_B_astray_31 l_B_148 kv_S_ownedBy (c_S_ownedBy) rfl (xle rfl) rfl rfl (xle rfl) (xle rfl) ?_
      refine XR.cV (as := [_, _]) d_B_astray_34 l_B_193 kv_T_isStray (c_T_isStray hp hi1) rfl (xle rfl) rfl rfl (xle rfl) (xle rfl) ?_
      refine XR.if_eq d_B_astray_37 (tgt := 43) (by decide) (fun h37 => ?_) (fun h37 => ?_)
      · refine XR.iincN d_B_astray_43 rfl (xle rfl) rfl ?_
        refine XR.goto d_B_astray_46 (tgt := 4) (by decide) ?_
        first | exact ih (i + 1) _ (by omega) (q1 (by clear ih q1 hk loop2; simp_all [bSt1, bz_z])) | exact ih (i + 1) _ (by omega) (q2 (by clear ih q1 q2 hk loop2; simp_all [bSt1, bz_z]))
      refine XR.iincN d_B_astray_40 rfl (xle rfl) rfl ?_
      refine XR.iincN d_B_astray_43 rfl (xle rfl) rfl ?_
      refine XR.goto d_B_astray_46 (tgt := 4) (by decide) ?_
      first | exact ih (i + 1) _ (by omega) (q1 (by clear ih q1 hk loop2; simp_all [bSt1, bz_z])) | exact ih (i + 1) _ (by omega) (q2 (by clear ih q1 q2 hk loop2; simp_all [bSt1, bz_z]))
  refine XR.iconst d_B_astray_0 (v := nI 0) (by decide) ?_
  refine XR.istore_n d_B_astray_1 (xle rfl) rfl ?_
  refine XR.iconst d_B_astray_2 (v := nI 0) (by decide) ?_
  refine XR.istore_n d_B_astray_3 (xle rfl) rfl ?_
  exact loop1 40 0 0 rfl rfl
end XFace4
