/-! numbers of the walks -/
theorem xok_0 {b : Bool} {w : xWd} (h : b = false) : xok (some (.int (bz b))) w (.inl (some (.int 0))) w := by subst h; exact ⟨rfl, rfl⟩
theorem xok_1 {b : Bool} {w : xWd} (h : b = true) : xok (some (.int (bz b))) w (.inl (some (.int 1))) w := by subst h; exact ⟨rfl, rfl⟩
theorem vp_in_lt {x N : Int32} {n : Nat} (h1 : ¬ x < 0) (h2 : ¬ N ≤ x) (hN : N.toInt = n) : vp_in x n := by
  rw [vp_in_iff]
  rw [Int32.lt_iff_toInt_lt] at h1
  rw [Int32.le_iff_toInt_le] at h2
  have h0 : (0 : Int32).toInt = 0 := by decide
  omega
/-! the static tests of the class -/
section XSmall
variable {E : xE} {σ : xS}
theorem c_B_requireIndex {x : Int32} : XC E i_B_requireIndex 6 0 0 [.int x] (xm σ) (xtry (x = 0) "java/lang/IndexOutOfBoundsException" (xm σ) none (xm σ)) := by
  refine XC.ofF (by decide +kernel) cd_B_requireIndex rfl (xle rfl) ?_
  refine XR.iload_n d_B_requireIndex_0 rfl ?_
  refine XR.if_ne d_B_requireIndex_1 (tgt := 12) (by decide) (fun h1 => ?_) (fun h1 => ?_)
  · refine XR.return_ d_B_requireIndex_12 rfl ?_
    exact ⟨fun h => absurd h h1, fun _ => ⟨rfl, rfl⟩⟩
  refine XR.throw (names := xnames) d_B_requireIndex_4 d_B_requireIndex_7 d_B_requireIndex_8 d_B_requireIndex_11 c_B_228 in_java_lang_IndexOutOfBoundsException it_java_lang_IndexOutOfBoundsException fit_IndexOutOfBoundsException xnames_fit ta_IndexOutOfBoundsException (xnlt rfl) (fun _ hx => absurd hx List.not_mem_nil) (xle rfl) (xle rfl) ?_
  exact ⟨fun _ => ⟨rfl, rfl⟩, fun h => absurd h1 h⟩
theorem c_B_requireArgument {x : Int32} : XC E i_B_requireArgument 6 0 0 [.int x] (xm σ) (xtry (x = 0) "java/lang/IllegalArgumentException" (xm σ) none (xm σ)) := by
  refine XC.ofF (by decide +kernel) cd_B_requireArgument rfl (xle rfl) ?_
  refine XR.iload_n d_B_requireArgument_0 rfl ?_
  refine XR.if_ne d_B_requireArgument_1 (tgt := 12) (by decide) (fun h1 => ?_) (fun h1 => ?_)
  · refine XR.return_ d_B_requireArgument_12 rfl ?_
    exact ⟨fun h => absurd h h1, fun _ => ⟨rfl, rfl⟩⟩
  refine XR.throw (names := xnames) d_B_requireArgument_4 d_B_requireArgument_7 d_B_requireArgument_8 d_B_requireArgument_11 c_B_169 in_java_lang_IllegalArgumentException it_java_lang_IllegalArgumentException fit_IllegalArgumentException xnames_fit ta_IllegalArgumentException (xnlt rfl) (fun _ hx => absurd hx List.not_mem_nil) (xle rfl) (xle rfl) ?_
  exact ⟨fun _ => ⟨rfl, rfl⟩, fun h => absurd h1 h⟩
theorem c_B_requireState {x : Int32} : XC E i_B_requireState 6 0 0 [.int x] (xm σ) (xtry (x = 0) "java/lang/IllegalStateException" (xm σ) none (xm σ)) := by
  refine XC.ofF (by decide +kernel) cd_B_requireState rfl (xle rfl) ?_
  refine XR.iload_n d_B_requireState_0 rfl ?_
  refine XR.if_ne d_B_requireState_1 (tgt := 12) (by decide) (fun h1 => ?_) (fun h1 => ?_)
  · refine XR.return_ d_B_requireState_12 rfl ?_
    exact ⟨fun h => absurd h h1, fun _ => ⟨rfl, rfl⟩⟩
  refine XR.throw (names := xnames) d_B_requireState_4 d_B_requireState_7 d_B_requireState_8 d_B_requireState_11 c_B_231 in_java_lang_IllegalStateException it_java_lang_IllegalStateException fit_IllegalStateException xnames_fit ta_IllegalStateException (xnlt rfl) (fun _ hx => absurd hx List.not_mem_nil) (xle rfl) (xle rfl) ?_
  exact ⟨fun _ => ⟨rfl, rfl⟩, fun h => absurd h1 h⟩
def bUp (x : Int32) : Bool := !decide (x < 0) && !decide (192 < x)
theorem c_B_isUpToAllPages {x : Int32} : XC E i_B_isUpToAllPages 1 0 0 [.int x] (xm σ) (xok (some (.int (bz (bUp x)))) (xm σ)) := by
  refine XC.ofF (by decide +kernel) cd_B_isUpToAllPages rfl (xle rfl) ?_
  refine XR.iload_n d_B_isUpToAllPages_0 rfl ?_
  refine XR.if_lt d_B_isUpToAllPages_1 (tgt := 15) (by decide) (fun h1 => ?_) (fun h1 => ?_)
  · refine XR.iconst d_B_isUpToAllPages_15 (v := 0) (by decide) ?_
    refine XR.zret0 d_B_isUpToAllPages_16 rfl ?_
    exact xok_0 (by simp_all [bUp])
  refine XR.iload_n d_B_isUpToAllPages_4 rfl ?_
  refine XR.sipush d_B_isUpToAllPages_5 (v := 192) (by decide) ?_
  refine XR.icmp_gt d_B_isUpToAllPages_8 (tgt := 15) (by decide) (fun h8 => ?_) (fun h8 => ?_)
  · refine XR.iconst d_B_isUpToAllPages_15 (v := 0) (by decide) ?_
    refine XR.zret0 d_B_isUpToAllPages_16 rfl ?_
    exact xok_0 (by simp_all [bUp])
  refine XR.iconst d_B_isUpToAllPages_11 (v := 1) (by decide) ?_
  refine XR.goto d_B_isUpToAllPages_12 (tgt := 16) (by decide) ?_
  refine XR.zret1 d_B_isUpToAllPages_16 rfl ?_
  exact xok_1 (by simp_all [bUp])
def bWord (x : Int32) : Bool := !decide (x < 0) && !decide (4 ≤ x)
theorem c_B_isWord {x : Int32} : XC E i_B_isWord 1 0 0 [.int x] (xm σ) (xok (some (.int (bz (bWord x)))) (xm σ)) := by
  refine XC.ofF (by decide +kernel) cd_B_isWord rfl (xle rfl) ?_
  refine XR.iload_n d_B_isWord_0 rfl ?_
  refine XR.if_lt d_B_isWord_1 (tgt := 13) (by decide) (fun h1 => ?_) (fun h1 => ?_)
  · refine XR.iconst d_B_isWord_13 (v := 0) (by decide) ?_
    refine XR.zret0 d_B_isWord_14 rfl ?_
    exact xok_0 (by simp_all [bWord])
  refine XR.iload_n d_B_isWord_4 rfl ?_
  refine XR.iconst d_B_isWord_5 (v := 4) (by decide) ?_
  refine XR.icmp_ge d_B_isWord_6 (tgt := 13) (by decide) (fun h6 => ?_) (fun h6 => ?_)
  · refine XR.iconst d_B_isWord_13 (v := 0) (by decide) ?_
    refine XR.zret0 d_B_isWord_14 rfl ?_
    exact xok_0 (by simp_all [bWord])
  refine XR.iconst d_B_isWord_9 (v := 1) (by decide) ?_
  refine XR.goto d_B_isWord_10 (tgt := 14) (by decide) ?_
  refine XR.zret1 d_B_isWord_14 rfl ?_
  exact xok_1 (by simp_all [bWord])
def bStrong (x : Int32) : Bool := x &&& 1 == 0
theorem c_B_isStrong {x : Int32} : XC E i_B_isStrong 1 0 0 [.int x] (xm σ) (xok (some (.int (bz (bStrong x)))) (xm σ)) := by
  refine XC.ofF (by decide +kernel) cd_B_isStrong rfl (xle rfl) ?_
  refine XR.iload_n d_B_isStrong_0 rfl ?_
  refine XR.iconst d_B_isStrong_1 (v := 1) (by decide) ?_
  refine XR.iand d_B_isStrong_2 ?_
  refine XR.if_ne d_B_isStrong_3 (tgt := 10) (by decide) (fun h3 => ?_) (fun h3 => ?_)
  · refine XR.iconst d_B_isStrong_10 (v := 0) (by decide) ?_
    refine XR.zret0 d_B_isStrong_11 rfl ?_
    exact xok_0 (by simp_all [bStrong])
  refine XR.iconst d_B_isStrong_6 (v := 1) (by decide) ?_
  refine XR.goto d_B_isStrong_7 (tgt := 11) (by decide) ?_
  refine XR.zret1 d_B_isStrong_11 rfl ?_
  exact xok_1 (by simp_all [bStrong])
theorem c_J_min {x y : Int32} : XC E i_J_min 1 0 0 [.int x, .int y] (xm σ) (xok (some (.int (if y < x then y else x))) (xm σ)) := by
  refine XC.ofF (by decide +kernel) cd_J_min rfl (xle rfl) ?_
  refine XR.iload_n d_J_min_0 rfl ?_
  refine XR.iload_n d_J_min_1 rfl ?_
  refine XR.icmp_gt d_J_min_2 (tgt := 9) (by decide) (fun h2 => ?_) (fun h2 => ?_)
  · refine XR.iload_n d_J_min_9 rfl ?_
    refine XR.xreturn d_J_min_10 rfl ?_
    first | exact ⟨by rw [if_pos h2], rfl⟩ | exact ⟨by rw [if_neg h2], rfl⟩
  refine XR.iload_n d_J_min_5 rfl ?_
  refine XR.goto d_J_min_6 (tgt := 10) (by decide) ?_
  refine XR.xreturn d_J_min_10 rfl ?_
  first | exact ⟨by rw [if_pos h2], rfl⟩ | exact ⟨by rw [if_neg h2], rfl⟩
end XSmall
