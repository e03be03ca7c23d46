/-! the store of pages: what its methods do -/
def sTk (σ : xS) (p : Nat) : Bool := !(σ 9 p == -1)
def sFr (σ : xS) (p : Nat) : Bool := (σ 9 p == -1) && !decide (7 ≤ σ 8 p)
def sHas (σ : xS) (x v : Int32) : Bool := !decide (192 ≤ x) && sTk σ (xn x) && (σ 8 (xn x) == v)
def sSame (σ : xS) (x y : Int32) : Bool := !decide (192 ≤ y) && sTk σ (xn y) && (σ 10 (xn y) == σ 10 (xn x))
def sLfF (σ : xS) (n : Int32) : Nat → Nat → Int32 → Int32
  | 0, _, _ => -1
  | f + 1, i, k => if (if sFr σ i then k + 1 else 0) = n then nI i - n + 1 else sLfF σ n f (i + 1) (if sFr σ i then k + 1 else 0)
def sLf (σ : xS) (n : Int32) : Int32 := sLfF σ n 192 0 0
def sGive (σ : xS) (x b : Int32) : xS := xu (xu (xu σ 9 (xn x) b) 12 (xn (σ 7 6)) x) 7 6 (σ 7 6 + 1)
def sClr (σ : xS) (p k : Nat) : xS := xup σ 11 (fun j => if p * 4 ≤ j ∧ j < p * 4 + k then 0 else σ 11 j)
def sFiF (b : Int32) : Nat → Nat → xS → xS
  | 0, _, σ => σ
  | f + 1, i, σ => sFiF b f (i + 1) (sGive (sClr (xu (xu σ 8 i (σ 8 i + 1)) 10 i (σ 7 7)) i 4) (nI i) b)
def sFi (σ : xS) (first n : Nat) (b : Int32) : xS := sFiF b n first (xu σ 7 7 (σ 7 7 + 1))
def sGapF : Nat → Nat → Nat → xS → Nat × xS
  | 0, _, k, σ => (k, σ)
  | f + 1, i, k, σ => if sTk σ (xn (σ 12 i)) then sGapF f (i + 1) (k + 1) (xu σ 12 k (σ 12 i)) else sGapF f (i + 1) k σ
def sGap (σ : xS) (m : Nat) : xS := xu (sGapF m 0 0 σ).2 7 6 (nI (sGapF m 0 0 σ).1)
def sOwn (σ : xS) (b : Int32) : Nat := xcn (fun p => σ 9 p == b) 192
def sPlF (σ : xS) (b k : Int32) : Nat → Nat → Int32 → Int32
  | 0, _, _ => -1
  | f + 1, i, n => if σ 9 (xn (σ 12 i)) = b then (if n = k then σ 12 i else sPlF σ b k f (i + 1) (n + 1)) else sPlF σ b k f (i + 1) n
def sPl (σ : xS) (m : Nat) (b k : Int32) : Int32 := sPlF σ b k m 0 0
/-- the row of places: m of them are listed, all in range -/
def oOK (σ : xS) (m : Nat) : Prop := σ 7 6 = nI m ∧ m ≤ 192 ∧ ∀ i, i < m → vp_in (σ 12 i) 192
section XStore
variable {E : xE} {σ : xS} {x y v b n : Int32}
theorem c_S_isTaken (hx : vp_in x 192) : XC E i_S_isTaken 1 0 0 [.ref (xB E + 7), .int x] (xm σ) (xok (some (.int (bz (sTk σ (xn x))))) (xm σ)) := by
  refine XC.ofF (by decide +kernel) cd_S_isTaken rfl (xle rfl) ?_
  refine XR.aload_n d_S_isTaken_0 rfl ?_
  refine XR.getref d_S_isTaken_1 (xle rfl) rfl rfl uin_S (fk := 1) (xle rfl) f_S_15 rfl (xle rfl) ?_
  refine XR.iload_n d_S_isTaken_4 rfl ?_
  refine XR.iaload d_S_isTaken_5 (xle rfl) (fun _ => rfl) hx ?_
  refine XR.iconst d_S_isTaken_6 (v := -1) (by decide) ?_
  refine XR.icmp_eq d_S_isTaken_7 (tgt := 14) (by decide) (fun h7 => ?_) (fun h7 => ?_)
  · refine XR.iconst d_S_isTaken_14 (v := 0) (by decide) ?_
    refine XR.zret0 d_S_isTaken_15 rfl ?_
    exact xok_0 (by simp_all [sTk])
  refine XR.iconst d_S_isTaken_10 (v := 1) (by decide) ?_
  refine XR.goto d_S_isTaken_11 (tgt := 15) (by decide) ?_
  refine XR.zret1 d_S_isTaken_15 rfl ?_
  exact xok_1 (by simp_all [sTk])
theorem c_S_isFree (hx : vp_in x 192) : XC E i_S_isFree 1 0 0 [.ref (xB E + 7), .int x] (xm σ) (xok (some (.int (bz (sFr σ (xn x))))) (xm σ)) := by
  refine XC.ofF (by decide +kernel) cd_S_isFree rfl (xle rfl) ?_
  refine XR.aload_n d_S_isFree_0 rfl ?_
  refine XR.getref d_S_isFree_1 (xle rfl) rfl rfl uin_S (fk := 1) (xle rfl) f_S_15 rfl (xle rfl) ?_
  refine XR.iload_n d_S_isFree_4 rfl ?_
  refine XR.iaload d_S_isFree_5 (xle rfl) (fun _ => rfl) hx ?_
  refine XR.iconst d_S_isFree_6 (v := -1) (by decide) ?_
  refine XR.icmp_ne d_S_isFree_7 (tgt := 25) (by decide) (fun h7 => ?_) (fun h7 => ?_)
  · refine XR.iconst d_S_isFree_25 (v := 0) (by decide) ?_
    refine XR.zret0 d_S_isFree_26 rfl ?_
    exact xok_0 (by simp_all [sFr])
  refine XR.aload_n d_S_isFree_10 rfl ?_
  refine XR.getref d_S_isFree_11 (xle rfl) rfl rfl uin_S (fk := 0) (xle rfl) f_S_9 rfl (xle rfl) ?_
  refine XR.iload_n d_S_isFree_14 rfl ?_
  refine XR.iaload d_S_isFree_15 (xle rfl) (fun _ => rfl) hx ?_
  refine XR.bipush d_S_isFree_16 (v := 7) (by decide) ?_
  refine XR.icmp_ge d_S_isFree_18 (tgt := 25) (by decide) (fun h18 => ?_) (fun h18 => ?_)
  · refine XR.iconst d_S_isFree_25 (v := 0) (by decide) ?_
    refine XR.zret0 d_S_isFree_26 rfl ?_
    exact xok_0 (by simp_all [sFr])
  refine XR.iconst d_S_isFree_21 (v := 1) (by decide) ?_
  refine XR.goto d_S_isFree_22 (tgt := 26) (by decide) ?_
  refine XR.zret1 d_S_isFree_26 rfl ?_
  exact xok_1 (by simp_all [sFr])
theorem c_S_ownerOf (hx : vp_in x 192) : XC E i_S_ownerOf 1 0 0 [.ref (xB E + 7), .int x] (xm σ) (xok (some (.int (σ 9 (xn x)))) (xm σ)) := by
  refine XC.ofF (by decide +kernel) cd_S_ownerOf rfl (xle rfl) ?_
  refine XR.aload_n d_S_ownerOf_0 rfl ?_
  refine XR.getref d_S_ownerOf_1 (xle rfl) rfl rfl uin_S (fk := 1) (xle rfl) f_S_15 rfl (xle rfl) ?_
  refine XR.iload_n d_S_ownerOf_4 rfl ?_
  refine XR.iaload d_S_ownerOf_5 (xle rfl) (fun _ => rfl) hx ?_
  refine XR.xreturn d_S_ownerOf_6 rfl ?_
  exact ⟨rfl, rfl⟩
theorem c_S_hasPage (hx : ¬ x < 0) : XC E i_S_hasPage 2 0 0 [.ref (xB E + 7), .int x, .int v] (xm σ) (xok (some (.int (bz (sHas σ x v)))) (xm σ)) := by
  refine XC.ofF (by decide +kernel) cd_S_hasPage rfl (xle rfl) ?_
  refine XR.iload_n d_S_hasPage_0 rfl ?_
  refine XR.sipush d_S_hasPage_1 (v := 192) (by decide) ?_
  refine XR.icmp_ge d_S_hasPage_4 (tgt := 29) (by decide) (fun h4 => ?_) (fun h4 => ?_)
  · refine XR.iconst d_S_hasPage_29 (v := 0) (by decide) ?_
    refine XR.zret0 d_S_hasPage_30 rfl ?_
    exact xok_0 (by simp_all [sHas, bz_z])
  refine XR.aload_n d_S_hasPage_7 rfl ?_
  refine XR.iload_n d_S_hasPage_8 rfl ?_
  refine XR.cV d_S_hasPage_9 l_S_36 kv_S_isTaken (c_S_isTaken (vp_in_lt hx h4 (by decide))) rfl (xle rfl) rfl rfl (xle rfl) (xle rfl) ?_
  refine XR.if_eq d_S_hasPage_12 (tgt := 29) (by decide) (fun h12 => ?_) (fun h12 => ?_)
  · refine XR.iconst d_S_hasPage_29 (v := 0) (by decide) ?_
    refine XR.zret0 d_S_hasPage_30 rfl ?_
    exact xok_0 (by simp_all [sHas, bz_z])
  refine XR.aload_n d_S_hasPage_15 rfl ?_
  refine XR.getref d_S_hasPage_16 (xle rfl) rfl rfl uin_S (fk := 0) (xle rfl) f_S_9 rfl (xle rfl) ?_
  refine XR.iload_n d_S_hasPage_19 rfl ?_
  refine XR.iaload d_S_hasPage_20 (xle rfl) (fun _ => rfl) (vp_in_lt hx h4 (by decide)) ?_
  refine XR.iload_n d_S_hasPage_21 rfl ?_
  refine XR.icmp_ne d_S_hasPage_22 (tgt := 29) (by decide) (fun h22 => ?_) (fun h22 => ?_)
  · refine XR.iconst d_S_hasPage_29 (v := 0) (by decide) ?_
    refine XR.zret0 d_S_hasPage_30 rfl ?_
    exact xok_0 (by simp_all [sHas, bz_z])
  refine XR.iconst d_S_hasPage_25 (v := 1) (by decide) ?_
  refine XR.goto d_S_hasPage_26 (tgt := 30) (by decide) ?_
  refine XR.zret1 d_S_hasPage_30 rfl ?_
  exact xok_1 (by simp_all [sHas, bz_z])
theorem c_S_isSameRun (hx : vp_in x 192) (hy : ¬ y < 0) : XC E i_S_isSameRun 2 0 0 [.ref (xB E + 7), .int x, .int y] (xm σ) (xok (some (.int (bz (sSame σ x y)))) (xm σ)) := by
  refine XC.ofF (by decide +kernel) cd_S_isSameRun rfl (xle rfl) ?_
  refine XR.iload_n d_S_isSameRun_0 rfl ?_
  refine XR.sipush d_S_isSameRun_1 (v := 192) (by decide) ?_
  refine XR.icmp_ge d_S_isSameRun_4 (tgt := 34) (by decide) (fun h4 => ?_) (fun h4 => ?_)
  · refine XR.iconst d_S_isSameRun_34 (v := 0) (by decide) ?_
    refine XR.zret0 d_S_isSameRun_35 rfl ?_
    exact xok_0 (by simp_all [sSame, bz_z])
  refine XR.aload_n d_S_isSameRun_7 rfl ?_
  refine XR.iload_n d_S_isSameRun_8 rfl ?_
  refine XR.cV d_S_isSameRun_9 l_S_36 kv_S_isTaken (c_S_isTaken (vp_in_lt hy h4 (by decide))) rfl (xle rfl) rfl rfl (xle rfl) (xle rfl) ?_
  refine XR.if_eq d_S_isSameRun_12 (tgt := 34) (by decide) (fun h12 => ?_) (fun h12 => ?_)
  · refine XR.iconst d_S_isSameRun_34 (v := 0) (by decide) ?_
    refine XR.zret0 d_S_isSameRun_35 rfl ?_
    exact xok_0 (by simp_all [sSame, bz_z])
  refine XR.aload_n d_S_isSameRun_15 rfl ?_
  refine XR.getref d_S_isSameRun_16 (xle rfl) rfl rfl uin_S (fk := 2) (xle rfl) f_S_18 rfl (xle rfl) ?_
  refine XR.iload_n d_S_isSameRun_19 rfl ?_
  refine XR.iaload d_S_isSameRun_20 (xle rfl) (fun _ => rfl) (vp_in_lt hy h4 (by decide)) ?_
  refine XR.aload_n d_S_isSameRun_21 rfl ?_
  refine XR.getref d_S_isSameRun_22 (xle rfl) rfl rfl uin_S (fk := 2) (xle rfl) f_S_18 rfl (xle rfl) ?_
  refine XR.iload_n d_S_isSameRun_25 rfl ?_
  refine XR.iaload d_S_isSameRun_26 (xle rfl) (fun _ => rfl) hx ?_
  refine XR.icmp_ne d_S_isSameRun_27 (tgt := 34) (by decide) (fun h27 => ?_) (fun h27 => ?_)
  · refine XR.iconst d_S_isSameRun_34 (v := 0) (by decide) ?_
    refine XR.zret0 d_S_isSameRun_35 rfl ?_
    exact xok_0 (by simp_all [sSame, bz_z])
  refine XR.iconst d_S_isSameRun_30 (v := 1) (by decide) ?_
  refine XR.goto d_S_isSameRun_31 (tgt := 35) (by decide) ?_
  refine XR.zret1 d_S_isSameRun_35 rfl ?_
  exact xok_1 (by simp_all [sSame, bz_z])
theorem c_S_strongKey (hx : vp_in x 192) : XC E i_S_strongKey 1 0 0 [.ref (xB E + 7), .int x] (xm σ) (xok (some (.int (1024 * σ 8 (xn x) + 2 * x))) (xm σ)) := by
  refine XC.ofF (by decide +kernel) cd_S_strongKey rfl (xle rfl) ?_
  refine XR.sipush d_S_strongKey_0 (v := 1024) (by decide) ?_
  refine XR.aload_n d_S_strongKey_3 rfl ?_
  refine XR.getref d_S_strongKey_4 (xle rfl) rfl rfl uin_S (fk := 0) (xle rfl) f_S_9 rfl (xle rfl) ?_
  refine XR.iload_n d_S_strongKey_7 rfl ?_
  refine XR.iaload d_S_strongKey_8 (xle rfl) (fun _ => rfl) hx ?_
  refine XR.imul d_S_strongKey_9 ?_
  refine XR.iconst d_S_strongKey_10 (v := 2) (by decide) ?_
  refine XR.iload_n d_S_strongKey_11 rfl ?_
  refine XR.imul d_S_strongKey_12 ?_
  refine XR.iadd d_S_strongKey_13 ?_
  refine XR.xreturn d_S_strongKey_14 rfl ?_
  exact ⟨rfl, rfl⟩
theorem c_S_wordAt (hx : vp_in (x * 4 + y) 768) : XC E i_S_wordAt 1 0 0 [.ref (xB E + 7), .int x, .int y] (xm σ) (xok (some (.int (σ 11 (xn (x * 4 + y))))) (xm σ)) := by
  refine XC.ofF (by decide +kernel) cd_S_wordAt rfl (xle rfl) ?_
  refine XR.aload_n d_S_wordAt_0 rfl ?_
  refine XR.getref d_S_wordAt_1 (xle rfl) rfl rfl uin_S (fk := 3) (xle rfl) f_S_21 rfl (xle rfl) ?_
  refine XR.iload_n d_S_wordAt_4 rfl ?_
  refine XR.iconst d_S_wordAt_5 (v := 4) (by decide) ?_
  refine XR.imul d_S_wordAt_6 ?_
  refine XR.iload_n d_S_wordAt_7 rfl ?_
  refine XR.iadd d_S_wordAt_8 ?_
  refine XR.iaload d_S_wordAt_9 (xle rfl) (fun _ => rfl) hx ?_
  refine XR.xreturn d_S_wordAt_10 rfl ?_
  exact ⟨rfl, rfl⟩
theorem c_S_replaceWord (hx : vp_in (x * 4 + y) 768) : XC E i_S_replaceWord 1 0 0 [.ref (xB E + 7), .int x, .int y, .int v] (xm σ) (xok (some (.int (σ 11 (xn (x * 4 + y))))) (xm (xu σ 11 (xn (x * 4 + y)) v))) := by
  refine XC.ofF (by decide +kernel) cd_S_replaceWord rfl (xle rfl) ?_
  refine XR.aload_n d_S_replaceWord_0 rfl ?_
  refine XR.getref d_S_replaceWord_1 (xle rfl) rfl rfl uin_S (fk := 3) (xle rfl) f_S_21 rfl (xle rfl) ?_
  refine XR.iload_n d_S_replaceWord_4 rfl ?_
  refine XR.iconst d_S_replaceWord_5 (v := 4) (by decide) ?_
  refine XR.imul d_S_replaceWord_6 ?_
  refine XR.iload_n d_S_replaceWord_7 rfl ?_
  refine XR.iadd d_S_replaceWord_8 ?_
  refine XR.iaload d_S_replaceWord_9 (xle rfl) (fun _ => rfl) hx ?_
  refine XR.istore d_S_replaceWord_10 (xle rfl) rfl ?_
  refine XR.aload_n d_S_replaceWord_12 rfl ?_
  refine XR.getref d_S_replaceWord_13 (xle rfl) rfl rfl uin_S (fk := 3) (xle rfl) f_S_21 rfl (xle rfl) ?_
  refine XR.iload_n d_S_replaceWord_16 rfl ?_
  refine XR.iconst d_S_replaceWord_17 (v := 4) (by decide) ?_
  refine XR.imul d_S_replaceWord_18 ?_
  refine XR.iload_n d_S_replaceWord_19 rfl ?_
  refine XR.iadd d_S_replaceWord_20 ?_
  refine XR.iload_n d_S_replaceWord_21 rfl ?_
  refine XR.iastore d_S_replaceWord_22 (xle rfl) (fun _ => rfl) hx ?_
  refine XR.iload d_S_replaceWord_23 rfl ?_
  refine XR.xreturn d_S_replaceWord_25 rfl ?_
  exact ⟨rfl, rfl⟩
theorem c_S_pages : XC E i_S_pages 1 0 0 [.ref (xB E + 7)] (xm σ) (xok (some (.int (σ 7 6))) (xm σ)) := by
  refine XC.ofF (by decide +kernel) cd_S_pages rfl (xle rfl) ?_
  refine XR.aload_n d_S_pages_0 rfl ?_
  refine XR.getint d_S_pages_1 (xle rfl) rfl rfl uin_S (fk := 6) (xle rfl) f_S_40 rfl ?_
  refine XR.xreturn d_S_pages_4 rfl ?_
  exact ⟨rfl, rfl⟩
theorem c_S_vacate (hx : vp_in x 192) : XC E i_S_vacate 1 0 0 [.ref (xB E + 7), .int x] (xm σ) (xok none (xm (xu σ 9 (xn x) (-1)))) := by
  refine XC.ofF (by decide +kernel) cd_S_vacate rfl (xle rfl) ?_
  refine XR.aload_n d_S_vacate_0 rfl ?_
  refine XR.getref d_S_vacate_1 (xle rfl) rfl rfl uin_S (fk := 1) (xle rfl) f_S_15 rfl (xle rfl) ?_
  refine XR.iload_n d_S_vacate_4 rfl ?_
  refine XR.iconst d_S_vacate_5 (v := -1) (by decide) ?_
  refine XR.iastore d_S_vacate_6 (xle rfl) (fun _ => rfl) hx ?_
  refine XR.return_ d_S_vacate_7 rfl ?_
  exact ⟨rfl, rfl⟩
theorem c_S_freePlaces : XC E i_S_freePlaces 2 0 0 [.ref (xB E + 7)] (xm σ) (xok (some (.int (nI (xcn (sFr σ) 192)))) (xm σ)) := by
  refine XC.ofF (by decide +kernel) cd_S_freePlaces rfl (xle rfl) ?_
  have loop : ∀ (f i k : Nat), i + f = 192 → k = xcn (sFr σ) i → XR E i_S_freePlaces 2 0 0 (xok (some (.int (nI (xcn (sFr σ) 192)))) (xm σ)) 4 [.ref (xB E + 7), .int (nI k), .int (nI i)] [] (xm σ) := by
    intro f
    induction f with
    | zero =>
      intro i k hi hk
      have : i = 192 := by omega
      subst this; subst hk
      refine XR.iload_n d_S_freePlaces_4 rfl ?_
      refine XR.sipush d_S_freePlaces_5 (v := 192) (by decide) ?_
      refine XR.icmp_ge d_S_freePlaces_8 (tgt := 28) (by decide) (fun _ => ?_) (fun h => absurd (by decide) h)
      refine XR.iload_n d_S_freePlaces_28 rfl ?_
      refine XR.xreturn d_S_freePlaces_29 rfl ?_
      exact ⟨rfl, rfl⟩
    | succ f ih =>
      intro i k hi hk
      have ei : xn (nI i) = i := nI_clamp (by omega)
      refine XR.iload_n d_S_freePlaces_4 rfl ?_
      refine XR.sipush d_S_freePlaces_5 (v := 192) (by decide) ?_
      refine XR.icmp_ge d_S_freePlaces_8 (tgt := 28) (by decide) (fun h => absurd h (nn_le (n := 192) (by omega) (by decide))) (fun _ => ?_)
      refine XR.aload_n d_S_freePlaces_11 rfl ?_
      refine XR.iload_n d_S_freePlaces_12 rfl ?_
      refine XR.cV d_S_freePlaces_13 l_S_44 kv_S_isFree (c_S_isFree (vp_in_nI (by omega) (by decide))) rfl (xle rfl) rfl rfl (xle rfl) (xle rfl) ?_
      refine XR.if_eq d_S_freePlaces_16 (tgt := 22) (by decide) (fun h16 => ?_) (fun h16 => ?_)
      · refine XR.iincN d_S_freePlaces_22 rfl (xle rfl) rfl ?_
        refine XR.goto d_S_freePlaces_25 (tgt := 4) (by decide) ?_
        exact ih (i + 1) _ (by omega) (by clear ih; simp_all [xcn, bz_z])
      refine XR.iincN d_S_freePlaces_19 rfl (xle rfl) rfl ?_
      refine XR.iincN d_S_freePlaces_22 rfl (xle rfl) rfl ?_
      refine XR.goto d_S_freePlaces_25 (tgt := 4) (by decide) ?_
      exact ih (i + 1) _ (by omega) (by clear ih; simp_all [xcn, bz_z])
  refine XR.iconst d_S_freePlaces_0 (v := nI 0) (by decide) ?_
  refine XR.istore_n d_S_freePlaces_1 (xle rfl) rfl ?_
  refine XR.iconst d_S_freePlaces_2 (v := nI 0) (by decide) ?_
  refine XR.istore_n d_S_freePlaces_3 (xle rfl) rfl ?_
  exact loop 192 0 0 rfl rfl
theorem c_S_retiredPlaces : XC E i_S_retiredPlaces 3 0 0 [.ref (xB E + 7)] (xm σ) (xok (some (.int (192 - σ 7 6 - nI (xcn (sFr σ) 192)))) (xm σ)) := by
  refine XC.ofF (by decide +kernel) cd_S_retiredPlaces rfl (xle rfl) ?_
  refine XR.sipush d_S_retiredPlaces_0 (v := 192) (by decide) ?_
  refine XR.aload_n d_S_retiredPlaces_3 rfl ?_
  refine XR.getint d_S_retiredPlaces_4 (xle rfl) rfl rfl uin_S (fk := 6) (xle rfl) f_S_40 rfl ?_
  refine XR.isub d_S_retiredPlaces_7 ?_
  refine XR.aload_n d_S_retiredPlaces_8 rfl ?_
  refine XR.cV d_S_retiredPlaces_9 l_S_47 kv_S_freePlaces (c_S_freePlaces) rfl (xle rfl) rfl rfl (xle rfl) (xle rfl) ?_
  refine XR.isub d_S_retiredPlaces_12 ?_
  refine XR.xreturn d_S_retiredPlaces_13 rfl ?_
  exact ⟨rfl, rfl⟩
theorem c_S_ownedBy : XC E i_S_ownedBy 1 0 0 [.ref (xB E + 7), .int b] (xm σ) (xok (some (.int (nI (sOwn σ b)))) (xm σ)) := by
  refine XC.ofF (by decide +kernel) cd_S_ownedBy rfl (xle rfl) ?_
  have loop : ∀ (f i k : Nat), i + f = 192 → k = xcn (fun p => σ 9 p == b) i → XR E i_S_ownedBy 1 0 0 (xok (some (.int (nI (sOwn σ b)))) (xm σ)) 4 [.ref (xB E + 7), .int b, .int (nI k), .int (nI i)] [] (xm σ) := by
    intro f
    induction f with
    | zero =>
      intro i k hi hk
      have : i = 192 := by omega
      subst this; subst hk
      refine XR.iload_n d_S_ownedBy_4 rfl ?_
      refine XR.sipush d_S_ownedBy_5 (v := 192) (by decide) ?_
      refine XR.icmp_ge d_S_ownedBy_8 (tgt := 30) (by decide) (fun _ => ?_) (fun h => absurd (by decide) h)
      refine XR.iload_n d_S_ownedBy_30 rfl ?_
      refine XR.xreturn d_S_ownedBy_31 rfl ?_
      exact ⟨rfl, rfl⟩
    | succ f ih =>
      intro i k hi hk
      refine XR.iload_n d_S_ownedBy_4 rfl ?_
      refine XR.sipush d_S_ownedBy_5 (v := 192) (by decide) ?_
      refine XR.icmp_ge d_S_ownedBy_8 (tgt := 30) (by decide) (fun h => absurd h (nn_le (n := 192) (by omega) (by decide))) (fun _ => ?_)
      refine XR.aload_n d_S_ownedBy_11 rfl ?_
      refine XR.getref d_S_ownedBy_12 (xle rfl) rfl rfl uin_S (fk := 1) (xle rfl) f_S_15 rfl (xle rfl) ?_
      refine XR.iload_n d_S_ownedBy_15 rfl ?_
      refine XR.ialoadN d_S_ownedBy_16 (xle rfl) (fun _ => rfl) (by omega) (xle rfl) ?_
      refine XR.iload_n d_S_ownedBy_17 rfl ?_
      refine XR.icmp_ne d_S_ownedBy_18 (tgt := 24) (by decide) (fun h18 => ?_) (fun h18 => ?_)
      · refine XR.iincN d_S_ownedBy_24 rfl (xle rfl) rfl ?_
        refine XR.goto d_S_ownedBy_27 (tgt := 4) (by decide) ?_
        exact ih (i + 1) _ (by omega) (by clear ih; simp_all [xcn])
      refine XR.iincN d_S_ownedBy_21 rfl (xle rfl) rfl ?_
      refine XR.iincN d_S_ownedBy_24 rfl (xle rfl) rfl ?_
      refine XR.goto d_S_ownedBy_27 (tgt := 4) (by decide) ?_
      exact ih (i + 1) _ (by omega) (by clear ih; simp_all [xcn])
  refine XR.iconst d_S_ownedBy_0 (v := nI 0) (by decide) ?_
  refine XR.istore_n d_S_ownedBy_1 (xle rfl) rfl ?_
  refine XR.iconst d_S_ownedBy_2 (v := nI 0) (by decide) ?_
  refine XR.istore_n d_S_ownedBy_3 (xle rfl) rfl ?_
  exact loop 192 0 0 rfl rfl
theorem c_S_leastFree : XC E i_S_leastFree 2 0 0 [.ref (xB E + 7), .int n] (xm σ) (xok (some (.int (sLf σ n))) (xm σ)) := by
  refine XC.ofF (by decide +kernel) cd_S_leastFree rfl (xle rfl) ?_
  have loop : ∀ (f i : Nat) (k : Int32), i + f = 192 → XR E i_S_leastFree 2 0 0 (xok (some (.int (sLfF σ n f i k))) (xm σ)) 4 [.ref (xB E + 7), .int n, .int k, .int (nI i)] [] (xm σ) := by
    intro f
    induction f with
    | zero =>
      intro i k hi
      have : i = 192 := by omega
      subst this
      refine XR.iload_n d_S_leastFree_4 rfl ?_
      refine XR.sipush d_S_leastFree_5 (v := 192) (by decide) ?_
      refine XR.icmp_ge d_S_leastFree_8 (tgt := 44) (by decide) (fun _ => ?_) (fun h => absurd (by decide) h)
      refine XR.iconst d_S_leastFree_44 (v := -1) (by decide) ?_
      refine XR.xreturn d_S_leastFree_45 rfl ?_
      exact ⟨rfl, rfl⟩
    | succ f ih =>
      intro i k hi
      have ei : xn (nI i) = i := nI_clamp (by omega)
      have q1 : sFr σ i = false → ¬ (0 : Int32) = n → sLfF σ n (f + 1) i k = sLfF σ n f (i + 1) 0 := fun a b => by simp [sLfF, a, b]
      have q2 : sFr σ i = true → ¬ k + 1 = n → sLfF σ n (f + 1) i k = sLfF σ n f (i + 1) (k + 1) := fun a b => by simp [sLfF, a, b]
      have q3 : sFr σ i = false → (0 : Int32) = n → sLfF σ n (f + 1) i k = nI i - n + 1 := fun a b => by simp [sLfF, a, b]
      have q4 : sFr σ i = true → k + 1 = n → sLfF σ n (f + 1) i k = nI i - n + 1 := fun a b => by simp [sLfF, a, b]
      have z1 : bz (sFr σ (xn (nI i))) = 0 → sFr σ i = false := fun h => by rw [ei, bz_z] at h; exact h
      have z2 : ¬ bz (sFr σ (xn (nI i))) = 0 → sFr σ i = true := fun h => by rw [ei, bz_z] at h; simpa using h
      refine XR.iload_n d_S_leastFree_4 rfl ?_
      refine XR.sipush d_S_leastFree_5 (v := 192) (by decide) ?_
      refine XR.icmp_ge d_S_leastFree_8 (tgt := 44) (by decide) (fun h => absurd h (nn_le (n := 192) (by omega) (by decide))) (fun _ => ?_)
      refine XR.aload_n d_S_leastFree_11 rfl ?_
      refine XR.iload_n d_S_leastFree_12 rfl ?_
      refine XR.cV d_S_leastFree_13 l_S_44 kv_S_isFree (c_S_isFree (vp_in_nI (by omega) (by decide))) rfl (xle rfl) rfl rfl (xle rfl) (xle rfl) ?_
      refine XR.if_eq d_S_leastFree_16 (tgt := 25) (by decide) (fun h16 => ?_) (fun h16 => ?_)
      · refine XR.iconst d_S_leastFree_25 (v := 0) (by decide) ?_
        refine XR.istore_n d_S_leastFree_26 (xle rfl) rfl ?_
        refine XR.iload_n d_S_leastFree_27 rfl ?_
        refine XR.iload_n d_S_leastFree_28 rfl ?_
        refine XR.icmp_ne d_S_leastFree_29 (tgt := 38) (by decide) (fun h29 => ?_) (fun h29 => ?_)
        · refine XR.iincN d_S_leastFree_38 rfl (xle rfl) rfl ?_
          refine XR.goto d_S_leastFree_41 (tgt := 4) (by decide) ?_
          first | (rw [q1 (z1 h16) h29]; exact ih (i + 1) _ (by omega)) | (rw [q2 (z2 h16) h29]; exact ih (i + 1) _ (by omega))
        refine XR.iload_n d_S_leastFree_32 rfl ?_
        refine XR.iload_n d_S_leastFree_33 rfl ?_
        refine XR.isub d_S_leastFree_34 ?_
        refine XR.iconst d_S_leastFree_35 (v := 1) (by decide) ?_
        refine XR.iadd d_S_leastFree_36 ?_
        refine XR.xreturn d_S_leastFree_37 rfl ?_
        first | exact ⟨by rw [q3 (z1 h16) h29], rfl⟩ | exact ⟨by rw [q4 (z2 h16) h29], rfl⟩
      refine XR.iload_n d_S_leastFree_19 rfl ?_
      refine XR.iconst d_S_leastFree_20 (v := 1) (by decide) ?_
      refine XR.iadd d_S_leastFree_21 ?_
      refine XR.goto d_S_leastFree_22 (tgt := 26) (by decide) ?_
      refine XR.istore_n d_S_leastFree_26 (xle rfl) rfl ?_
      refine XR.iload_n d_S_leastFree_27 rfl ?_
      refine XR.iload_n d_S_leastFree_28 rfl ?_
      refine XR.icmp_ne d_S_leastFree_29 (tgt := 38) (by decide) (fun h29 => ?_) (fun h29 => ?_)
      · refine XR.iincN d_S_leastFree_38 rfl (xle rfl) rfl ?_
        refine XR.goto d_S_leastFree_41 (tgt := 4) (by decide) ?_
        first | (rw [q1 (z1 h16) h29]; exact ih (i + 1) _ (by omega)) | (rw [q2 (z2 h16) h29]; exact ih (i + 1) _ (by omega))
      refine XR.iload_n d_S_leastFree_32 rfl ?_
      refine XR.iload_n d_S_leastFree_33 rfl ?_
      refine XR.isub d_S_leastFree_34 ?_
      refine XR.iconst d_S_leastFree_35 (v := 1) (by decide) ?_
      refine XR.iadd d_S_leastFree_36 ?_
      refine XR.xreturn d_S_leastFree_37 rfl ?_
      first | exact ⟨by rw [q3 (z1 h16) h29], rfl⟩ | exact ⟨by rw [q4 (z2 h16) h29], rfl⟩
  refine XR.iconst d_S_leastFree_0 (v := 0) (by decide) ?_
  refine XR.istore_n d_S_leastFree_1 (xle rfl) rfl ?_
  refine XR.iconst d_S_leastFree_2 (v := nI 0) (by decide) ?_
  refine XR.istore_n d_S_leastFree_3 (xle rfl) rfl ?_
  exact loop 192 0 0 rfl
theorem c_S_placeOfOwned {m : Nat} {k : Int32} (ho : oOK σ m) : XC E i_S_placeOfOwned 1 0 0 [.ref (xB E + 7), .int b, .int k] (xm σ) (xok (some (.int (sPl σ m b k))) (xm σ)) := by
  refine XC.ofF (by decide +kernel) cd_S_placeOfOwned rfl (xle rfl) ?_
  obtain ⟨h1, h2, h3⟩ := ho
  have loop : ∀ (f i : Nat) (j : Int32), i + f = m → XR E i_S_placeOfOwned 1 0 0 (xok (some (.int (sPlF σ b k f i j))) (xm σ)) 5 [.ref (xB E + 7), .int b, .int k, .int j, .int (nI i)] [] (xm σ) := by
    intro f
    induction f with
    | zero =>
      intro i j hi
      have : i = m := by omega
      subst this
      refine XR.iload d_S_placeOfOwned_5 rfl ?_
      refine XR.aload_n d_S_placeOfOwned_7 rfl ?_
      refine XR.getint d_S_placeOfOwned_8 (xle rfl) rfl rfl uin_S (fk := 6) (xle rfl) f_S_40 rfl ?_
      refine XR.icmp_ge d_S_placeOfOwned_11 (tgt := 52) (by decide) (fun _ => ?_) (fun h => absurd (by show σ 7 6 ≤ nI i; rw [h1]; exact Int32.le_refl _) h)
      refine XR.iconst d_S_placeOfOwned_52 (v := -1) (by decide) ?_
      refine XR.xreturn d_S_placeOfOwned_53 rfl ?_
      exact ⟨rfl, rfl⟩
    | succ f ih =>
      intro i j hi
      have h4 := h3 i (by omega)
      have q1 : ¬ σ 9 (xn (σ 12 i)) = b → sPlF σ b k (f + 1) i j = sPlF σ b k f (i + 1) j := fun a => by simp only [sPlF, if_neg a]
      have q2 : σ 9 (xn (σ 12 i)) = b → ¬ j = k → sPlF σ b k (f + 1) i j = sPlF σ b k f (i + 1) (j + 1) := fun a c => by simp only [sPlF, if_pos a, if_neg c]
      have q3 : σ 9 (xn (σ 12 i)) = b → j = k → sPlF σ b k (f + 1) i j = σ 12 i := fun a c => by simp only [sPlF, if_pos a, if_pos c]
      refine XR.iload d_S_placeOfOwned_5 rfl ?_
      refine XR.aload_n d_S_placeOfOwned_7 rfl ?_
      refine XR.getint d_S_placeOfOwned_8 (xle rfl) rfl rfl uin_S (fk := 6) (xle rfl) f_S_40 rfl ?_
      refine XR.icmp_ge d_S_placeOfOwned_11 (tgt := 52) (by decide) (fun h => absurd h (by show ¬ σ 7 6 ≤ nI i; rw [h1]; exact nI_ge (by omega) (by omega))) (fun _ => ?_)
      refine XR.aload_n d_S_placeOfOwned_14 rfl ?_
      refine XR.getref d_S_placeOfOwned_15 (xle rfl) rfl rfl uin_S (fk := 1) (xle rfl) f_S_15 rfl (xle rfl) ?_
      refine XR.aload_n d_S_placeOfOwned_18 rfl ?_
      refine XR.getref d_S_placeOfOwned_19 (xle rfl) rfl rfl uin_S (fk := 4) (xle rfl) f_S_24 rfl (xle rfl) ?_
      refine XR.iload d_S_placeOfOwned_22 rfl ?_
      refine XR.ialoadN d_S_placeOfOwned_24 (xle rfl) (fun _ => rfl) (by omega) (xle rfl) ?_
      refine XR.iaload d_S_placeOfOwned_25 (xle rfl) (fun _ => rfl) h4 ?_
      refine XR.iload_n d_S_placeOfOwned_26 rfl ?_
      refine XR.icmp_ne d_S_placeOfOwned_27 (tgt := 46) (by decide) (fun h27 => ?_) (fun h27 => ?_)
      · refine XR.iincN d_S_placeOfOwned_46 rfl (xle rfl) rfl ?_
        refine XR.goto d_S_placeOfOwned_49 (tgt := 5) (by decide) ?_
        first | (rw [q1 h27]; exact ih (i + 1) _ (by omega)) | (rw [q2 h27 h32]; exact ih (i + 1) _ (by omega))
      refine XR.iload_n d_S_placeOfOwned_30 rfl ?_
      refine XR.iload_n d_S_placeOfOwned_31 rfl ?_
      refine XR.icmp_ne d_S_placeOfOwned_32 (tgt := 43) (by decide) (fun h32 => ?_) (fun h32 => ?_)
      · refine XR.iinc1 d_S_placeOfOwned_43 rfl (xle rfl) rfl ?_
        refine XR.iincN d_S_placeOfOwned_46 rfl (xle rfl) rfl ?_
        refine XR.goto d_S_placeOfOwned_49 (tgt := 5) (by decide) ?_
        first | (rw [q1 h27]; exact ih (i + 1) _ (by omega)) | (rw [q2 h27 h32]; exact ih (i + 1) _ (by omega))
      refine XR.aload_n d_S_placeOfOwned_35 rfl ?_
      refine XR.getref d_S_placeOfOwned_36 (xle rfl) rfl rfl uin_S (fk := 4) (xle rfl) f_S_24 rfl (xle rfl) ?_
      refine XR.iload d_S_placeOfOwned_39 rfl ?_
      refine XR.ialoadN d_S_placeOfOwned_41 (xle rfl) (fun _ => rfl) (by omega) (xle rfl) ?_
      refine XR.xreturn d_S_placeOfOwned_42 rfl ?_
      exact ⟨by rw [q3 h27 h32], rfl⟩
  refine XR.iconst d_S_placeOfOwned_0 (v := 0) (by decide) ?_
  refine XR.istore_n d_S_placeOfOwned_1 (xle rfl) rfl ?_
  refine XR.iconst d_S_placeOfOwned_2 (v := nI 0) (by decide) ?_
  refine XR.istore d_S_placeOfOwned_3 (xle rfl) rfl ?_
  exact loop m 0 0 (by omega)
theorem c_S_isListedWrongly (hx : vp_in x 192) : XC E i_S_isListedWrongly 2 0 0 [.ref (xB E + 7), .int x] (xm σ) (xok (some (.int (bz (!(σ 13 (xn x) == bz (sTk σ (xn x))))))) (xm σ)) := by
  refine XC.ofF (by decide +kernel) cd_S_isListedWrongly rfl (xle rfl) ?_
  refine XR.aload_n d_S_isListedWrongly_0 rfl ?_
  refine XR.getref d_S_isListedWrongly_1 (xle rfl) rfl rfl uin_S (fk := 5) (xle rfl) f_S_27 rfl (xle rfl) ?_
  refine XR.iload_n d_S_isListedWrongly_4 rfl ?_
  refine XR.iaload d_S_isListedWrongly_5 (xle rfl) (fun _ => rfl) hx ?_
  refine XR.aload_n d_S_isListedWrongly_6 rfl ?_
  refine XR.iload_n d_S_isListedWrongly_7 rfl ?_
  refine XR.cV d_S_isListedWrongly_8 l_S_36 kv_S_isTaken (c_S_isTaken hx) rfl (xle rfl) rfl rfl (xle rfl) (xle rfl) ?_
  refine XR.if_eq d_S_isListedWrongly_11 (tgt := 18) (by decide) (fun h11 => ?_) (fun h11 => ?_)
  · refine XR.iconst d_S_isListedWrongly_18 (v := 0) (by decide) ?_
    refine XR.icmp_eq d_S_isListedWrongly_19 (tgt := 26) (by decide) (fun h19 => ?_) (fun h19 => ?_)
    · refine XR.iconst d_S_isListedWrongly_26 (v := 0) (by decide) ?_
      refine XR.zret0 d_S_isListedWrongly_27 rfl ?_
      exact xok_0 (by simp_all [bz])
    refine XR.iconst d_S_isListedWrongly_22 (v := 1) (by decide) ?_
    refine XR.goto d_S_isListedWrongly_23 (tgt := 27) (by decide) ?_
    refine XR.zret1 d_S_isListedWrongly_27 rfl ?_
    exact xok_1 (by simp_all [bz])
  refine XR.iconst d_S_isListedWrongly_14 (v := 1) (by decide) ?_
  refine XR.goto d_S_isListedWrongly_15 (tgt := 19) (by decide) ?_
  refine XR.icmp_eq d_S_isListedWrongly_19 (tgt := 26) (by decide) (fun h19 => ?_) (fun h19 => ?_)
  · refine XR.iconst d_S_isListedWrongly_26 (v := 0) (by decide) ?_
    refine XR.zret0 d_S_isListedWrongly_27 rfl ?_
    exact xok_0 (by simp_all [bz])
  refine XR.iconst d_S_isListedWrongly_22 (v := 1) (by decide) ?_
  refine XR.goto d_S_isListedWrongly_23 (tgt := 27) (by decide) ?_
  refine XR.zret1 d_S_isListedWrongly_27 rfl ?_
  exact xok_1 (by simp_all [bz])
end XStore
