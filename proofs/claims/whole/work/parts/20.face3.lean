/-! the class's face, the rest -/
def cMove (σ : xS) (m : Nat) (x y : Int32) : xO × xS :=
  if bAl σ x = false then (.inr eN, σ) else if bz (bStrong x) = 0 then (.inr eA, σ) else if tBk σ y = false then (.inr eI, σ) else if ¬ σ 2 (xn y) = 0 then (.inr eS, σ)
  else if tRf (tAu σ (σ 9 (xn (bPl x))) (-1)) y 1 = -1 then
    (rI (σ 9 (xn (bPl x))), sGive (sGap (xu (tAu (tAu σ (σ 9 (xn (bPl x))) (-1)) y 1) 9 (xn (bPl x)) (-1)) m) (bPl x) y)
  else (.inr eU, xu (tAu (tAu σ (σ 9 (xn (bPl x))) (-1)) (σ 9 (xn (bPl x))) 1) 0 2 (tRf (tAu σ (σ 9 (xn (bPl x))) (-1)) y 1))
def cBuy (σ : xS) (x : Int32) : xO × xS := if tBk σ x = false then (.inr eI, σ) else if ¬ σ 2 (xn x) = 0 then (.inr eS, σ) else bNb σ x (nI 1)
def cBuyRun (σ : xS) (x y : Int32) : xO × xS :=
  if tBk σ x = false then (.inr eI, σ) else if y < 1 then (.inr eA, σ) else if 16 < y then (.inr eA, σ) else if ¬ σ 2 (xn x) = 0 then (.inr eS, σ) else bNb σ x y
abbrev cWorkS (σ : xS) (m : Nat) (x : Int32) : xS := tCl (sGap (bWoF 192 0 x σ) m)
def cWork (σ : xS) (m : Nat) (x : Int32) : xO × xS := if bz (bUp x) = 0 then (.inr eA, σ) else (rI (nI (bDp (cWorkS σ m x))), cWorkS σ m x)
def cTold (σ : xS) (x y : Int32) : xO × xS :=
  if tBk σ x = false then (.inr eI, σ) else if y.toInt < 0 ∨ 7 < y.toInt then (.inr eA, σ)
  else (rI (if y.toInt = 0 then σ 6 (xn x) else if y.toInt = 1 then nI (sOwn σ x) else if y.toInt = 2 then σ 5 (xn x) else if y.toInt = 3 then σ 4 (xn x) else if y.toInt = 4 then σ 3 (xn x) else if y.toInt = 5 then nI (tDep σ x) else if y.toInt = 6 then σ 2 (xn x) else nI (tSz σ x)), σ)
def cCount (σ : xS) (y : Int32) : Int32 :=
  if y.toInt = 0 then nI (xcn (sFr σ) 192) else if y.toInt = 1 then 192 - σ 7 6 - nI (xcn (sFr σ) 192) else if y.toInt = 2 then σ 7 6 else if y.toInt = 3 then nI (tSz σ 0) else -1
theorem bNb_int (σ : xS) (x n : Int32) (v : Option Value) (h : (bNb σ x n).1 = .inl v) : ∃ k, v = some (.int k) := by
  unfold bNb at h
  split at h
  · cases h
  · split at h
    · cases h
    · cases h; exact ⟨_, rfl⟩
theorem bWoF_other {q : Nat} (h6 : q ≠ 6) (h9 : q ≠ 9) : ∀ (f i : Nat) (l : Int32) (σ : xS), bWoF f i l σ q = σ q
  | 0, _, _, _ => rfl
  | f + 1, i, l, σ => by
    simp only [bWoF]
    split
    · rfl
    · split
      · rw [bWoF_other h6 h9 f _ _ _, xu_other h9, tAu_other h6]
      · rw [bWoF_other h6 h9 f _ _ _]
theorem xnI {n : Nat} (h : n < 2 ^ 31) : xn (nI n) = n := nI_clamp h
section XFace3
variable {E : xE} {σ : xS} {x y v n : Int32}
theorem c_B_move {m : Nat} (hp : pOK σ) (hw : wOK σ) (ho : oOK σ m) (hg : ∀ τ : xS, τ 7 = σ 7 → τ 12 = σ 12 → (∀ p, ¬ p = xn (bPl x) → τ 9 p = σ 9 p) → τ 9 (xn (bPl x)) = -1 → ¬ bAl σ x = false → vp_in (sGap τ m 7 6) 192) :
    XC E i_B_move 8 0 0 [.ref (xB E + 0), .int x, .int y] (xm σ) (xfn (cMove σ m x y)) := by
  refine XC.ofF (by decide +kernel) cd_B_move rfl (xle rfl) ?_
  have q : ¬ bAl σ x = false → vp_in (bPl x) 192 := fun h => (bAl_in (by simpa using h)).1
  have hw1 : ¬ bAl σ x = false → σ 9 (xn (bPl x)) = -1 ∨ vp_in (σ 9 (xn (bPl x))) 40 := fun h => hw _ (vp_in_xn (q h))
  have hp1 : pOK (tAu σ (σ 9 (xn (bPl x))) (-1)) := hp.of (tAu_other (by decide))
  have ho1 : oOK (xu (tAu (tAu σ (σ 9 (xn (bPl x))) (-1)) y 1) 9 (xn (bPl x)) (-1)) m := by
    refine ⟨?_, ho.2.1, fun i hi => ?_⟩
    · rw [xu_other (by decide), tAu_other (by decide), tAu_other (by decide)]; exact ho.1
    · rw [xu_other (by decide), tAu_other (by decide), tAu_other (by decide)]; exact ho.2.2 i hi
  have hg1 : ¬ bAl σ x = false → vp_in (sGap (xu (tAu (tAu σ (σ 9 (xn (bPl x))) (-1)) y 1) 9 (xn (bPl x)) (-1)) m 7 6) 192 := fun h => by
    refine hg _ ?_ ?_ (fun p hp => ?_) (xu_same _ _ _ _) h
    · rw [xu_other (by decide), tAu_other (by decide), tAu_other (by decide)]
    · rw [xu_other (by decide), tAu_other (by decide), tAu_other (by decide)]
    · rw [xu_at, if_neg hp, tAu_other (by decide), tAu_other (by decide)]
  refine XR.aload_n d_B_move_0 rfl ?_
  refine XR.iload_n d_B_move_1 rfl ?_
  refine XR.cVt (as := [_]) d_B_move_2 l_B_61 kv_B_requireAlive (c_B_requireAlive hw) rfl (xle rfl) rfl rfl (xle rfl) (xle rfl) rfl (fun h2 => ?_) (fun h2 => ?_)
  · exact ⟨by rw [cMove, if_pos h2], by rw [cMove, if_pos h2]⟩
  refine XR.iload_n d_B_move_5 rfl ?_
  refine XR.cS (as := [_]) d_B_move_6 l_B_64 ks_B_isStrong (c_B_isStrong) rfl (xle rfl) (xle rfl) ?_
  refine XR.cSt (as := [_]) d_B_move_9 l_B_35 ks_B_requireArgument (c_B_requireArgument) rfl (xle rfl) (xle rfl) rfl (fun h9 => ?_) (fun h9 => ?_)
  · exact ⟨by rw [cMove, if_neg h2, if_pos h9], by rw [cMove, if_neg h2, if_pos h9]⟩
  refine XR.aload_n d_B_move_12 rfl ?_
  refine XR.iload_n d_B_move_13 rfl ?_
  refine XR.cVt (as := [_]) d_B_move_14 l_B_27 kv_B_requireBank (c_B_requireBank) rfl (xle rfl) rfl rfl (xle rfl) (xle rfl) rfl (fun h14 => ?_) (fun h14 => ?_)
  · exact ⟨by rw [cMove, if_neg h2, if_neg h9, if_pos h14], by rw [cMove, if_neg h2, if_neg h9, if_pos h14]⟩
  refine XR.aload_n d_B_move_17 rfl ?_
  refine XR.iload_n d_B_move_18 rfl ?_
  refine XR.cVt (as := [_]) d_B_move_19 l_B_39 kv_B_requireLive (c_B_requireLive (tBk_in h14)) rfl (xle rfl) rfl rfl (xle rfl) (xle rfl) rfl (fun h19 => ?_) (fun h19 => ?_)
  · exact ⟨by rw [cMove, if_neg h2, if_neg h9, if_neg h14, if_pos h19], by rw [cMove, if_neg h2, if_neg h9, if_neg h14, if_pos h19]⟩
  refine XR.iload_n d_B_move_22 rfl ?_
  refine XR.cS (as := [_]) d_B_move_23 l_B_67 ks_B_placeOf (c_B_placeOf) rfl (xle rfl) (xle rfl) ?_
  refine XR.istore_n d_B_move_26 (xle rfl) rfl ?_
  refine XR.aload_n d_B_move_27 rfl ?_
  refine XR.getref d_B_move_28 (xle rfl) rfl rfl uin_B (fk := 1) (xle rfl) f_B_19 rfl (xle rfl) ?_
  refine XR.iload_n d_B_move_31 rfl ?_
  refine XR.cV (as := [_]) d_B_move_32 l_B_74 kv_S_ownerOf (c_S_ownerOf (q h2)) rfl (xle rfl) rfl rfl (xle rfl) (xle rfl) ?_
  refine XR.istore d_B_move_35 (xle rfl) rfl ?_
  refine XR.aload_n d_B_move_37 rfl ?_
  refine XR.getref d_B_move_38 (xle rfl) rfl rfl uin_B (fk := 0) (xle rfl) f_B_10 rfl (xle rfl) ?_
  refine XR.iload d_B_move_41 rfl ?_
  refine XR.iconst d_B_move_43 (v := -1) (by decide) ?_
  refine XR.cV (as := [_, _]) d_B_move_44 l_B_89 kv_T_addUse (c_T_addUse hp (hw1 h2)) rfl (xle rfl) rfl rfl (xle rfl) (xle rfl) ?_
  refine XR.aload_n d_B_move_47 rfl ?_
  refine XR.getref d_B_move_48 (xle rfl) rfl rfl uin_B (fk := 0) (xle rfl) f_B_10 rfl (xle rfl) ?_
  refine XR.iload_n d_B_move_51 rfl ?_
  refine XR.iconst d_B_move_52 (v := 1) (by decide) ?_
  refine XR.cV (as := [_, _]) d_B_move_53 l_B_106 kv_T_refuserOf (c_T_refuserOf hp1 (Or.inr (tBk_in h14))) rfl (xle rfl) rfl rfl (xle rfl) (xle rfl) ?_
  refine XR.istore d_B_move_56 (xle rfl) rfl ?_
  refine XR.iload d_B_move_58 rfl ?_
  refine XR.iconst d_B_move_60 (v := -1) (by decide) ?_
  refine XR.icmp_eq d_B_move_61 (tgt := 80) (by decide) (fun h61 => ?_) (fun h61 => ?_)
  · refine XR.aload_n d_B_move_80 rfl ?_
    refine XR.getref d_B_move_81 (xle rfl) rfl rfl uin_B (fk := 0) (xle rfl) f_B_10 rfl (xle rfl) ?_
    refine XR.iload_n d_B_move_84 rfl ?_
    refine XR.iconst d_B_move_85 (v := 1) (by decide) ?_
    refine XR.cV (as := [_, _]) d_B_move_86 l_B_89 kv_T_addUse (c_T_addUse hp1 (Or.inr (tBk_in h14))) rfl (xle rfl) rfl rfl (xle rfl) (xle rfl) ?_
    refine XR.aload_n d_B_move_89 rfl ?_
    refine XR.getref d_B_move_90 (xle rfl) rfl rfl uin_B (fk := 1) (xle rfl) f_B_19 rfl (xle rfl) ?_
    refine XR.iload_n d_B_move_93 rfl ?_
    refine XR.cV (as := [_]) d_B_move_94 l_B_83 kv_S_vacate (c_S_vacate (q h2)) rfl (xle rfl) rfl rfl (xle rfl) (xle rfl) ?_
    refine XR.aload_n d_B_move_97 rfl ?_
    refine XR.getref d_B_move_98 (xle rfl) rfl rfl uin_B (fk := 1) (xle rfl) f_B_19 rfl (xle rfl) ?_
    refine XR.cV (as := []) d_B_move_101 l_B_86 kv_S_closeGaps (c_S_closeGaps ho1) rfl (xle rfl) rfl rfl (xle rfl) (xle rfl) ?_
    refine XR.aload_n d_B_move_104 rfl ?_
    refine XR.getref d_B_move_105 (xle rfl) rfl rfl uin_B (fk := 1) (xle rfl) f_B_19 rfl (xle rfl) ?_
    refine XR.iload_n d_B_move_108 rfl ?_
    refine XR.iload_n d_B_move_109 rfl ?_
    refine XR.cV (as := [_, _]) d_B_move_110 l_B_109 kv_S_give (c_S_give (q h2) (hg1 h2)) rfl (xle rfl) rfl rfl (xle rfl) (xle rfl) ?_
    refine XR.iload d_B_move_113 rfl ?_
    refine XR.xreturn d_B_move_115 rfl ?_
    exact ⟨by rw [cMove, if_neg h2, if_neg h9, if_neg h14, if_neg h19, if_pos h61], by rw [cMove, if_neg h2, if_neg h9, if_neg h14, if_neg h19, if_pos h61]⟩
  refine XR.aload_n d_B_move_64 rfl ?_
  refine XR.getref d_B_move_65 (xle rfl) rfl rfl uin_B (fk := 0) (xle rfl) f_B_10 rfl (xle rfl) ?_
  refine XR.iload d_B_move_68 rfl ?_
  refine XR.iconst d_B_move_70 (v := 1) (by decide) ?_
  refine XR.cV (as := [_, _]) d_B_move_71 l_B_89 kv_T_addUse (c_T_addUse hp1 (hw1 h2)) rfl (xle rfl) rfl rfl (xle rfl) (xle rfl) ?_
  refine XR.aload_n d_B_move_74 rfl ?_
  refine XR.iload d_B_move_75 rfl ?_
  refine XR.cVx (as := [_]) d_B_move_77 l_B_50 kv_B_refuse (c_B_refuse) rfl (xle rfl) rfl rfl (xle rfl) (xle rfl) rfl ?_
  exact ⟨by rw [cMove, if_neg h2, if_neg h9, if_neg h14, if_neg h19, if_neg h61], by rw [cMove, if_neg h2, if_neg h9, if_neg h14, if_neg h19, if_neg h61]⟩
theorem c_B_buyNeighbours {m l : Nat} (hp : pOK σ) (hx : vp_in x 40) (hn : n = nI m) (hm1 : 1 ≤ m) (hm : m ≤ 16) (hl : σ 7 6 = nI l) (hf : ¬ sLf σ n = -1 → ∃ a, sLf σ n = nI a ∧ a + m ≤ 192 ∧ l + m ≤ 192) :
    XC E i_B_buyNeighbours 8 0 0 [.ref (xB E + 0), .int x, .int n] (xm σ) (xfn (bNb σ x n)) := by
  refine XC.ofF (by decide +kernel) cd_B_buyNeighbours rfl (xle rfl) ?_
  have hp1 : pOK (xu σ 5 (xn x) (σ 5 (xn x) + -bTk σ x n)) := hp.of (xu_other (by decide))
  have hfill : ¬ sLf σ n = -1 → XC E i_S_fill 2 0 0 [.ref (xB E + 7), .int (sLf σ n), .int n, .int x] (xm (tAu (xu σ 5 (xn x) (σ 5 (xn x) + -bTk σ x n)) x (n - bTk σ x n))) (xok none (xm (bNbS σ x n))) := fun h => by
    obtain ⟨a, e1, e2, e3⟩ := hf h
    have e4 : bNbS σ x n = sFi (tAu (xu σ 5 (xn x) (σ 5 (xn x) + -bTk σ x n)) x (n - bTk σ x n)) a m x := by
      show sFi _ (xn (sLf σ n)) (xn n) x = _
      rw [e1, hn, xnI (n := a) (by omega), xnI (n := m) (by omega)]
    rw [e4, e1]
    have := c_S_fill (E := E) (σ := tAu (xu σ 5 (xn x) (σ 5 (xn x) + -bTk σ x n)) x (n - bTk σ x n)) (b := x) (a := a) (m := m) (l := l) e2 (by rw [tAu_other (by decide), xu_other (by decide)]; exact hl) e3
    rw [← hn] at this
    exact this
  have hkey : ¬ sLf σ n = -1 → vp_in (sLf σ n) 192 := fun h => by
    obtain ⟨a, e1, e2, e3⟩ := hf h
    rw [e1]
    exact vp_in_nI (by omega) (by decide)
  have cmin : XC E i_J_min 1 0 0 [.int n, .int (σ 5 (xn x))] (xm σ) (xok (some (.int (bTk σ x n))) (xm σ)) := c_J_min
  refine XR.iload_n d_B_buyNeighbours_0 rfl ?_
  refine XR.aload_n d_B_buyNeighbours_1 rfl ?_
  refine XR.getref d_B_buyNeighbours_2 (xle rfl) rfl rfl uin_B (fk := 0) (xle rfl) f_B_10 rfl (xle rfl) ?_
  refine XR.iload_n d_B_buyNeighbours_5 rfl ?_
  refine XR.cV (as := [_]) d_B_buyNeighbours_6 l_B_127 kv_T_reservedBy (c_T_reservedBy hx) rfl (xle rfl) rfl rfl (xle rfl) (xle rfl) ?_
  refine XR.cS (as := [_, _]) d_B_buyNeighbours_9 l_B_208 ks_J_min (cmin) rfl (xle rfl) (xle rfl) ?_
  refine XR.istore_n d_B_buyNeighbours_12 (xle rfl) rfl ?_
  refine XR.aload_n d_B_buyNeighbours_13 rfl ?_
  refine XR.iload_n d_B_buyNeighbours_14 rfl ?_
  refine XR.iload_n d_B_buyNeighbours_15 rfl ?_
  refine XR.iload_n d_B_buyNeighbours_16 rfl ?_
  refine XR.isub d_B_buyNeighbours_17 ?_
  refine XR.cVt (as := [_, _]) d_B_buyNeighbours_18 l_B_121 kv_B_requireUse (c_B_requireUse hp hx) rfl (xle rfl) rfl rfl (xle rfl) (xle rfl) rfl (fun h18 => ?_) (fun h18 => ?_)
  · exact ⟨by rw [bNb, if_pos h18], by rw [bNb, if_pos h18]⟩
  refine XR.aload_n d_B_buyNeighbours_21 rfl ?_
  refine XR.getref d_B_buyNeighbours_22 (xle rfl) rfl rfl uin_B (fk := 1) (xle rfl) f_B_19 rfl (xle rfl) ?_
  refine XR.iload_n d_B_buyNeighbours_25 rfl ?_
  refine XR.cV (as := [_]) d_B_buyNeighbours_26 l_B_213 kv_S_leastFree (c_S_leastFree) rfl (xle rfl) rfl rfl (xle rfl) (xle rfl) ?_
  refine XR.istore d_B_buyNeighbours_29 (xle rfl) rfl ?_
  refine XR.iload d_B_buyNeighbours_31 rfl ?_
  refine XR.iconst d_B_buyNeighbours_33 (v := -1) (by decide) ?_
  refine XR.icmp_ne d_B_buyNeighbours_34 (tgt := 42) (by decide) (fun h34 => ?_) (fun h34 => ?_)
  · refine XR.aload_n d_B_buyNeighbours_42 rfl ?_
    refine XR.getref d_B_buyNeighbours_43 (xle rfl) rfl rfl uin_B (fk := 0) (xle rfl) f_B_10 rfl (xle rfl) ?_
    refine XR.iload_n d_B_buyNeighbours_46 rfl ?_
    refine XR.iload_n d_B_buyNeighbours_47 rfl ?_
    refine XR.ineg d_B_buyNeighbours_48 ?_
    refine XR.cV (as := [_, _]) d_B_buyNeighbours_49 l_B_124 kv_T_addReserved (c_T_addReserved hx) rfl (xle rfl) rfl rfl (xle rfl) (xle rfl) ?_
    refine XR.aload_n d_B_buyNeighbours_52 rfl ?_
    refine XR.getref d_B_buyNeighbours_53 (xle rfl) rfl rfl uin_B (fk := 0) (xle rfl) f_B_10 rfl (xle rfl) ?_
    refine XR.iload_n d_B_buyNeighbours_56 rfl ?_
    refine XR.iload_n d_B_buyNeighbours_57 rfl ?_
    refine XR.iload_n d_B_buyNeighbours_58 rfl ?_
    refine XR.isub d_B_buyNeighbours_59 ?_
    refine XR.cV (as := [_, _]) d_B_buyNeighbours_60 l_B_89 kv_T_addUse (c_T_addUse hp1 (Or.inr hx)) rfl (xle rfl) rfl rfl (xle rfl) (xle rfl) ?_
    refine XR.aload_n d_B_buyNeighbours_63 rfl ?_
    refine XR.getref d_B_buyNeighbours_64 (xle rfl) rfl rfl uin_B (fk := 1) (xle rfl) f_B_19 rfl (xle rfl) ?_
    refine XR.iload d_B_buyNeighbours_67 rfl ?_
    refine XR.iload_n d_B_buyNeighbours_69 rfl ?_
    refine XR.iload_n d_B_buyNeighbours_70 rfl ?_
    refine XR.cV (as := [_, _, _]) d_B_buyNeighbours_71 l_B_216 kv_S_fill (hfill h34) rfl (xle rfl) rfl rfl (xle rfl) (xle rfl) ?_
    refine XR.aload_n d_B_buyNeighbours_74 rfl ?_
    refine XR.getref d_B_buyNeighbours_75 (xle rfl) rfl rfl uin_B (fk := 1) (xle rfl) f_B_19 rfl (xle rfl) ?_
    refine XR.iload d_B_buyNeighbours_78 rfl ?_
    refine XR.cV (as := [_]) d_B_buyNeighbours_80 l_B_80 kv_S_strongKey (c_S_strongKey (hkey h34)) rfl (xle rfl) rfl rfl (xle rfl) (xle rfl) ?_
    refine XR.xreturn d_B_buyNeighbours_83 rfl ?_
    exact ⟨by rw [bNb, if_neg h18, if_neg h34], by rw [bNb, if_neg h18, if_neg h34]⟩
  refine XR.aload_n d_B_buyNeighbours_37 rfl ?_
  refine XR.iconst d_B_buyNeighbours_38 (v := -1) (by decide) ?_
  refine XR.cVx (as := [_]) d_B_buyNeighbours_39 l_B_50 kv_B_refuse (c_B_refuse) rfl (xle rfl) rfl rfl (xle rfl) (xle rfl) rfl ?_
  exact ⟨by rw [bNb, if_neg h18, if_pos h34], by rw [bNb, if_neg h18, if_pos h34]⟩
theorem c_B_buy {l : Nat} (hp : pOK σ) (hl : σ 7 6 = nI l) (hf : ¬ sLf σ (nI 1) = -1 → ∃ a, sLf σ (nI 1) = nI a ∧ a + 1 ≤ 192 ∧ l + 1 ≤ 192) : XC E i_B_buy 9 0 0 [.ref (xB E + 0), .int x] (xm σ) (xfn (cBuy σ x)) := by
  refine XC.ofF (by decide +kernel) cd_B_buy rfl (xle rfl) ?_
  refine XR.aload_n d_B_buy_0 rfl ?_
  refine XR.iload_n d_B_buy_1 rfl ?_
  refine XR.cVt (as := [_]) d_B_buy_2 l_B_27 kv_B_requireBank (c_B_requireBank) rfl (xle rfl) rfl rfl (xle rfl) (xle rfl) rfl (fun h2 => ?_) (fun h2 => ?_)
  · exact ⟨by rw [cBuy, if_pos h2], by rw [cBuy, if_pos h2]⟩
  refine XR.aload_n d_B_buy_5 rfl ?_
  refine XR.iload_n d_B_buy_6 rfl ?_
  refine XR.cVt (as := [_]) d_B_buy_7 l_B_39 kv_B_requireLive (c_B_requireLive (tBk_in h2)) rfl (xle rfl) rfl rfl (xle rfl) (xle rfl) rfl (fun h7 => ?_) (fun h7 => ?_)
  · exact ⟨by rw [cBuy, if_neg h2, if_pos h7], by rw [cBuy, if_neg h2, if_pos h7]⟩
  refine XR.aload_n d_B_buy_10 rfl ?_
  refine XR.iload_n d_B_buy_11 rfl ?_
  refine XR.iconst d_B_buy_12 (v := nI 1) (by decide) ?_
  refine XR.cVf (as := [_, _]) d_B_buy_13 l_B_57 kv_B_buyNeighbours (c_B_buyNeighbours (m := 1) hp (tBk_in h2) rfl (by decide) (by decide) hl hf) rfl (xle rfl) rfl rfl (xle rfl) (xle rfl) rfl (fun X hX => ?_) (fun v hv => ?_)
  · exact ⟨by rw [cBuy, if_neg h2, if_neg h7, hX], by rw [cBuy, if_neg h2, if_neg h7]⟩
  obtain ⟨k, rfl⟩ := bNb_int _ _ _ _ hv
  refine XR.xreturn d_B_buy_16 rfl ?_
  exact ⟨by rw [cBuy, if_neg h2, if_neg h7, hv], by rw [cBuy, if_neg h2, if_neg h7]⟩
theorem c_B_buyRun {l : Nat} (hp : pOK σ) (hl : σ 7 6 = nI l) (hf : ∀ m : Nat, 1 ≤ m → m ≤ 16 → ¬ sLf σ (nI m) = -1 → ∃ a, sLf σ (nI m) = nI a ∧ a + m ≤ 192 ∧ l + m ≤ 192) : XC E i_B_buyRun 9 0 0 [.ref (xB E + 0), .int x, .int y] (xm σ) (xfn (cBuyRun σ x y)) := by
  refine XC.ofF (by decide +kernel) cd_B_buyRun rfl (xle rfl) ?_
  have hy : ¬ y < 1 → ¬ 16 < y → ∃ m : Nat, y = nI m ∧ 1 ≤ m ∧ m ≤ 16 := fun a b => by
    have h1 : (1 : Int32).toInt = 1 := by decide
    have h16 : (16 : Int32).toInt = 16 := by decide
    rw [Int32.lt_iff_toInt_lt] at a b
    refine ⟨y.toInt.toNat, ?_, by omega, by omega⟩
    rw [ti_eq, nI_toInt (by omega)]
    omega
  have hcall : ¬ tBk σ x = false → ¬ y < 1 → ¬ 16 < y → XC E i_B_buyNeighbours 8 0 0 [.ref (xB E + 0), .int x, .int y] (xm σ) (xfn (bNb σ x y)) := fun a b c => by
    obtain ⟨m, rfl, h1, h2⟩ := hy b c
    exact c_B_buyNeighbours (m := m) hp (tBk_in a) rfl h1 h2 hl (hf m h1 h2)
  refine XR.aload_n d_B_buyRun_0 rfl ?_
  refine XR.iload_n d_B_buyRun_1 rfl ?_
  refine XR.cVt (as := [_]) d_B_buyRun_2 l_B_27 kv_B_requireBank (c_B_requireBank) rfl (xle rfl) rfl rfl (xle rfl) (xle rfl) rfl (fun h2 => ?_) (fun h2 => ?_)
  · exact ⟨by rw [cBuyRun, if_pos h2], by rw [cBuyRun, if_pos h2]⟩
  refine XR.iload_n d_B_buyRun_5 rfl ?_
  refine XR.iconst d_B_buyRun_6 (v := 1) (by decide) ?_
  refine XR.icmp_lt d_B_buyRun_7 (tgt := 20) (by decide) (fun h7 => ?_) (fun h7 => ?_)
  · refine XR.iconst d_B_buyRun_20 (v := 0) (by decide) ?_
    refine XR.cSt (as := [_]) d_B_buyRun_21 l_B_35 ks_B_requireArgument (c_B_requireArgument) rfl (xle rfl) (xle rfl) rfl (fun h21 => ?_) (fun h21 => ?_)
    · exact ⟨by rw [cBuyRun, if_neg h2, if_pos h7], by rw [cBuyRun, if_neg h2, if_pos h7]⟩
    exact absurd rfl h21
  refine XR.iload_n d_B_buyRun_10 rfl ?_
  refine XR.bipush d_B_buyRun_11 (v := 16) (by decide) ?_
  refine XR.icmp_gt d_B_buyRun_13 (tgt := 20) (by decide) (fun h13 => ?_) (fun h13 => ?_)
  · refine XR.iconst d_B_buyRun_20 (v := 0) (by decide) ?_
    refine XR.cSt (as := [_]) d_B_buyRun_21 l_B_35 ks_B_requireArgument (c_B_requireArgument) rfl (xle rfl) (xle rfl) rfl (fun h21 => ?_) (fun h21 => ?_)
    · exact ⟨by rw [cBuyRun, if_neg h2, if_neg h7, if_pos h13], by rw [cBuyRun, if_neg h2, if_neg h7, if_pos h13]⟩
    exact absurd rfl h21
  refine XR.iconst d_B_buyRun_16 (v := 1) (by decide) ?_
  refine XR.goto d_B_buyRun_17 (tgt := 21) (by decide) ?_
  refine XR.cSt (as := [_]) d_B_buyRun_21 l_B_35 ks_B_requireArgument (c_B_requireArgument) rfl (xle rfl) (xle rfl) rfl (fun h21 => ?_) (fun h21 => ?_)
  · exact absurd h21 (by decide)
  refine XR.aload_n d_B_buyRun_24 rfl ?_
  refine XR.iload_n d_B_buyRun_25 rfl ?_
  refine XR.cVt (as := [_]) d_B_buyRun_26 l_B_39 kv_B_requireLive (c_B_requireLive (tBk_in h2)) rfl (xle rfl) rfl rfl (xle rfl) (xle rfl) rfl (fun h26 => ?_) (fun h26 => ?_)
  · exact ⟨by rw [cBuyRun, if_neg h2, if_neg h7, if_neg h13, if_pos h26], by rw [cBuyRun, if_neg h2, if_neg h7, if_neg h13, if_pos h26]⟩
  refine XR.aload_n d_B_buyRun_29 rfl ?_
  refine XR.iload_n d_B_buyRun_30 rfl ?_
  refine XR.iload_n d_B_buyRun_31 rfl ?_
  refine XR.cVf (as := [_, _]) d_B_buyRun_32 l_B_57 kv_B_buyNeighbours (hcall h2 h7 h13) rfl (xle rfl) rfl rfl (xle rfl) (xle rfl) rfl (fun X hX => ?_) (fun v hv => ?_)
  · exact ⟨by rw [cBuyRun, if_neg h2, if_neg h7, if_neg h13, if_neg h26, hX], by rw [cBuyRun, if_neg h2, if_neg h7, if_neg h13, if_neg h26]⟩
  obtain ⟨k, rfl⟩ := bNb_int _ _ _ _ hv
  refine XR.xreturn d_B_buyRun_35 rfl ?_
  exact ⟨by rw [cBuyRun, if_neg h2, if_neg h7, if_neg h13, if_neg h26, hv], by rw [cBuyRun, if_neg h2, if_neg h7, if_neg h13, if_neg h26]⟩
theorem c_B_work {m : Nat} (hp : pOK σ) (hw : wOK σ) (ho : oOK σ m) : XC E i_B_work 9 0 0 [.ref (xB E + 0), .int x] (xm σ) (xfn (cWork σ m x)) := by
  refine XC.ofF (by decide +kernel) cd_B_work rfl (xle rfl) ?_
  have fin : ∀ (τ : xS), ¬ bz (bUp x) = 0 → wOK τ → oOK τ m → τ = bWoF 192 0 x σ → ∀ (L : List Value), L[0]? = some (.ref (xB E + 0)) → XR E i_B_work 9 0 0 (xfn (cWork σ m x)) 63 L [] (xm τ) := by
    intro τ hb hw ho he L hL
    have hw2 : wOK (tCl (sGap τ m)) := fun p h => by rw [tCl_other (by decide), sGap_other (by decide) (by decide)]; exact hw p h
    refine XR.locals (L' := [.ref (xB E + 0)]) (fun i v h => ?_) ?_
    · match i, h with
      | 0, h => cases h; exact hL
      | i + 1, h => simp at h
    refine XR.aload_n d_B_work_63 rfl ?_
    refine XR.getref d_B_work_64 (xle rfl) rfl rfl uin_B (fk := 1) (xle rfl) f_B_19 rfl (xle rfl) ?_
    refine XR.cV (as := []) d_B_work_67 l_B_86 kv_S_closeGaps (c_S_closeGaps ho) rfl (xle rfl) rfl rfl (xle rfl) (xle rfl) ?_
    refine XR.aload_n d_B_work_70 rfl ?_
    refine XR.getref d_B_work_71 (xle rfl) rfl rfl uin_B (fk := 0) (xle rfl) f_B_10 rfl (xle rfl) ?_
    refine XR.cV (as := []) d_B_work_74 l_B_139 kv_T_closeEmptyDying (c_T_closeEmptyDying) rfl (xle rfl) rfl rfl (xle rfl) (xle rfl) ?_
    refine XR.aload_n d_B_work_77 rfl ?_
    refine XR.cV (as := []) d_B_work_78 l_B_142 kv_B_dyingPages (c_B_dyingPages hw2) rfl (xle rfl) rfl rfl (xle rfl) (xle rfl) ?_
    refine XR.xreturn d_B_work_81 rfl ?_
    exact ⟨by rw [cWork, if_neg hb, he], by rw [cWork, if_neg hb, he]⟩
  have loop : ¬ bz (bUp x) = 0 → ∀ (f i : Nat) (left : Int32) (τ : xS), i + f = 192 → bWoF f i left τ = bWoF 192 0 x σ → pOK τ → wOK τ → oOK τ m → XR E i_B_work 9 0 0 (xfn (cWork σ m x)) 11 [.ref (xB E + 0), .int x, .int left, .int (nI i)] [] (xm τ) := by
    intro hb f
    induction f with
    | zero =>
      intro i left τ hi he hp hw ho
      have : i = 192 := by omega
      subst this
      refine XR.iload_n d_B_work_11 rfl ?_
      refine XR.sipush d_B_work_12 (v := 192) (by decide) ?_
      refine XR.icmp_ge d_B_work_15 (tgt := 63) (by decide) (fun _ => ?_) (fun h => absurd (by decide) h)
      exact fin τ hb hw ho he _ rfl
    | succ f ih =>
      intro i left τ hi he hp hw ho
      have ei : xn (nI i) = i := nI_clamp (by omega)
      have hi1 : vp_in (nI i) 192 := vp_in_nI (by omega) (by decide)
      have q1 : left ≤ 0 → bWoF (f + 1) i left τ = τ := fun a => by simp only [bWoF, if_pos a]
      have q2 : ¬ left ≤ 0 → bDyP τ i = true → bWoF (f + 1) i left τ = bWoF f (i + 1) (left - 1) (xu (tAu τ (τ 9 i) (-1)) 9 i (-1)) := fun a b => by simp only [bWoF, if_neg a, if_pos b]
      have q3 : ¬ left ≤ 0 → ¬ bDyP τ i = true → bWoF (f + 1) i left τ = bWoF f (i + 1) left τ := fun a b => by simp only [bWoF, if_neg a, if_neg b]
      have z1 : bz (bDyP τ (xn (nI i))) = 0 → ¬ bDyP τ i = true := fun h => by rw [ei, bz_z] at h; simp [h]
      have z2 : ¬ bz (bDyP τ (xn (nI i))) = 0 → bDyP τ i = true := fun h => by rw [ei, bz_z] at h; simpa using h
      have ho' : τ 9 (xn (nI i)) = -1 ∨ vp_in (τ 9 (xn (nI i))) 40 := by rw [ei]; exact hw i (by omega)
      have hp2 : pOK (xu (tAu τ (τ 9 i) (-1)) 9 i (-1)) := hp.of (by rw [xu_other (by decide), tAu_other (by decide)])
      have hw2 : wOK (xu (tAu τ (τ 9 i) (-1)) 9 i (-1)) := fun p h => by
        rw [xu_at]
        split
        · exact Or.inl rfl
        · rw [tAu_other (by decide)]; exact hw p h
      have ho2 : oOK (xu (tAu τ (τ 9 i) (-1)) 9 i (-1)) m := by
        refine ⟨?_, ho.2.1, fun j hj => ?_⟩
        · rw [xu_other (by decide), tAu_other (by decide)]; exact ho.1
        · rw [xu_other (by decide), tAu_other (by decide)]; exact ho.2.2 j hj
      refine XR.iload_n d_B_work_11 rfl ?_
      refine XR.sipush d_B_work_12 (v := 192) (by decide) ?_
      refine XR.icmp_ge d_B_work_15 (tgt := 63) (by decide) (fun h => absurd h (nn_le (n := 192) (by omega) (by decide))) (fun _ => ?_)
      refine XR.iload_n d_B_work_18 rfl ?_
      refine XR.if_le d_B_work_19 (tgt := 63) (by decide) (fun h19 => ?_) (fun h19 => ?_)
      · exact fin τ hb hw ho (by rw [← he, q1 h19]) _ rfl
      refine XR.aload_n d_B_work_22 rfl ?_
      refine XR.iload_n d_B_work_23 rfl ?_
      refine XR.cV (as := [_]) d_B_work_24 l_B_145 kv_B_isDyingPage (c_B_isDyingPage hw hi1) rfl (xle rfl) rfl rfl (xle rfl) (xle rfl) ?_
      refine XR.if_eq d_B_work_27 (tgt := 57) (by decide) (fun h27 => ?_) (fun h27 => ?_)
      · refine XR.iincN d_B_work_57 rfl (xle rfl) rfl ?_
        refine XR.goto d_B_work_60 (tgt := 11) (by decide) ?_
        first | exact ih (i + 1) _ _ (by omega) (by rw [← he, q3 h19 (z1 h27)]) hp hw ho | exact ih (i + 1) _ _ (by omega) (by rw [← he, q2 h19 (z2 h27)]) hp2 hw2 ho2
      refine XR.aload_n d_B_work_30 rfl ?_
      refine XR.getref d_B_work_31 (xle rfl) rfl rfl uin_B (fk := 0) (xle rfl) f_B_10 rfl (xle rfl) ?_
      refine XR.aload_n d_B_work_34 rfl ?_
      refine XR.getref d_B_work_35 (xle rfl) rfl rfl uin_B (fk := 1) (xle rfl) f_B_19 rfl (xle rfl) ?_
      refine XR.iload_n d_B_work_38 rfl ?_
      refine XR.cV (as := [_]) d_B_work_39 l_B_74 kv_S_ownerOf (c_S_ownerOf hi1) rfl (xle rfl) rfl rfl (xle rfl) (xle rfl) ?_
      refine XR.iconst d_B_work_42 (v := -1) (by decide) ?_
      refine XR.cV (as := [_, _]) d_B_work_43 l_B_89 kv_T_addUse (c_T_addUse hp ho') rfl (xle rfl) rfl rfl (xle rfl) (xle rfl) ?_
      refine XR.aload_n d_B_work_46 rfl ?_
      refine XR.getref d_B_work_47 (xle rfl) rfl rfl uin_B (fk := 1) (xle rfl) f_B_19 rfl (xle rfl) ?_
      refine XR.iload_n d_B_work_50 rfl ?_
      refine XR.cV (as := [_]) d_B_work_51 l_B_83 kv_S_vacate (c_S_vacate hi1) rfl (xle rfl) rfl rfl (xle rfl) (xle rfl) ?_
      rw [ei]
      refine XR.iincm d_B_work_54 rfl (xle rfl) rfl ?_
      refine XR.iincN d_B_work_57 rfl (xle rfl) rfl ?_
      refine XR.goto d_B_work_60 (tgt := 11) (by decide) ?_
      first | exact ih (i + 1) _ _ (by omega) (by rw [← he, q3 h19 (z1 h27)]) hp hw ho | exact ih (i + 1) _ _ (by omega) (by rw [← he, q2 h19 (z2 h27)]) hp2 hw2 ho2
  refine XR.iload_n d_B_work_0 rfl ?_
  refine XR.cS (as := [_]) d_B_work_1 l_B_31 ks_B_isUpToAllPages (c_B_isUpToAllPages) rfl (xle rfl) (xle rfl) ?_
  refine XR.cSt (as := [_]) d_B_work_4 l_B_35 ks_B_requireArgument (c_B_requireArgument) rfl (xle rfl) (xle rfl) rfl (fun h4 => ?_) (fun h4 => ?_)
  · exact ⟨by rw [cWork, if_pos h4], by rw [cWork, if_pos h4]⟩
  refine XR.iload_n d_B_work_7 rfl ?_
  refine XR.istore_n d_B_work_8 (xle rfl) rfl ?_
  refine XR.iconst d_B_work_9 (v := nI 0) (by decide) ?_
  refine XR.istore_n d_B_work_10 (xle rfl) rfl ?_
  exact loop h4 192 0 x σ rfl rfl hp hw ho
end XFace3
