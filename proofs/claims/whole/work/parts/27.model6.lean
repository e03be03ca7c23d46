/-! the reference: handUp, count, bought -/
theorem rHuF_s (x p : Int32) : ∀ (f : Nat) (σ : xS), rHuF x p (f + 1) σ = rGive (rHuF x p f σ) (rPg (rHuF x p f σ) x 0) p
  | 0, _ => rfl
  | f + 1, σ => by
    have := rHuF_s x p f (rGive σ (rPg σ x 0) p)
    exact this
def rClr (σ : xS) (p k : Nat) : xS := xup σ 19 (fun j => if 4 * p ≤ j ∧ j < 4 * p + k then 0 else σ 19 j)
theorem rClr_0 (σ : xS) (p : Nat) : rClr σ p 0 = σ := by
  unfold rClr
  have : (fun j => if 4 * p ≤ j ∧ j < 4 * p + 0 then 0 else σ 19 j) = σ 19 := by
    funext j
    have : ¬ (4 * p ≤ j ∧ j < 4 * p + 0) := by omega
    simp only [this, if_false]
  rw [this, xup_id]
theorem rClr_s (σ : xS) (p k : Nat) : xu (rClr σ p k) 19 (4 * p + k) 0 = rClr σ p (k + 1) := by
  funext q j
  simp only [xu, rClr, xup]
  by_cases hq : q = 19
  · subst hq
    simp only [if_true]
    by_cases h1 : j = 4 * p + k
    · subst h1
      have : 4 * p ≤ 4 * p + k ∧ 4 * p + k < 4 * p + (k + 1) := by omega
      simp [this]
    · by_cases h2 : 4 * p ≤ j ∧ j < 4 * p + k
      · have h3 : 4 * p ≤ j ∧ j < 4 * p + (k + 1) := by omega
        simp [h1, h2, h3]
      · have h3 : ¬ (4 * p ≤ j ∧ j < 4 * p + (k + 1)) := by omega
        simp only [h1, h2, h3, if_false]
  · simp [hq]
def rFiF (b : Int32) : Nat → Nat → xS → xS
  | 0, _, σ => σ
  | f + 1, i, σ => rFiF b f (i + 1) (rClr (rGive (xu (xu σ 16 i (σ 16 i + 1)) 17 i (σ 14 6)) (nI i) b) i 4)
def rBtk (σ : xS) (x n : Int32) : Int32 := if n ≤ σ 24 (xn x) then n else σ 24 (xn x)
def rBoT (σ : xS) (x n : Int32) (m : Nat) : xS := rFiF x m (xn (rRo σ m)) (xu σ 24 (xn x) (σ 24 (xn x) - rBtk σ x n))
def rBoU (σ : xS) (x n c : Int32) : xS := xu (xu σ 14 13 (if n ≤ rBtk σ x n then -1 else rRf σ x (n - rBtk σ x n))) 14 0 (c + 1)
def rBo1 (σ : xS) (x n c : Int32) (m : Nat) : Int32 × xS :=
  if (¬ n ≤ rBtk σ x n ∧ 0 ≤ rRf σ x (n - rBtk σ x n)) ∨ ¬ 0 ≤ rRo σ m then (0, rBoU σ x n c)
  else (1024 * rBoT σ x n m 16 (xn (rRo σ m)) + 2 * rRo σ m, xu (rBoT σ x n m) 14 6 (rBoT σ x n m 14 6 + 1))
def rBo (σ : xS) (x n c : Int32) (m : Nat) : Int32 × xS := if bz (σ 23 (xn x) == 0) = 0 then (0, xu σ 14 0 c) else rBo1 (xu σ 14 0 0) x n c m
def rBuy (σ : xS) (x : Int32) : Int32 × xS := if bz (rBk σ x) = 0 then (0, xu σ 14 0 1) else rBo (xu σ 14 0 0) x (nI 1) 2 1
def rBuyRun (σ : xS) (x y : Int32) : Int32 × xS := if bz (rBk σ x) = 0 then (0, xu σ 14 0 1) else if bz (rIn y 1 16) = 0 then (0, xu σ 14 0 2) else rBo (xu σ 14 0 0) x y 3 (xn y)
theorem rRoF_in {σ : xS} {m : Nat} : ∀ (f : Nat) (g : Int32), f + m ≤ 193 → (g < 0 ∨ ∃ a, g = nI a ∧ a + m ≤ 192) → (rRoF σ m f g < 0 ∨ ∃ a, rRoF σ m f g = nI a ∧ a + m ≤ 192)
  | 0, _, _, h => h
  | f + 1, g, hf, h => by
    simp only [rRoF]
    refine rRoF_in f _ (by omega) ?_
    split
    · exact Or.inr ⟨f, rfl, by omega⟩
    · exact h
theorem rRo_in {σ : xS} {m : Nat} (hm : m ≤ 192) (h : 0 ≤ rRo σ m) : ∃ a, rRo σ m = nI a ∧ a + m ≤ 192 := by
  rcases rRoF_in (σ := σ) (m := m) (193 - m) (-1) (by omega) (Or.inl (by decide)) with h1 | h1
  · exact absurd h1 (Int32.not_lt.mpr h)
  · exact h1
theorem XR.top {E : xE} {mi : xMI} {d kc ks pc : Nat} {Post : xO → xWd → Prop} {L st : List Value} {w : xWd} {v v' : Int32} (h : v = v') (k : XR E mi d kc ks Post pc L (.int v' :: st) w) : XR E mi d kc ks Post pc L (.int v :: st) w := h ▸ k
section XModel6
variable {E : xE} {σ : xS} {x y v n c : Int32}
theorem c_M_handUp (hp : xu σ 14 0 (rWr σ x) 14 0 ≤ 0 → vp_in (σ 21 (xn x)) 40) (hpg : xu σ 14 0 (rWr σ x) 14 0 ≤ 0 → ∀ k, k < rOwn σ x → vp_in (rPg (rHuF x (σ 21 (xn x)) k (xu σ 14 0 (rWr σ x))) x 0) 192) : XC E i_M_handUp 4 0 0 [.ref (xB E + 14), .int x] (xm σ) (xrn (rHandUp σ x)) := by
  refine XC.ofF (by decide +kernel) cd_M_handUp rfl (xle rfl) ?_
  have hown : rOwn σ x ≤ 192 := xcn_le _ _
  have eown : rOwn (xu σ 14 0 (rWr σ x)) x = rOwn σ x := rfl
  obtain ⟨T2, hT2⟩ : ∃ T, T = rHpF x (σ 21 (xn x)) 40 0 (rHu2 σ x) := ⟨_, rfl⟩
  have pre : xu σ 14 0 (rWr σ x) 14 0 ≤ 0 → rHandUp σ x = (nI (rOwn σ x), xu T2 20 (xn x) 0) := fun h => by rw [rHandUp, if_pos h, rHuS, hT2]
  have loop2 : xu σ 14 0 (rWr σ x) 14 0 ≤ 0 → ∀ (f i : Nat) (τ : xS), i + f = 40 → rHpF x (σ 21 (xn x)) f i τ = T2 → XR E i_M_handUp 4 0 0 (xrn (rHandUp σ x)) 75 [.ref (xB E + 14), .int x, .int (σ 21 (xn x)), .int (nI (rOwn σ x)), .int (nI i)] [] (xm τ) := by
    intro h13 f
    have hx := rBk_in (rWr_in h13).1
    induction f with
    | zero =>
      intro i τ hi he
      have : i = 40 := by omega
      subst this
      have he' : τ = T2 := he
      subst he'
      refine XR.iload d_M_handUp_75 rfl ?_
      refine XR.bipush d_M_handUp_77 (v := 40) (by decide) ?_
      refine XR.icmp_ge d_M_handUp_79 (tgt := 127) (by decide) (fun _ => ?_) (fun h => absurd (by decide) h)
      refine XR.aload_n d_M_handUp_127 rfl ?_
      refine XR.getref d_M_handUp_128 (xle rfl) rfl rfl uin_M (fk := 8) (xle rfl) f_M_25 rfl (xle rfl) ?_
      refine XR.iload_n d_M_handUp_131 rfl ?_
      refine XR.iconst d_M_handUp_132 (v := 0) (by decide) ?_
      refine XR.bastore d_M_handUp_133 (xle rfl) (fun _ => rfl) hx rfl ?_
      refine XR.iload_n d_M_handUp_134 rfl ?_
      refine XR.xreturn d_M_handUp_135 rfl ?_
      exact ⟨by rw [pre h13], by rw [pre h13]⟩
    | succ f ih =>
      intro i τ hi he
      have q1 : τ 20 i = 0 → rHpF x (σ 21 (xn x)) (f + 1) i τ = rHpF x (σ 21 (xn x)) f (i + 1) (xu τ 21 i (τ 21 i)) := fun h => by simp only [rHpF, if_neg (fun q : ¬ τ 20 i = 0 ∧ τ 21 i = x => q.1 h)]
      have q2 : ¬ τ 21 i = x → rHpF x (σ 21 (xn x)) (f + 1) i τ = rHpF x (σ 21 (xn x)) f (i + 1) (xu τ 21 i (τ 21 i)) := fun h => by simp only [rHpF, if_neg (fun q : ¬ τ 20 i = 0 ∧ τ 21 i = x => h q.2)]
      have q3 : ¬ τ 20 i = 0 → τ 21 i = x → rHpF x (σ 21 (xn x)) (f + 1) i τ = rHpF x (σ 21 (xn x)) f (i + 1) (xu τ 21 i (σ 21 (xn x))) := fun a b => by simp only [rHpF, if_pos (And.intro a b)]
      refine XR.iload d_M_handUp_75 rfl ?_
      refine XR.bipush d_M_handUp_77 (v := 40) (by decide) ?_
      refine XR.icmp_ge d_M_handUp_79 (tgt := 127) (by decide) (fun h => absurd h (nn_le (n := 40) (by omega) (by decide))) (fun _ => ?_)
      refine XR.aload_n d_M_handUp_82 rfl ?_
      refine XR.getref d_M_handUp_83 (xle rfl) rfl rfl uin_M (fk := 9) (xle rfl) f_M_29 rfl (xle rfl) ?_
      refine XR.iload d_M_handUp_86 rfl ?_
      refine XR.aload_n d_M_handUp_88 rfl ?_
      refine XR.getref d_M_handUp_89 (xle rfl) rfl rfl uin_M (fk := 8) (xle rfl) f_M_25 rfl (xle rfl) ?_
      refine XR.iload d_M_handUp_92 rfl ?_
      refine XR.baloadN d_M_handUp_94 (xle rfl) (fun _ => rfl) (by omega) (xle rfl) ?_
      refine XR.if_eq d_M_handUp_95 (tgt := 113) (by decide) (fun h95 => ?_) (fun h95 => ?_)
      · refine XR.aload_n d_M_handUp_113 rfl ?_
        refine XR.getref d_M_handUp_114 (xle rfl) rfl rfl uin_M (fk := 9) (xle rfl) f_M_29 rfl (xle rfl) ?_
        refine XR.iload d_M_handUp_117 rfl ?_
        refine XR.ialoadN d_M_handUp_119 (xle rfl) (fun _ => rfl) (by omega) (xle rfl) ?_
        refine XR.iastoreN d_M_handUp_120 (xle rfl) (fun _ => rfl) (by omega) (xle rfl) ?_
        refine XR.iincN d_M_handUp_121 rfl (xle rfl) rfl ?_
        refine XR.goto d_M_handUp_124 (tgt := 75) (by decide) ?_
        first | exact ih (i + 1) _ (by omega) (by rw [← he, q1 h95]) | exact ih (i + 1) _ (by omega) (by rw [← he, q2 h106]) | exact ih (i + 1) _ (by omega) (by rw [← he, q3 h95 h106])
      refine XR.aload_n d_M_handUp_98 rfl ?_
      refine XR.getref d_M_handUp_99 (xle rfl) rfl rfl uin_M (fk := 9) (xle rfl) f_M_29 rfl (xle rfl) ?_
      refine XR.iload d_M_handUp_102 rfl ?_
      refine XR.ialoadN d_M_handUp_104 (xle rfl) (fun _ => rfl) (by omega) (xle rfl) ?_
      refine XR.iload_n d_M_handUp_105 rfl ?_
      refine XR.icmp_ne d_M_handUp_106 (tgt := 113) (by decide) (fun h106 => ?_) (fun h106 => ?_)
      · refine XR.aload_n d_M_handUp_113 rfl ?_
        refine XR.getref d_M_handUp_114 (xle rfl) rfl rfl uin_M (fk := 9) (xle rfl) f_M_29 rfl (xle rfl) ?_
        refine XR.iload d_M_handUp_117 rfl ?_
        refine XR.ialoadN d_M_handUp_119 (xle rfl) (fun _ => rfl) (by omega) (xle rfl) ?_
        refine XR.iastoreN d_M_handUp_120 (xle rfl) (fun _ => rfl) (by omega) (xle rfl) ?_
        refine XR.iincN d_M_handUp_121 rfl (xle rfl) rfl ?_
        refine XR.goto d_M_handUp_124 (tgt := 75) (by decide) ?_
        first | exact ih (i + 1) _ (by omega) (by rw [← he, q1 h95]) | exact ih (i + 1) _ (by omega) (by rw [← he, q2 h106]) | exact ih (i + 1) _ (by omega) (by rw [← he, q3 h95 h106])
      refine XR.iload_n d_M_handUp_109 rfl ?_
      refine XR.goto d_M_handUp_110 (tgt := 120) (by decide) ?_
      refine XR.iastoreN d_M_handUp_120 (xle rfl) (fun _ => rfl) (by omega) (xle rfl) ?_
      refine XR.iincN d_M_handUp_121 rfl (xle rfl) rfl ?_
      refine XR.goto d_M_handUp_124 (tgt := 75) (by decide) ?_
      first | exact ih (i + 1) _ (by omega) (by rw [← he, q1 h95]) | exact ih (i + 1) _ (by omega) (by rw [← he, q2 h106]) | exact ih (i + 1) _ (by omega) (by rw [← he, q3 h95 h106])
  have loop1 : xu σ 14 0 (rWr σ x) 14 0 ≤ 0 → ∀ (f k : Nat), k + f = rOwn σ x → XR E i_M_handUp 4 0 0 (xrn (rHandUp σ x)) 34 [.ref (xB E + 14), .int x, .int (σ 21 (xn x)), .int (nI (rOwn σ x)), .int (nI k)] [] (xm (rHuF x (σ 21 (xn x)) k (xu σ 14 0 (rWr σ x)))) := by
    intro h13 f
    have hx := rBk_in (rWr_in h13).1
    have hh := hp h13
    induction f with
    | zero =>
      intro k hk
      have : k = rOwn σ x := by omega
      subst this
      have e1 : rHuF x (σ 21 (xn x)) (rOwn σ x) (xu σ 14 0 (rWr σ x)) = rHu1 σ x := rfl
      rw [e1]
      refine XR.iload d_M_handUp_34 rfl ?_
      refine XR.iload_n d_M_handUp_36 rfl ?_
      refine XR.icmp_ge d_M_handUp_37 (tgt := 57) (by decide) (fun _ => ?_) (fun h => absurd (Int32.le_refl _) h)
      refine XR.aload_n d_M_handUp_57 rfl ?_
      refine XR.getref d_M_handUp_58 (xle rfl) rfl rfl uin_M (fk := 12) (xle rfl) f_M_38 rfl (xle rfl) ?_
      refine XR.iload_n d_M_handUp_61 rfl ?_
      refine XR.dup2 d_M_handUp_62 rfl rfl ?_
      refine XR.iaload d_M_handUp_63 (xle rfl) (fun _ => rfl) hh ?_
      refine XR.aload_n d_M_handUp_64 rfl ?_
      refine XR.getref d_M_handUp_65 (xle rfl) rfl rfl uin_M (fk := 12) (xle rfl) f_M_38 rfl (xle rfl) ?_
      refine XR.iload_n d_M_handUp_68 rfl ?_
      refine XR.iaload d_M_handUp_69 (xle rfl) (fun _ => rfl) hx ?_
      refine XR.iadd d_M_handUp_70 ?_
      refine XR.iastore d_M_handUp_71 (xle rfl) (fun _ => rfl) hh ?_
      refine XR.iconst d_M_handUp_72 (v := nI 0) (by decide) ?_
      refine XR.istore d_M_handUp_73 (xle rfl) rfl ?_
      exact loop2 h13 40 0 _ rfl hT2.symm
    | succ f ih =>
      intro k hk
      have hpk := hpg h13 k (by omega)
      have hs := rHuF_s x (σ 21 (xn x)) k (xu σ 14 0 (rWr σ x))
      refine XR.iload d_M_handUp_34 rfl ?_
      refine XR.iload_n d_M_handUp_36 rfl ?_
      refine XR.icmp_ge d_M_handUp_37 (tgt := 57) (by decide) (fun h => absurd h (nI_ge (by omega) (by omega))) (fun _ => ?_)
      refine XR.aload_n d_M_handUp_40 rfl ?_
      refine XR.aload_n d_M_handUp_41 rfl ?_
      refine XR.iload_n d_M_handUp_42 rfl ?_
      refine XR.iconst d_M_handUp_43 (v := 0) (by decide) ?_
      refine XR.cV (as := [_, _]) d_M_handUp_44 l_M_128 kv_M_placeOfPage (c_M_placeOfPage) rfl (xle rfl) rfl rfl (xle rfl) (xle rfl) ?_
      refine XR.iload_n d_M_handUp_47 rfl ?_
      refine XR.cV (as := [_, _]) d_M_handUp_48 l_M_92 kv_M_own (c_M_own hpk) rfl (xle rfl) rfl rfl (xle rfl) (xle rfl) ?_
      refine XR.iincN d_M_handUp_51 rfl (xle rfl) rfl ?_
      refine XR.goto d_M_handUp_54 (tgt := 34) (by decide) ?_
      rw [← hs]
      exact ih (k + 1) (by omega)
  refine XR.aload_n d_M_handUp_0 rfl ?_
  refine XR.aload_n d_M_handUp_1 rfl ?_
  refine XR.iload_n d_M_handUp_2 rfl ?_
  refine XR.cV (as := [_]) d_M_handUp_3 l_M_112 kv_M_wrong (c_M_wrong) rfl (xle rfl) rfl rfl (xle rfl) (xle rfl) ?_
  refine XR.putfield d_M_handUp_6 (xle rfl) (fun _ => rfl) rfl uin_M tyM_ok nmM (fk := 0) (xle rfl) f_M_45 rfl rfl (fun _ => rfl) (fun _ => xle rfl) ?_
  refine XR.aload_n d_M_handUp_9 rfl ?_
  refine XR.getint d_M_handUp_10 (xle rfl) rfl rfl uin_M (fk := 0) (xle rfl) f_M_45 rfl ?_
  refine XR.if_le d_M_handUp_13 (tgt := 18) (by decide) (fun h13 => ?_) (fun h13 => ?_)
  · refine XR.aload_n d_M_handUp_18 rfl ?_
    refine XR.getref d_M_handUp_19 (xle rfl) rfl rfl uin_M (fk := 9) (xle rfl) f_M_29 rfl (xle rfl) ?_
    refine XR.iload_n d_M_handUp_22 rfl ?_
    refine XR.iaload d_M_handUp_23 (xle rfl) (fun _ => rfl) (rBk_in (rWr_in h13).1) ?_
    refine XR.istore_n d_M_handUp_24 (xle rfl) rfl ?_
    refine XR.aload_n d_M_handUp_25 rfl ?_
    refine XR.iload_n d_M_handUp_26 rfl ?_
    refine XR.cV (as := [_]) d_M_handUp_27 l_M_56 kv_M_owned (c_M_owned) rfl (xle rfl) rfl rfl (xle rfl) (xle rfl) ?_
    refine XR.istore_n d_M_handUp_30 (xle rfl) rfl ?_
    refine XR.iconst d_M_handUp_31 (v := nI 0) (by decide) ?_
    refine XR.istore d_M_handUp_32 (xle rfl) rfl ?_
    exact loop1 h13 (rOwn σ x) 0 (by omega)
  refine XR.iconst d_M_handUp_16 (v := 0) (by decide) ?_
  refine XR.xreturn d_M_handUp_17 rfl ?_
  exact ⟨by rw [rHandUp, if_neg h13] <;> rfl, by rw [rHandUp, if_neg h13] <;> rfl⟩
theorem c_M_count (hr : rOK σ) : XC E i_M_count 3 0 0 [.ref (xB E + 14), .int y] (xm σ) (xok (some (.int (rCount (xu σ 14 0 0) y))) (xm (xu σ 14 0 0))) := by
  refine XC.ofF (by decide +kernel) cd_M_count rfl (xle rfl) ?_
  have hr0 : rOK (xu σ 14 0 0) := hr.of rfl rfl
  obtain ⟨τ, hτ⟩ : ∃ τ, τ = xu σ 14 0 0 := ⟨_, rfl⟩
  rw [← hτ] at hr0
  obtain ⟨N, hN⟩ : ∃ N, N = xcn (rCnP τ y) 192 := ⟨_, rfl⟩
  have pre1 : y = 3 → rCount τ y = nI (xcn (rTU τ 0) 40) := fun h => by rw [rCount, if_pos h]
  have pre2 : ¬ y = 3 → bz (rIn y 0 2) = 0 → rCount τ y = -1 := fun h h2 => by rw [rCount, if_neg h, if_pos h2]
  have pre3 : ¬ y = 3 → ¬ bz (rIn y 0 2) = 0 → rCount τ y = nI N := fun h h2 => by rw [rCount, if_neg h, if_neg h2, hN]
  rw [← hτ]
  have fin : ∀ z : List Value, XR E i_M_count 3 0 0 (xok (some (.int (rCount τ y))) (xm τ)) 96 ([.ref (xB E + 14), .int y, .int (nI N)] ++ z) [] (xm τ) := by
    intro z
    refine XR.locals (L' := [.ref (xB E + 14), .int y, .int (nI N)]) (fun j v hj => by rw [List.getElem?_append_left (List.getElem?_eq_some_iff.mp hj).1]; exact hj) ?_
    refine XR.iload_n d_M_count_96 rfl ?_
    refine XR.iconst d_M_count_97 (v := 3) (by decide) ?_
    refine XR.icmp_ne d_M_count_98 (tgt := 109) (by decide) (fun h98 => ?_) (fun h98 => ?_)
    · refine XR.iload_n d_M_count_109 rfl ?_
      refine XR.iconst d_M_count_110 (v := 0) (by decide) ?_
      refine XR.iconst d_M_count_111 (v := 2) (by decide) ?_
      refine XR.cS (as := [_, _, _]) d_M_count_112 l_M_48 ks_M_in (c_M_in) rfl (xle rfl) (xle rfl) ?_
      refine XR.if_eq d_M_count_115 (tgt := 122) (by decide) (fun h115 => ?_) (fun h115 => ?_)
      · refine XR.iconst d_M_count_122 (v := -1) (by decide) ?_
        refine XR.xreturn d_M_count_123 rfl ?_
        first | exact ⟨by rw [pre2 h98 h115], rfl⟩ | exact ⟨by rw [pre3 h98 h115], rfl⟩ | exact ⟨by rw [pre1 h98], rfl⟩
      refine XR.iload_n d_M_count_118 rfl ?_
      refine XR.goto d_M_count_119 (tgt := 123) (by decide) ?_
      refine XR.xreturn d_M_count_123 rfl ?_
      first | exact ⟨by rw [pre2 h98 h115], rfl⟩ | exact ⟨by rw [pre3 h98 h115], rfl⟩ | exact ⟨by rw [pre1 h98], rfl⟩
    refine XR.aload_n d_M_count_101 rfl ?_
    refine XR.iconst d_M_count_102 (v := 0) (by decide) ?_
    refine XR.cV (as := [_]) d_M_count_103 l_M_131 kv_M_banksUnder (c_M_banksUnder hr0) rfl (xle rfl) rfl rfl (xle rfl) (xle rfl) ?_
    refine XR.goto d_M_count_106 (tgt := 123) (by decide) ?_
    refine XR.xreturn d_M_count_123 rfl ?_
    first | exact ⟨by rw [pre2 h98 h115], rfl⟩ | exact ⟨by rw [pre3 h98 h115], rfl⟩ | exact ⟨by rw [pre1 h98], rfl⟩
  have loop : ∀ (f i k : Nat) (z : List Value), i + f = 192 → k = xcn (rCnP τ y) i → XR E i_M_count 3 0 0 (xok (some (.int (rCount τ y))) (xm τ)) 9 ([.ref (xB E + 14), .int y, .int (nI k), .int (nI i)] ++ z) [] (xm τ) := by
    intro f
    induction f with
    | zero =>
      intro i k z hi hk
      have : i = 192 := by omega
      subst this
      rw [← hN] at hk
      subst hk
      refine XR.locals (L' := [.ref (xB E + 14), .int y, .int (nI k), .int (nI 192)]) (fun j v hj => by rw [List.getElem?_append_left (List.getElem?_eq_some_iff.mp hj).1]; exact hj) ?_
      refine XR.iload_n d_M_count_9 rfl ?_
      refine XR.sipush d_M_count_10 (v := 192) (by decide) ?_
      refine XR.icmp_ge d_M_count_13 (tgt := 96) (by decide) (fun _ => ?_) (fun h => absurd (by decide) h)
      exact fin [_]
    | succ f ih =>
      intro i k z hi hk
      refine XR.locals (L' := [.ref (xB E + 14), .int y, .int (nI k), .int (nI i)]) (fun j v hj => by rw [List.getElem?_append_left (List.getElem?_eq_some_iff.mp hj).1]; exact hj) ?_
      have ei : xn (nI i) = i := nI_clamp (by omega)
      have rest : ∀ b : Bool, b = rCnP τ y i → XR E i_M_count 3 0 0 (xok (some (.int (rCount τ y))) (xm τ)) 75 [.ref (xB E + 14), .int y, .int (nI k), .int (nI i)] [.int (bz b)] (xm τ) := by
        intro b hb
        have q1 : bz b = 0 → k + 0 = xcn (rCnP τ y) (i + 1) := fun h => by rw [bz_z, hb] at h; rw [xcn_f h, hk]; rfl
        have q2 : ¬ bz b = 0 → k + 1 = xcn (rCnP τ y) (i + 1) := fun h => by rw [bz_z, Bool.not_eq_false, hb] at h; rw [xcn_t h, hk]
        refine XR.istore d_M_count_75 (xle rfl) rfl ?_
        refine XR.iload_n d_M_count_77 rfl ?_
        refine XR.iload d_M_count_78 rfl ?_
        refine XR.if_eq d_M_count_80 (tgt := 87) (by decide) (fun h80 => ?_) (fun h80 => ?_)
        · refine XR.iconst d_M_count_87 (v := nI 0) (by decide) ?_
          refine XR.iadd d_M_count_88 ?_
          rw [nI_add]
          refine XR.istore_n d_M_count_89 (xle rfl) rfl ?_
          refine XR.iincN d_M_count_90 rfl (xle rfl) rfl ?_
          refine XR.goto d_M_count_93 (tgt := 9) (by decide) ?_
          first | exact ih (i + 1) _ [_] (by omega) (q1 h80) | exact ih (i + 1) _ [_] (by omega) (q2 h80)
        refine XR.iconst d_M_count_83 (v := nI 1) (by decide) ?_
        refine XR.goto d_M_count_84 (tgt := 88) (by decide) ?_
        refine XR.iadd d_M_count_88 ?_
        rw [nI_add]
        refine XR.istore_n d_M_count_89 (xle rfl) rfl ?_
        refine XR.iincN d_M_count_90 rfl (xle rfl) rfl ?_
        refine XR.goto d_M_count_93 (tgt := 9) (by decide) ?_
        first | exact ih (i + 1) _ [_] (by omega) (q1 h80) | exact ih (i + 1) _ [_] (by omega) (q2 h80)
      have g1 : y = 0 → rFr τ (xn (nI i)) = rCnP τ y i := fun h => by rw [ei, rCnP, if_pos h]
      have g2 : ¬ y = 0 → y = 1 → 0 ≤ τ 15 i → false = rCnP τ y i := fun a b c => by rw [rCnP, if_neg a, if_pos b]; simp [c]
      have g3 : ¬ y = 0 → y = 1 → ¬ τ 16 i = 7 → false = rCnP τ y i := fun a b c => by rw [rCnP, if_neg a, if_pos b]; simp [c]
      have g4 : ¬ y = 0 → y = 1 → ¬ 0 ≤ τ 15 i → τ 16 i = 7 → true = rCnP τ y i := fun a b c e => by rw [rCnP, if_neg a, if_pos b, decide_eq_false c, e]; rfl
      have g5 : ¬ y = 0 → ¬ y = 1 → τ 15 i < 0 → false = rCnP τ y i := fun a b c => by rw [rCnP, if_neg a, if_neg b]; simp [c]
      have g6 : ¬ y = 0 → ¬ y = 1 → ¬ τ 15 i < 0 → true = rCnP τ y i := fun a b c => by rw [rCnP, if_neg a, if_neg b, decide_eq_false c]; rfl
      refine XR.iload_n d_M_count_9 rfl ?_
      refine XR.sipush d_M_count_10 (v := 192) (by decide) ?_
      refine XR.icmp_ge d_M_count_13 (tgt := 96) (by decide) (fun h => absurd h (nn_le (n := 192) (by omega) (by decide))) (fun _ => ?_)
      refine XR.iload_n d_M_count_16 rfl ?_
      refine XR.if_ne d_M_count_17 (tgt := 28) (by decide) (fun h17 => ?_) (fun h17 => ?_)
      · refine XR.iload_n d_M_count_28 rfl ?_
        refine XR.iconst d_M_count_29 (v := 1) (by decide) ?_
        refine XR.icmp_ne d_M_count_30 (tgt := 61) (by decide) (fun h30 => ?_) (fun h30 => ?_)
        · refine XR.aload_n d_M_count_61 rfl ?_
          refine XR.getref d_M_count_62 (xle rfl) rfl rfl uin_M (fk := 1) (xle rfl) f_M_7 rfl (xle rfl) ?_
          refine XR.iload_n d_M_count_65 rfl ?_
          refine XR.ialoadN d_M_count_66 (xle rfl) (fun _ => rfl) (by omega) (xle rfl) ?_
          refine XR.if_lt d_M_count_67 (tgt := 74) (by decide) (fun h67 => ?_) (fun h67 => ?_)
          · refine XR.iconst d_M_count_74 (v := bz false) (by decide) ?_
            first | exact rest _ (g1 h17) | exact rest _ (g2 h17 h30 h39) | exact rest _ (g3 h17 h30 h50) | exact rest _ (g4 h17 h30 h39 h50) | exact rest _ (g5 h17 h30 h67) | exact rest _ (g6 h17 h30 h67)
          refine XR.iconst d_M_count_70 (v := bz true) (by decide) ?_
          refine XR.goto d_M_count_71 (tgt := 75) (by decide) ?_
          first | exact rest _ (g1 h17) | exact rest _ (g2 h17 h30 h39) | exact rest _ (g3 h17 h30 h50) | exact rest _ (g4 h17 h30 h39 h50) | exact rest _ (g5 h17 h30 h67) | exact rest _ (g6 h17 h30 h67)
        refine XR.aload_n d_M_count_33 rfl ?_
        refine XR.getref d_M_count_34 (xle rfl) rfl rfl uin_M (fk := 1) (xle rfl) f_M_7 rfl (xle rfl) ?_
        refine XR.iload_n d_M_count_37 rfl ?_
        refine XR.ialoadN d_M_count_38 (xle rfl) (fun _ => rfl) (by omega) (xle rfl) ?_
        refine XR.if_ge d_M_count_39 (tgt := 57) (by decide) (fun h39 => ?_) (fun h39 => ?_)
        · refine XR.iconst d_M_count_57 (v := bz false) (by decide) ?_
          refine XR.goto d_M_count_58 (tgt := 75) (by decide) ?_
          first | exact rest _ (g1 h17) | exact rest _ (g2 h17 h30 h39) | exact rest _ (g3 h17 h30 h50) | exact rest _ (g4 h17 h30 h39 h50) | exact rest _ (g5 h17 h30 h67) | exact rest _ (g6 h17 h30 h67)
        refine XR.aload_n d_M_count_42 rfl ?_
        refine XR.getref d_M_count_43 (xle rfl) rfl rfl uin_M (fk := 2) (xle rfl) f_M_13 rfl (xle rfl) ?_
        refine XR.iload_n d_M_count_46 rfl ?_
        refine XR.ialoadN d_M_count_47 (xle rfl) (fun _ => rfl) (by omega) (xle rfl) ?_
        refine XR.bipush d_M_count_48 (v := 7) (by decide) ?_
        refine XR.icmp_ne d_M_count_50 (tgt := 57) (by decide) (fun h50 => ?_) (fun h50 => ?_)
        · refine XR.iconst d_M_count_57 (v := bz false) (by decide) ?_
          refine XR.goto d_M_count_58 (tgt := 75) (by decide) ?_
          first | exact rest _ (g1 h17) | exact rest _ (g2 h17 h30 h39) | exact rest _ (g3 h17 h30 h50) | exact rest _ (g4 h17 h30 h39 h50) | exact rest _ (g5 h17 h30 h67) | exact rest _ (g6 h17 h30 h67)
        refine XR.iconst d_M_count_53 (v := bz true) (by decide) ?_
        refine XR.goto d_M_count_54 (tgt := 75) (by decide) ?_
        first | exact rest _ (g1 h17) | exact rest _ (g2 h17 h30 h39) | exact rest _ (g3 h17 h30 h50) | exact rest _ (g4 h17 h30 h39 h50) | exact rest _ (g5 h17 h30 h67) | exact rest _ (g6 h17 h30 h67)
      refine XR.aload_n d_M_count_20 rfl ?_
      refine XR.iload_n d_M_count_21 rfl ?_
      refine XR.cV (as := [_]) d_M_count_22 l_M_77 kv_M_isFree (c_M_isFree (vp_in_nI (by omega) (by decide))) rfl (xle rfl) rfl rfl (xle rfl) (xle rfl) ?_
      refine XR.goto d_M_count_25 (tgt := 75) (by decide) ?_
      first | exact rest _ (g1 h17) | exact rest _ (g2 h17 h30 h39) | exact rest _ (g3 h17 h30 h50) | exact rest _ (g4 h17 h30 h39 h50) | exact rest _ (g5 h17 h30 h67) | exact rest _ (g6 h17 h30 h67)
  refine XR.aload_n d_M_count_0 rfl ?_
  refine XR.iconst d_M_count_1 (v := 0) (by decide) ?_
  refine XR.putfield d_M_count_2 (xle rfl) (fun _ => rfl) rfl uin_M tyM_ok nmM (fk := 0) (xle rfl) f_M_45 rfl rfl (fun _ => rfl) (fun _ => xle rfl) ?_
  refine XR.iconst d_M_count_5 (v := nI 0) (by decide) ?_
  refine XR.istore_n d_M_count_6 (xle rfl) rfl ?_
  refine XR.iconst d_M_count_7 (v := nI 0) (by decide) ?_
  refine XR.istore_n d_M_count_8 (xle rfl) rfl ?_
  have := loop 192 0 0 [] rfl rfl
  rw [hτ] at this ⊢
  exact this
theorem c_M_bought {m : Nat} (hr : rOK σ) (hx : vp_in x 40) (hc7 : rCh σ 7 x) (hn : n = nI m) (hm1 : 1 ≤ m) (hm : m ≤ 16) (hc : ¬ c ≤ 0) : XC E i_M_bought 5 0 0 [.ref (xB E + 14), .int x, .int n, .int c] (xm σ) (xrn (rBo σ x n c m)) := by
  refine XC.ofF (by decide +kernel) cd_M_bought rfl (xle rfl) ?_
  subst hn
  have hr0 : rOK (xu σ 14 0 0) := hr.of rfl rfl
  have hc0 : rCh (xu σ 14 0 0) 7 x := rCh.of rfl hc7
  have main : ¬ bz (σ 23 (xn x) == 0) = 0 → XR E i_M_bought 5 0 0 (xrn (rBo σ x (nI m) c m)) 26 [.ref (xB E + 14), .int x, .int (nI m), .int c] [] (xm (xu σ 14 0 0)) := by
    intro h6
    have pre0 : rBo σ x (nI m) c m = rBo1 (xu σ 14 0 0) x (nI m) c m := by rw [rBo, if_neg h6]
    rw [pre0]
    generalize xu σ 14 0 0 = τ at hr0 hc0 ⊢
    have rest : XR E i_M_bought 5 0 0 (xrn (rBo1 τ x (nI m) c m)) 48 [.ref (xB E + 14), .int x, .int (nI m), .int c, .int (rBtk τ x (nI m))] [] (xm τ) := by
      have hU : ((¬ nI m ≤ rBtk τ x (nI m) ∧ 0 ≤ rRf τ x (nI m - rBtk τ x (nI m))) ∨ ¬ 0 ≤ rRo τ m) → XR E i_M_bought 5 0 0 (xrn (rBo1 τ x (nI m) c m)) 82 [.ref (xB E + 14), .int x, .int (nI m), .int c, .int (rBtk τ x (nI m)), .int (rRf τ x (nI m - rBtk τ x (nI m))), .int (rRo τ m)] [] (xm τ) := by
        intro hu
        have e0 : rBo1 τ x (nI m) c m = (0, rBoU τ x (nI m) c) := by rw [rBo1, if_pos hu]
        rw [e0]
        refine XR.aload_n d_M_bought_82 rfl ?_
        refine XR.aload_n d_M_bought_83 rfl ?_
        refine XR.iload_n d_M_bought_84 rfl ?_
        refine XR.iconst d_M_bought_85 (v := 1) (by decide) ?_
        refine XR.iadd d_M_bought_86 ?_
        refine XR.iload d_M_bought_87 rfl ?_
        refine XR.iload_n d_M_bought_89 rfl ?_
        refine XR.icmp_ge d_M_bought_90 (tgt := 98) (by decide) (fun h90 => ?_) (fun h90 => ?_)
        · refine XR.iconst d_M_bought_98 (v := -1) (by decide) ?_
          refine XR.cV (as := [_, _]) d_M_bought_99 l_M_73 kv_M_unsupported (c_M_unsupported) rfl (xle rfl) rfl rfl (xle rfl) (xle rfl) ?_
          refine XR.putfield d_M_bought_102 (xle rfl) (fun _ => rfl) rfl uin_M tyM_ok nmM (fk := 0) (xle rfl) f_M_45 rfl rfl (fun _ => rfl) (fun _ => xle rfl) ?_
          refine XR.iconst d_M_bought_105 (v := 0) (by decide) ?_
          refine XR.xreturn d_M_bought_106 rfl ?_
          first | exact ⟨rfl, by rw [rBoU, if_pos h90]⟩ | exact ⟨rfl, by rw [rBoU, if_neg h90]⟩
        refine XR.iload d_M_bought_93 rfl ?_
        refine XR.goto d_M_bought_95 (tgt := 99) (by decide) ?_
        refine XR.cV (as := [_, _]) d_M_bought_99 l_M_73 kv_M_unsupported (c_M_unsupported) rfl (xle rfl) rfl rfl (xle rfl) (xle rfl) ?_
        refine XR.putfield d_M_bought_102 (xle rfl) (fun _ => rfl) rfl uin_M tyM_ok nmM (fk := 0) (xle rfl) f_M_45 rfl rfl (fun _ => rfl) (fun _ => xle rfl) ?_
        refine XR.iconst d_M_bought_105 (v := 0) (by decide) ?_
        refine XR.xreturn d_M_bought_106 rfl ?_
        first | exact ⟨rfl, by rw [rBoU, if_pos h90]⟩ | exact ⟨rfl, by rw [rBoU, if_neg h90]⟩
      have hOK : ¬ ((¬ nI m ≤ rBtk τ x (nI m) ∧ 0 ≤ rRf τ x (nI m - rBtk τ x (nI m))) ∨ ¬ 0 ≤ rRo τ m) → XR E i_M_bought 5 0 0 (xrn (rBo1 τ x (nI m) c m)) 107 [.ref (xB E + 14), .int x, .int (nI m), .int c, .int (rBtk τ x (nI m)), .int (rRf τ x (nI m - rBtk τ x (nI m))), .int (rRo τ m)] [] (xm τ) := by
        intro hu
        obtain ⟨a, ea, ham⟩ := rRo_in (σ := τ) (m := m) (by omega) (Classical.byContradiction fun h => hu (Or.inr h))
        have exa : xn (rRo τ m) = a := by rw [ea]; exact xnI (by omega)
        obtain ⟨T, hT⟩ : ∃ T, T = rBoT τ x (nI m) m := ⟨_, rfl⟩
        have pre : rBo1 τ x (nI m) c m = (1024 * T 16 a + 2 * nI a, xu T 14 6 (T 14 6 + 1)) := by rw [rBo1, if_neg hu, ← hT, exa, ea]
        have hT' : rFiF x m a (xu τ 24 (xn x) (τ 24 (xn x) - rBtk τ x (nI m))) = T := by rw [hT, rBoT, exa]
        rw [ea]
        have eam : nI a + nI m = nI (a + m) := nI_add a m
        have inner : ∀ (k : XR E i_M_bought 5 0 0 (xrn (rBo1 τ x (nI m) c m)) 188 [] [] (xm τ) → True) (i : Nat) (ρ : xS), i < 192 → (XR E i_M_bought 5 0 0 (xrn (rBo1 τ x (nI m) c m)) 188 [.ref (xB E + 14), .int x, .int (nI m), .int c, .int (rBtk τ x (nI m)), .int (rRf τ x (nI m - rBtk τ x (nI m))), .int (nI a), .int (nI i), .int (nI 4)] [] (xm (rClr ρ i 4))) →
            ∀ (f k : Nat), k + f = 4 → XR E i_M_bought 5 0 0 (xrn (rBo1 τ x (nI m) c m)) 163 [.ref (xB E + 14), .int x, .int (nI m), .int c, .int (rBtk τ x (nI m)), .int (rRf τ x (nI m - rBtk τ x (nI m))), .int (nI a), .int (nI i), .int (nI k)] [] (xm (rClr ρ i k)) := by
          intro _ i ρ hi hend f
          induction f with
          | zero =>
            intro k hk
            have : k = 4 := by omega
            subst this
            refine XR.iload d_M_bought_163 rfl ?_
            refine XR.iconst d_M_bought_165 (v := 4) (by decide) ?_
            refine XR.icmp_ge d_M_bought_166 (tgt := 188) (by decide) (fun _ => ?_) (fun h => absurd (by decide) h)
            exact hend
          | succ f ih =>
            intro k hk
            have e : 4 * nI i + nI k = nI (4 * i + k) := by rw [show (4 : Int32) = nI 4 from rfl, pk_mul, nI_add]
            refine XR.iload d_M_bought_163 rfl ?_
            refine XR.iconst d_M_bought_165 (v := 4) (by decide) ?_
            refine XR.icmp_ge d_M_bought_166 (tgt := 188) (by decide) (fun h => absurd h (nn_le (n := 4) (by omega) (by decide))) (fun _ => ?_)
            refine XR.aload_n d_M_bought_169 rfl ?_
            refine XR.getref d_M_bought_170 (xle rfl) rfl rfl uin_M (fk := 5) (xle rfl) f_M_22 rfl (xle rfl) ?_
            refine XR.iconst d_M_bought_173 (v := 4) (by decide) ?_
            refine XR.iload d_M_bought_174 rfl ?_
            refine XR.imul d_M_bought_176 ?_
            refine XR.iload d_M_bought_177 rfl ?_
            refine XR.iadd d_M_bought_179 ?_
            rw [e]
            refine XR.iconst d_M_bought_180 (v := 0) (by decide) ?_
            refine XR.iastoreN d_M_bought_181 (xle rfl) (fun _ => rfl) (by omega) (xle rfl) ?_
            rw [rClr_s]
            refine XR.iincN d_M_bought_182 rfl (xle rfl) rfl ?_
            refine XR.goto d_M_bought_185 (tgt := 163) (by decide) ?_
            exact ih (k + 1) (by omega)
        have loop : ∀ (f i : Nat) (ρ : xS) (z : List Value), i + f = a + m → rFiF x f i ρ = T → XR E i_M_bought 5 0 0 (xrn (rBo1 τ x (nI m) c m)) 122 ([.ref (xB E + 14), .int x, .int (nI m), .int c, .int (rBtk τ x (nI m)), .int (rRf τ x (nI m - rBtk τ x (nI m))), .int (nI a), .int (nI i)] ++ z) [] (xm ρ) := by
          intro f
          induction f with
          | zero =>
            intro i ρ z hi he
            have : i = a + m := by omega
            subst this
            have he' : ρ = T := he
            subst he'
            refine XR.locals (L' := [.ref (xB E + 14), .int x, .int (nI m), .int c, .int (rBtk τ x (nI m)), .int (rRf τ x (nI m - rBtk τ x (nI m))), .int (nI a), .int (nI (a + m))]) (fun j v hj => by rw [List.getElem?_append_left (List.getElem?_eq_some_iff.mp hj).1]; exact hj) ?_
            refine XR.iload d_M_bought_122 rfl ?_
            refine XR.iload d_M_bought_124 rfl ?_
            refine XR.iload_n d_M_bought_126 rfl ?_
            refine XR.iadd d_M_bought_127 ?_
            refine XR.icmp_ge d_M_bought_128 (tgt := 194) (by decide) (fun _ => ?_) (fun h => absurd (by rw [eam]; exact Int32.le_refl _) h)
            refine XR.aload_n d_M_bought_194 rfl ?_
            refine XR.dup d_M_bought_195 rfl ?_
            refine XR.getint d_M_bought_196 (xle rfl) rfl rfl uin_M (fk := 6) (xle rfl) f_M_89 rfl ?_
            refine XR.iconst d_M_bought_199 (v := 1) (by decide) ?_
            refine XR.iadd d_M_bought_200 ?_
            refine XR.putfield d_M_bought_201 (xle rfl) (fun _ => rfl) rfl uin_M tyM_ok nmM (fk := 6) (xle rfl) f_M_89 rfl rfl (fun _ => rfl) (fun _ => xle rfl) ?_
            refine XR.aload_n d_M_bought_204 rfl ?_
            refine XR.getref d_M_bought_205 (xle rfl) rfl rfl uin_M (fk := 2) (xle rfl) f_M_13 rfl (xle rfl) ?_
            refine XR.iload d_M_bought_208 rfl ?_
            refine XR.ialoadN d_M_bought_210 (xle rfl) (fun _ => rfl) (by omega) (xle rfl) ?_
            refine XR.iload d_M_bought_211 rfl ?_
            refine XR.cS (as := [_, _]) d_M_bought_213 l_M_96 ks_M_keyOf (c_M_keyOf) rfl (xle rfl) (xle rfl) ?_
            refine XR.xreturn d_M_bought_216 rfl ?_
            exact ⟨by rw [pre]; rfl, by rw [pre]⟩
          | succ f ih =>
            intro i ρ z hi he
            refine XR.locals (L' := [.ref (xB E + 14), .int x, .int (nI m), .int c, .int (rBtk τ x (nI m)), .int (rRf τ x (nI m - rBtk τ x (nI m))), .int (nI a), .int (nI i)]) (fun j v hj => by rw [List.getElem?_append_left (List.getElem?_eq_some_iff.mp hj).1]; exact hj) ?_
            obtain ⟨ρ2, h2⟩ : ∃ ρ2, ρ2 = rGive (xu (xu ρ 16 i (ρ 16 i + 1)) 17 i (ρ 14 6)) (nI i) x := ⟨_, rfl⟩
            have h188 : XR E i_M_bought 5 0 0 (xrn (rBo1 τ x (nI m) c m)) 188 [.ref (xB E + 14), .int x, .int (nI m), .int c, .int (rBtk τ x (nI m)), .int (rRf τ x (nI m - rBtk τ x (nI m))), .int (nI a), .int (nI i), .int (nI 4)] [] (xm (rClr ρ2 i 4)) := by
              refine XR.iincN d_M_bought_188 rfl (xle rfl) rfl ?_
              refine XR.goto d_M_bought_191 (tgt := 122) (by decide) ?_
              exact ih (i + 1) _ [_] (by omega) (by rw [← he, h2]; rfl)
            have h160 := inner (fun _ => trivial) i ρ2 (by omega) h188 4 0 (by omega)
            rw [rClr_0, h2] at h160
            refine XR.iload d_M_bought_122 rfl ?_
            refine XR.iload d_M_bought_124 rfl ?_
            refine XR.iload_n d_M_bought_126 rfl ?_
            refine XR.iadd d_M_bought_127 ?_
            refine XR.icmp_ge d_M_bought_128 (tgt := 194) (by decide) (fun h => absurd h (by rw [eam]; exact nI_ge (by omega) (by omega))) (fun _ => ?_)
            refine XR.aload_n d_M_bought_131 rfl ?_
            refine XR.getref d_M_bought_132 (xle rfl) rfl rfl uin_M (fk := 2) (xle rfl) f_M_13 rfl (xle rfl) ?_
            refine XR.iload d_M_bought_135 rfl ?_
            refine XR.dup2 d_M_bought_137 rfl rfl ?_
            refine XR.ialoadN d_M_bought_138 (xle rfl) (fun _ => rfl) (by omega) (xle rfl) ?_
            refine XR.iconst d_M_bought_139 (v := 1) (by decide) ?_
            refine XR.iadd d_M_bought_140 ?_
            refine XR.iastoreN d_M_bought_141 (xle rfl) (fun _ => rfl) (by omega) (xle rfl) ?_
            refine XR.aload_n d_M_bought_142 rfl ?_
            refine XR.getref d_M_bought_143 (xle rfl) rfl rfl uin_M (fk := 3) (xle rfl) f_M_16 rfl (xle rfl) ?_
            refine XR.iload d_M_bought_146 rfl ?_
            refine XR.aload_n d_M_bought_148 rfl ?_
            refine XR.getint d_M_bought_149 (xle rfl) rfl rfl uin_M (fk := 6) (xle rfl) f_M_89 rfl ?_
            refine XR.iastoreN d_M_bought_152 (xle rfl) (fun _ => rfl) (by omega) (xle rfl) ?_
            refine XR.aload_n d_M_bought_153 rfl ?_
            refine XR.iload d_M_bought_154 rfl ?_
            refine XR.iload_n d_M_bought_156 rfl ?_
            refine XR.cV (as := [_, _]) d_M_bought_157 l_M_92 kv_M_own (c_M_own (vp_in_nI (by omega) (by decide))) rfl (xle rfl) rfl rfl (xle rfl) (xle rfl) ?_
            refine XR.iconst d_M_bought_160 (v := nI 0) (by decide) ?_
            refine XR.istore d_M_bought_161 (xle rfl) rfl ?_
            exact h160
        refine XR.aload_n d_M_bought_107 rfl ?_
        refine XR.getref d_M_bought_108 (xle rfl) rfl rfl uin_M (fk := 12) (xle rfl) f_M_38 rfl (xle rfl) ?_
        refine XR.iload_n d_M_bought_111 rfl ?_
        refine XR.dup2 d_M_bought_112 rfl rfl ?_
        refine XR.iaload d_M_bought_113 (xle rfl) (fun _ => rfl) hx ?_
        refine XR.iload d_M_bought_114 rfl ?_
        refine XR.isub d_M_bought_116 ?_
        refine XR.iastore d_M_bought_117 (xle rfl) (fun _ => rfl) hx ?_
        refine XR.iload d_M_bought_118 rfl ?_
        refine XR.istore d_M_bought_120 (xle rfl) rfl ?_
        exact loop m a _ [] rfl hT'
      refine XR.aload_n d_M_bought_48 rfl ?_
      refine XR.iload_n d_M_bought_49 rfl ?_
      refine XR.iload_n d_M_bought_50 rfl ?_
      refine XR.iload d_M_bought_51 rfl ?_
      refine XR.isub d_M_bought_53 ?_
      refine XR.cV (as := [_, _]) d_M_bought_54 l_M_83 kv_M_refuser (c_M_refuser hr0 hc0) rfl (xle rfl) rfl rfl (xle rfl) (xle rfl) ?_
      refine XR.istore d_M_bought_57 (xle rfl) rfl ?_
      refine XR.aload_n d_M_bought_59 rfl ?_
      refine XR.iload_n d_M_bought_60 rfl ?_
      refine XR.cV (as := [_]) d_M_bought_61 l_M_86 kv_M_room (c_M_room (m := m) (by omega) rfl) rfl (xle rfl) rfl rfl (xle rfl) (xle rfl) ?_
      refine XR.istore d_M_bought_64 (xle rfl) rfl ?_
      refine XR.iload d_M_bought_66 rfl ?_
      refine XR.iload_n d_M_bought_68 rfl ?_
      refine XR.icmp_ge d_M_bought_69 (tgt := 77) (by decide) (fun h69 => ?_) (fun h69 => ?_)
      · refine XR.iload d_M_bought_77 rfl ?_
        refine XR.if_ge d_M_bought_79 (tgt := 107) (by decide) (fun h79 => ?_) (fun h79 => ?_)
        · first | exact hOK (fun h => h.elim (fun q => q.1 h69) (fun q => q h79)) | exact hOK (fun h => h.elim (fun q => h74 q.2) (fun q => q h79))
        first | exact hU (Or.inl ⟨h69, h74⟩) | exact hU (Or.inr h79)
      refine XR.iload d_M_bought_72 rfl ?_
      refine XR.if_ge d_M_bought_74 (tgt := 82) (by decide) (fun h74 => ?_) (fun h74 => ?_)
      · first | exact hU (Or.inl ⟨h69, h74⟩) | exact hU (Or.inr h79)
      refine XR.iload d_M_bought_77 rfl ?_
      refine XR.if_ge d_M_bought_79 (tgt := 107) (by decide) (fun h79 => ?_) (fun h79 => ?_)
      · first | exact hOK (fun h => h.elim (fun q => q.1 h69) (fun q => q h79)) | exact hOK (fun h => h.elim (fun q => h74 q.2) (fun q => q h79))
      first | exact hU (Or.inl ⟨h69, h74⟩) | exact hU (Or.inr h79)
    have q1 : nI m ≤ τ 24 (xn x) → nI m = rBtk τ x (nI m) := fun h => by rw [rBtk, if_pos h]
    have q2 : ¬ nI m ≤ τ 24 (xn x) → τ 24 (xn x) = rBtk τ x (nI m) := fun h => by rw [rBtk, if_neg h]
    refine XR.aload_n d_M_bought_26 rfl ?_
    refine XR.getref d_M_bought_27 (xle rfl) rfl rfl uin_M (fk := 12) (xle rfl) f_M_38 rfl (xle rfl) ?_
    refine XR.iload_n d_M_bought_30 rfl ?_
    refine XR.iaload d_M_bought_31 (xle rfl) (fun _ => rfl) hx ?_
    refine XR.iload_n d_M_bought_32 rfl ?_
    refine XR.icmp_ge d_M_bought_33 (tgt := 45) (by decide) (fun h33 => ?_) (fun h33 => ?_)
    · refine XR.iload_n d_M_bought_45 rfl ?_
      refine XR.top (q1 h33) ?_
      refine XR.istore d_M_bought_46 (xle rfl) rfl ?_
      exact rest
    · refine XR.aload_n d_M_bought_36 rfl ?_
      refine XR.getref d_M_bought_37 (xle rfl) rfl rfl uin_M (fk := 12) (xle rfl) f_M_38 rfl (xle rfl) ?_
      refine XR.iload_n d_M_bought_40 rfl ?_
      refine XR.iaload d_M_bought_41 (xle rfl) (fun _ => rfl) hx ?_
      refine XR.goto d_M_bought_42 (tgt := 46) (by decide) ?_
      refine XR.top (q2 h33) ?_
      refine XR.istore d_M_bought_46 (xle rfl) rfl ?_
      exact rest
  refine XR.aload_n d_M_bought_0 rfl ?_
  refine XR.aload_n d_M_bought_1 rfl ?_
  refine XR.iload_n d_M_bought_2 rfl ?_
  refine XR.cV (as := [_]) d_M_bought_3 l_M_67 kv_M_isOpen (c_M_isOpen hx) rfl (xle rfl) rfl rfl (xle rfl) (xle rfl) ?_
  refine XR.if_eq d_M_bought_6 (tgt := 13) (by decide) (fun h6 => ?_) (fun h6 => ?_)
  · refine XR.iload_n d_M_bought_13 rfl ?_
    refine XR.putfield d_M_bought_14 (xle rfl) (fun _ => rfl) rfl uin_M tyM_ok nmM (fk := 0) (xle rfl) f_M_45 rfl rfl (fun _ => rfl) (fun _ => xle rfl) ?_
    refine XR.aload_n d_M_bought_17 rfl ?_
    refine XR.getint d_M_bought_18 (xle rfl) rfl rfl uin_M (fk := 0) (xle rfl) f_M_45 rfl ?_
    first | (refine XR.if_le d_M_bought_21 (tgt := 26) (by decide) (fun _ => ?_) (fun h => absurd (show (0 : Int32) ≤ 0 by decide) h); exact main h6) | (refine XR.if_le d_M_bought_21 (tgt := 26) (by decide) (fun h => absurd h (show ¬ c ≤ 0 from hc)) (fun _ => ?_); refine XR.iconst d_M_bought_24 (v := 0) (by decide) ?_; refine XR.xreturn d_M_bought_25 rfl ?_; exact ⟨by rw [rBo, if_pos h6], by rw [rBo, if_pos h6]⟩)
  refine XR.iconst d_M_bought_9 (v := 0) (by decide) ?_
  refine XR.goto d_M_bought_10 (tgt := 14) (by decide) ?_
  refine XR.putfield d_M_bought_14 (xle rfl) (fun _ => rfl) rfl uin_M tyM_ok nmM (fk := 0) (xle rfl) f_M_45 rfl rfl (fun _ => rfl) (fun _ => xle rfl) ?_
  refine XR.aload_n d_M_bought_17 rfl ?_
  refine XR.getint d_M_bought_18 (xle rfl) rfl rfl uin_M (fk := 0) (xle rfl) f_M_45 rfl ?_
  first | (refine XR.if_le d_M_bought_21 (tgt := 26) (by decide) (fun _ => ?_) (fun h => absurd (show (0 : Int32) ≤ 0 by decide) h); exact main h6) | (refine XR.if_le d_M_bought_21 (tgt := 26) (by decide) (fun h => absurd h (show ¬ c ≤ 0 from hc)) (fun _ => ?_); refine XR.iconst d_M_bought_24 (v := 0) (by decide) ?_; refine XR.xreturn d_M_bought_25 rfl ?_; exact ⟨by rw [rBo, if_pos h6], by rw [rBo, if_pos h6]⟩)
theorem c_M_buy (hr : rOK σ) : XC E i_M_buy 6 0 0 [.ref (xB E + 14), .int x] (xm σ) (xrn (rBuy σ x)) := by
  refine XC.ofF (by decide +kernel) cd_M_buy rfl (xle rfl) ?_
  have hcall : ¬ bz (rBk σ x) = 0 → XC E i_M_bought 5 0 0 [.ref (xB E + 14), .int x, .int (nI 1), .int 2] (xm (xu σ 14 0 0)) (xrn (rBo (xu σ 14 0 0) x (nI 1) 2 1)) := fun h => by
    obtain ⟨j, hj, rfl, h0⟩ := rBk_th h
    exact c_M_bought (hr.of rfl rfl) (rBk_in h) (rCh.of rfl (hr j hj h0)) rfl (by decide) (by decide) (by decide)
  have hok : ¬ bz (rBk σ x) = 0 → XC E i_M_bought 5 0 0 [.ref (xB E + 14), .int x, .int (nI 1), .int 2] (xm (xu σ 14 0 0)) (xok (some (.int (rBo (xu σ 14 0 0) x (nI 1) 2 1).1)) (xm (rBo (xu σ 14 0 0) x (nI 1) 2 1).2)) := hcall
  refine XR.aload_n d_M_buy_0 rfl ?_
  refine XR.aload_n d_M_buy_1 rfl ?_
  refine XR.iload_n d_M_buy_2 rfl ?_
  refine XR.cV (as := [_]) d_M_buy_3 l_M_63 kv_M_isBank (c_M_isBank) rfl (xle rfl) rfl rfl (xle rfl) (xle rfl) ?_
  refine XR.if_eq d_M_buy_6 (tgt := 13) (by decide) (fun h6 => ?_) (fun h6 => ?_)
  · refine XR.iconst d_M_buy_13 (v := 1) (by decide) ?_
    refine XR.putfield d_M_buy_14 (xle rfl) (fun _ => rfl) rfl uin_M tyM_ok nmM (fk := 0) (xle rfl) f_M_45 rfl rfl (fun _ => rfl) (fun _ => xle rfl) ?_
    refine XR.aload_n d_M_buy_17 rfl ?_
    refine XR.getint d_M_buy_18 (xle rfl) rfl rfl uin_M (fk := 0) (xle rfl) f_M_45 rfl ?_
    refine XR.if_le d_M_buy_21 (tgt := 28) (by decide) (fun h => absurd h (show ¬ (1 : Int32) ≤ 0 by decide)) (fun _ => ?_)
    refine XR.iconst d_M_buy_24 (v := 0) (by decide) ?_
    refine XR.goto d_M_buy_25 (tgt := 35) (by decide) ?_
    refine XR.xreturn d_M_buy_35 rfl ?_
    exact ⟨by rw [rBuy, if_pos h6] <;> rfl, by rw [rBuy, if_pos h6] <;> rfl⟩
  refine XR.iconst d_M_buy_9 (v := 0) (by decide) ?_
  refine XR.goto d_M_buy_10 (tgt := 14) (by decide) ?_
  refine XR.putfield d_M_buy_14 (xle rfl) (fun _ => rfl) rfl uin_M tyM_ok nmM (fk := 0) (xle rfl) f_M_45 rfl rfl (fun _ => rfl) (fun _ => xle rfl) ?_
  refine XR.aload_n d_M_buy_17 rfl ?_
  refine XR.getint d_M_buy_18 (xle rfl) rfl rfl uin_M (fk := 0) (xle rfl) f_M_45 rfl ?_
  refine XR.if_le d_M_buy_21 (tgt := 28) (by decide) (fun _ => ?_) (fun h => absurd (show (0 : Int32) ≤ 0 by decide) h)
  refine XR.aload_n d_M_buy_28 rfl ?_
  refine XR.iload_n d_M_buy_29 rfl ?_
  refine XR.iconst d_M_buy_30 (v := nI 1) (by decide) ?_
  refine XR.iconst d_M_buy_31 (v := 2) (by decide) ?_
  refine XR.cV (as := [_, _, _]) d_M_buy_32 l_M_99 kv_M_bought (hok h6) rfl (xle rfl) rfl rfl (xle rfl) (xle rfl) ?_
  refine XR.xreturn d_M_buy_35 rfl ?_
  exact ⟨by rw [rBuy, if_neg h6] <;> rfl, by rw [rBuy, if_neg h6] <;> rfl⟩
theorem c_M_buyRun (hr : rOK σ) : XC E i_M_buyRun 6 0 0 [.ref (xB E + 14), .int x, .int y] (xm σ) (xrn (rBuyRun σ x y)) := by
  refine XC.ofF (by decide +kernel) cd_M_buyRun rfl (xle rfl) ?_
  have hok : ¬ bz (rBk σ x) = 0 → ¬ bz (rIn y 1 16) = 0 → XC E i_M_bought 5 0 0 [.ref (xB E + 14), .int x, .int y, .int 3] (xm (xu σ 14 0 0)) (xok (some (.int (rBo (xu σ 14 0 0) x y 3 (xn y)).1)) (xm (rBo (xu σ 14 0 0) x y 3 (xn y)).2)) := fun h hy => by
    obtain ⟨j, hj, rfl, h0⟩ := rBk_th h
    have h1 : (1 : Int32).toInt = 1 := by decide
    have h16 : (16 : Int32).toInt = 16 := by decide
    rw [bz_z, Bool.not_eq_false] at hy
    simp only [rIn, Bool.and_eq_true, Bool.not_eq_true', decide_eq_false_iff_not, Int32.lt_iff_toInt_lt, h1, h16] at hy
    have e : y = nI (xn y) := by
      rw [ti_eq, nI_toInt (by show y.toInt.toNat < _; omega)]
      show y.toInt = ((y.toInt.toNat : Nat) : Int)
      omega
    exact c_M_bought (hr.of rfl rfl) (rBk_in h) (rCh.of rfl (hr j hj h0)) e (by show 1 ≤ y.toInt.toNat; omega) (by show y.toInt.toNat ≤ 16; omega) (by decide)
  refine XR.aload_n d_M_buyRun_0 rfl ?_
  refine XR.aload_n d_M_buyRun_1 rfl ?_
  refine XR.iload_n d_M_buyRun_2 rfl ?_
  refine XR.cV (as := [_]) d_M_buyRun_3 l_M_63 kv_M_isBank (c_M_isBank) rfl (xle rfl) rfl rfl (xle rfl) (xle rfl) ?_
  refine XR.if_ne d_M_buyRun_6 (tgt := 13) (by decide) (fun h6 => ?_) (fun h6 => ?_)
  · refine XR.iload_n d_M_buyRun_13 rfl ?_
    refine XR.iconst d_M_buyRun_14 (v := 1) (by decide) ?_
    refine XR.bipush d_M_buyRun_15 (v := 16) (by decide) ?_
    refine XR.cS (as := [_, _, _]) d_M_buyRun_17 l_M_48 ks_M_in (c_M_in) rfl (xle rfl) (xle rfl) ?_
    refine XR.if_eq d_M_buyRun_20 (tgt := 27) (by decide) (fun h20 => ?_) (fun h20 => ?_)
    · refine XR.iconst d_M_buyRun_27 (v := 2) (by decide) ?_
      refine XR.putfield d_M_buyRun_28 (xle rfl) (fun _ => rfl) rfl uin_M tyM_ok nmM (fk := 0) (xle rfl) f_M_45 rfl rfl (fun _ => rfl) (fun _ => xle rfl) ?_
      refine XR.aload_n d_M_buyRun_31 rfl ?_
      refine XR.getint d_M_buyRun_32 (xle rfl) rfl rfl uin_M (fk := 0) (xle rfl) f_M_45 rfl ?_
      refine XR.if_le d_M_buyRun_35 (tgt := 42) (by decide) (fun h => absurd h (show ¬ (2 : Int32) ≤ 0 by decide)) (fun _ => ?_)
      refine XR.iconst d_M_buyRun_38 (v := 0) (by decide) ?_
      refine XR.goto d_M_buyRun_39 (tgt := 49) (by decide) ?_
      refine XR.xreturn d_M_buyRun_49 rfl ?_
      exact ⟨by rw [rBuyRun, if_neg h6, if_pos h20] <;> rfl, by rw [rBuyRun, if_neg h6, if_pos h20] <;> rfl⟩
    refine XR.iconst d_M_buyRun_23 (v := 0) (by decide) ?_
    refine XR.goto d_M_buyRun_24 (tgt := 28) (by decide) ?_
    refine XR.putfield d_M_buyRun_28 (xle rfl) (fun _ => rfl) rfl uin_M tyM_ok nmM (fk := 0) (xle rfl) f_M_45 rfl rfl (fun _ => rfl) (fun _ => xle rfl) ?_
    refine XR.aload_n d_M_buyRun_31 rfl ?_
    refine XR.getint d_M_buyRun_32 (xle rfl) rfl rfl uin_M (fk := 0) (xle rfl) f_M_45 rfl ?_
    refine XR.if_le d_M_buyRun_35 (tgt := 42) (by decide) (fun _ => ?_) (fun h => absurd (show (0 : Int32) ≤ 0 by decide) h)
    refine XR.aload_n d_M_buyRun_42 rfl ?_
    refine XR.iload_n d_M_buyRun_43 rfl ?_
    refine XR.iload_n d_M_buyRun_44 rfl ?_
    refine XR.iconst d_M_buyRun_45 (v := 3) (by decide) ?_
    refine XR.cV (as := [_, _, _]) d_M_buyRun_46 l_M_99 kv_M_bought (hok h6 h20) rfl (xle rfl) rfl rfl (xle rfl) (xle rfl) ?_
    refine XR.xreturn d_M_buyRun_49 rfl ?_
    exact ⟨by rw [rBuyRun, if_neg h6, if_neg h20] <;> rfl, by rw [rBuyRun, if_neg h6, if_neg h20] <;> rfl⟩
  refine XR.iconst d_M_buyRun_9 (v := 1) (by decide) ?_
  refine XR.goto d_M_buyRun_10 (tgt := 28) (by decide) ?_
  refine XR.putfield d_M_buyRun_28 (xle rfl) (fun _ => rfl) rfl uin_M tyM_ok nmM (fk := 0) (xle rfl) f_M_45 rfl rfl (fun _ => rfl) (fun _ => xle rfl) ?_
  refine XR.aload_n d_M_buyRun_31 rfl ?_
  refine XR.getint d_M_buyRun_32 (xle rfl) rfl rfl uin_M (fk := 0) (xle rfl) f_M_45 rfl ?_
  refine XR.if_le d_M_buyRun_35 (tgt := 42) (by decide) (fun h => absurd h (show ¬ (1 : Int32) ≤ 0 by decide)) (fun _ => ?_)
  refine XR.iconst d_M_buyRun_38 (v := 0) (by decide) ?_
  refine XR.goto d_M_buyRun_39 (tgt := 49) (by decide) ?_
  refine XR.xreturn d_M_buyRun_49 rfl ?_
  exact ⟨by rw [rBuyRun, if_pos h6] <;> rfl, by rw [rBuyRun, if_pos h6] <;> rfl⟩
end XModel6
