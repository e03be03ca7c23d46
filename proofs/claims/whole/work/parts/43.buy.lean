/-! buy, buyRun -/
def FS (s2 : Nat → Int32) (L : List Nat) (B : Int) (ρ ρ' : xS) : Prop := ρ' 15 = ρ 9 ∧ ρ' 16 = ρ 8 ∧ ρ' 19 = ρ 11 ∧ ρ 7 7 = ρ' 14 6 + 1 ∧ OI s2 (ρ 9) ∧ VI (ρ 8) (ρ 9) ∧ RI (ρ 9) (ρ 10) (ρ' 17) ∧ OLL L (ρ 9) (ρ 12) (ρ' 18) (ρ 7 6) (ρ' 14 7) B
section Fill
variable {s2 : Nat → Int32}
theorem fill_step {L : List Nat} {B : Int} {ρ ρ' ρ1 ρ1' : xS} (h : FS s2 L B ρ ρ') {i b : Nat} (hi : i < 192) (hb : b < 40) (tb : thr s2 b = true) (h9 : ρ 9 i = -1) (h8 : (ρ 8 i).toInt < 7) (hB : B < 2000000000)
    (e1 : ρ1 = sGive (sClr (xu (xu ρ 8 i (ρ 8 i + 1)) 10 i (ρ 7 7)) i 4) (nI i) (nI b)) (e1' : ρ1' = rClr (rGive (xu (xu ρ' 16 i (ρ' 16 i + 1)) 17 i (ρ' 14 6)) (nI i) (nI b)) i 4) :
    FS s2 (L ++ [i]) (B + 1) ρ1 ρ1' ∧ (∀ c, c < 40 → (ow (ρ1 9) c : Int) = ow (ρ 9) c + (if c = b then 1 else 0)) ∧ (∀ q, ¬ q = i → ρ1 9 q = ρ 9 q ∧ ρ1 8 q = ρ 8 q) ∧ (∀ k, k < 7 ∨ 12 < k → ρ1 k = ρ k) ∧ ρ1 7 7 = ρ 7 7 ∧ (∀ k, k < 14 ∨ 19 < k → ρ1' k = ρ' k) ∧ ρ1' 14 6 = ρ' 14 6 ∧ ρ1' 14 13 = ρ' 14 13 ∧ ρ1' 14 0 = ρ' 14 0 := by
  obtain ⟨f1, f2, f3, f4, f5, f6, f7, f8⟩ := h
  have xi : xn (nI i) = i := xn_nI (by omega)
  have r8 : ρ1 8 = fun j => if j = i then ρ 8 i + 1 else ρ 8 j := by rw [e1]; rfl
  have r9 : ρ1 9 = fun j => if j = i then nI b else ρ 9 j := by rw [e1, sGive, xi]; rfl
  have r10 : ρ1 10 = fun j => if j = i then ρ 7 7 else ρ 10 j := by rw [e1]; rfl
  have r11 : ρ1 11 = fun j => if i * 4 ≤ j ∧ j < i * 4 + 4 then 0 else ρ 11 j := by rw [e1]; rfl
  have r12 : ρ1 12 = fun j => if j = xn (ρ 7 6) then nI i else ρ 12 j := by rw [e1]; rfl
  have r76 : ρ1 7 6 = ρ 7 6 + 1 := by rw [e1]; rfl
  have r77 : ρ1 7 7 = ρ 7 7 := by rw [e1]; rfl
  have r15 : ρ1' 15 = fun j => if j = i then nI b else ρ' 15 j := by rw [e1', rGive, xi]; rfl
  have r16 : ρ1' 16 = fun j => if j = i then ρ' 16 i + 1 else ρ' 16 j := by rw [e1']; rfl
  have r17 : ρ1' 17 = fun j => if j = i then ρ' 14 6 else ρ' 17 j := by rw [e1']; rfl
  have r18 : ρ1' 18 = fun j => if j = i then ρ' 14 7 else ρ' 18 j := by rw [e1', rGive, xi]; rfl
  have r19 : ρ1' 19 = fun j => if 4 * i ≤ j ∧ j < 4 * i + 4 then 0 else ρ' 19 j := by rw [e1']; rfl
  have r147 : ρ1' 14 7 = ρ' 14 7 + 1 := by rw [e1']; rfl
  have r146 : ρ1' 14 6 = ρ' 14 6 := by rw [e1']; rfl
  have r1413 : ρ1' 14 13 = ρ' 14 13 := by rw [e1']; rfl
  have r140 : ρ1' 14 0 = ρ' 14 0 := by rw [e1']; rfl
  have hm : ¬ nI b = -1 := nI_m1 (by omega)
  have e81 : (ρ 8 i + 1).toInt = (ρ 8 i).toInt + 1 := by
    have h0 := (f6 i hi).1
    have : (1 : Int32).toInt = 1 := by decide
    rw [tiA (by rw [this]; omega) (by rw [this]; omega), this]
  refine ⟨⟨by rw [r15, r9, f1], by rw [r16, r8, f2], ?_, by rw [r77, r146]; exact f4, ?_, ?_, ?_, ?_⟩, ?_, ?_, ?_, r77, ?_, r146, r1413, r140⟩
  · rw [r19, r11, f3]
    funext j
    rw [Nat.mul_comm]
  · rw [r9]
    intro q hq
    show (if q = i then nI b else ρ 9 q) = -1 ∨ ∃ b', b' < 40 ∧ (if q = i then nI b else ρ 9 q) = nI b' ∧ _
    by_cases e : q = i
    · rw [if_pos e]; exact Or.inr ⟨b, hb, rfl, tb⟩
    · rw [if_neg e]; exact f5 q hq
  · rw [r8, r9]
    intro q hq
    show 0 ≤ (if q = i then ρ 8 i + 1 else ρ 8 q).toInt ∧ (if q = i then ρ 8 i + 1 else ρ 8 q).toInt ≤ 7 ∧ (¬ (if q = i then nI b else ρ 9 q) = -1 → 1 ≤ (if q = i then ρ 8 i + 1 else ρ 8 q).toInt)
    by_cases e : q = i
    · rw [if_pos e, e81]
      have h0 := (f6 i hi).1
      exact ⟨by omega, by omega, fun _ => by omega⟩
    · rw [if_neg e, if_neg e]; exact f6 q hq
  · rw [r9, r10, r17]
    intro q hq
    show ¬ (if q = i then nI b else ρ 9 q) = -1 → (if q = i then ρ 7 7 else ρ 10 q) = (if q = i then ρ' 14 6 else ρ' 17 q) + 1
    by_cases e : q = i
    · rw [if_pos e, if_pos e, if_pos e]; exact fun _ => f4
    · rw [if_neg e, if_neg e, if_neg e]; exact f7 q hq
  · rw [r9, r12, r18, r76, r147]
    exact f8.push hi h9 hm hB
  · intro c hc
    rw [r9, ow_set hi c, h9, if_neg (show ¬ (-1 : Int32) = nI c from fun e => nI_m1 (show c < 2 ^ 31 by omega) e.symm)]
    by_cases e : c = b
    · rw [if_pos (by rw [e]), if_pos e]; omega
    · rw [if_neg (show ¬ nI b = nI c from fun hh => e ((nI_eq (by omega) (by omega)).mp hh).symm), if_neg e]; omega
  · intro q hq
    rw [r8, r9]
    exact ⟨if_neg hq, if_neg hq⟩
  · intro k hk
    rw [e1, sGive, xu_other (by omega), xu_other (by omega), xu_other (by omega), sClr, xup_ne (by omega), xu_other (by omega), xu_other (by omega)]
  · intro k hk
    rw [e1', rClr, xup_ne (by omega), rGive, xu_other (by omega), xu_other (by omega), xu_other (by omega), xu_other (by omega), xu_other (by omega)]
theorem fill_sim {b : Nat} (hb : b < 40) (tb : thr s2 b = true) : ∀ (f i : Nat) (ρ ρ' : xS) (L : List Nat) (B : Int), i + f ≤ 192 → FS s2 L B ρ ρ' → (∀ q, i ≤ q → q < i + f → ρ 9 q = -1 ∧ (ρ 8 q).toInt < 7) → B + f < 2000000000 →
    (∃ L', FS s2 L' (B + f) (sFiF (nI b) f i ρ) (rFiF (nI b) f i ρ')) ∧ (∀ c, c < 40 → (ow (sFiF (nI b) f i ρ 9) c : Int) = ow (ρ 9) c + (if c = b then (f : Int) else 0)) ∧ (∀ k, k < 7 ∨ 12 < k → sFiF (nI b) f i ρ k = ρ k) ∧ sFiF (nI b) f i ρ 7 7 = ρ 7 7 ∧ (∀ k, k < 14 ∨ 19 < k → rFiF (nI b) f i ρ' k = ρ' k) ∧ rFiF (nI b) f i ρ' 14 6 = ρ' 14 6 ∧ rFiF (nI b) f i ρ' 14 13 = ρ' 14 13 ∧ rFiF (nI b) f i ρ' 14 0 = ρ' 14 0 := by
  intro f
  induction f with
  | zero =>
    intro i ρ ρ' L B _ h _ _
    refine ⟨⟨L, by rw [show B + ((0 : Nat) : Int) = B by simp]; exact h⟩, fun c _ => ?_, fun _ _ => rfl, rfl, fun _ _ => rfl, rfl, rfl, rfl⟩
    show (ow (ρ 9) c : Int) = _
    split <;> simp
  | succ f ih =>
    intro i ρ ρ' L B hi h hfree hB
    obtain ⟨ρ1, e1⟩ : ∃ ρ1, ρ1 = sGive (sClr (xu (xu ρ 8 i (ρ 8 i + 1)) 10 i (ρ 7 7)) i 4) (nI i) (nI b) := ⟨_, rfl⟩
    obtain ⟨ρ1', e1'⟩ : ∃ ρ1', ρ1' = rClr (rGive (xu (xu ρ' 16 i (ρ' 16 i + 1)) 17 i (ρ' 14 6)) (nI i) (nI b)) i 4 := ⟨_, rfl⟩
    have hs := fill_step h (i := i) (b := b) (by omega) hb tb (hfree i (by omega) (by omega)).1 (hfree i (by omega) (by omega)).2 (by omega) e1 e1'
    obtain ⟨g1, g2, g3, g4, g5, g6, g7, g8, g9⟩ := hs
    have hr := ih (i + 1) ρ1 ρ1' (L ++ [i]) (B + 1) (by omega) g1 (fun q h1 h2 => by
      rw [(g3 q (by omega)).1, (g3 q (by omega)).2]
      exact hfree q (by omega) (by omega)) (by omega)
    obtain ⟨⟨L', k1⟩, k2, k3, k4, k5, k6, k7, k8⟩ := hr
    have es : sFiF (nI b) (f + 1) i ρ = sFiF (nI b) f (i + 1) ρ1 := by rw [sFiF, e1]
    have es' : rFiF (nI b) (f + 1) i ρ' = rFiF (nI b) f (i + 1) ρ1' := by rw [rFiF, e1']
    rw [es, es']
    refine ⟨⟨L', ?_⟩, fun c hc => ?_, fun k hk => (k3 k hk).trans (g4 k hk), k4.trans g5, fun k hk => (k5 k hk).trans (g6 k hk), k6.trans g7, k7.trans g8, k8.trans g9⟩
    · rw [show B + ((f + 1 : Nat) : Int) = B + 1 + (f : Int) by omega]; exact k1
    · rw [k2 c hc, g2 c hc]
      split <;> omega
end Fill
section Buy
variable {E : xE} {t : Nat} {σ : xS}
theorem Inv.refuse2 (h : Inv t σ) (c v : Int32) : Inv (t + 1) (xu (xu (xu (xu (xu σ 0 2 v) 14 0 0) 14 0 0) 14 13 v) 14 0 c) := by
  have h' := Rel.up h
  obtain ⟨⟨e1, e2, e3, e4, e5, e6, e7, e8⟩, hrest⟩ := h'
  exact ⟨⟨e1, e2, e3, e4, e5, e6, rfl, e8⟩, hrest⟩
theorem tk_eq {a n : Int32} : (if n ≤ a then n else a) = if a < n then a else n := by
  by_cases h : a < n
  · rw [if_pos h, if_neg (by rw [Int32.le_iff_toInt_le]; rw [Int32.lt_iff_toInt_lt] at h; omega)]
  · rw [if_neg h, if_pos (by rw [Int32.le_iff_toInt_le]; rw [Int32.lt_iff_toInt_lt] at h; omega)]
theorem bought_sim (h : Inv t σ) {b m : Nat} (hb : b < 40) (tb : thr (σ 2) b = true) (hl : σ 2 b = 0) (hm1 : 1 ≤ m) (hm : m ≤ 16) (ht : t < 512) :
    (∃ V, bNb σ (nI b) (nI m) = (.inr eU, xu σ 0 2 V) ∧ ∀ c, rBo (xu (xu σ 0 2 V) 14 0 0) (nI b) (nI m) c m = (0, xu (xu (xu (xu (xu σ 0 2 V) 14 0 0) 14 0 0) 14 13 V) 14 0 (c + 1))) ∨
    (∃ v σ1 ρ, bNb σ (nI b) (nI m) = (rI v, σ1) ∧ Rel t σ (xu σ1 25 0 v) ∧ (∀ c, rBo (xu (xu σ1 25 0 v) 14 0 0) (nI b) (nI m) c m = (v, ρ)) ∧ ρ 14 0 = 0 ∧ ρ 25 0 = v ∧ Inv (t + 1) ρ) := by
  have xb : xn (nI b) = b := xn_nI (by omega)
  have xm_ : xn (nI m) = m := xn_nI (by omega)
  have hor := own_res (Rel.li h) (Rel.ui h) hb tb
  have hmi : (nI m).toInt = (m : Int) := nI_toInt (by omega)
  obtain ⟨kk, hkk⟩ : ∃ kk, kk = bTk σ (nI b) (nI m) := ⟨_, rfl⟩
  have hkk' : kk = if σ 5 b < nI m then σ 5 b else nI m := by rw [hkk, bTk, xb]
  have hki : 0 ≤ kk.toInt ∧ kk.toInt ≤ m ∧ kk.toInt ≤ (σ 5 b).toInt := by
    rw [hkk']
    by_cases e : σ 5 b < nI m
    · rw [if_pos e]
      rw [Int32.lt_iff_toInt_lt, hmi] at e
      omega
    · rw [if_neg e, hmi]
      rw [Int32.lt_iff_toInt_lt, hmi] at e
      omega
  have hnk : (nI m - kk).toInt = (m : Int) - kk.toInt := by
    rw [tiS (by rw [hmi]; omega) (by rw [hmi]; omega), hmi]
  have hTI : TI (σ 2) (σ 3) := Rel.ti h
  obtain ⟨V, hV⟩ : ∃ V, V = tRf σ (nI b) (nI m - kk) := ⟨_, rfl⟩
  have hval : V = -1 ∨ ∃ c, c < 40 ∧ V = nI c := by rw [hV]; exact rf_val hTI _ 7 (nI b) (Or.inr ⟨b, hb, rfl, tb⟩)
  -- the reference, over any state of hers that belongs to σ
  have hro : ∀ τ : xS, Rel t σ τ → ∀ c, rBo (xu τ 14 0 0) (nI b) (nI m) c m = rBo1 (xu (xu τ 14 0 0) 14 0 0) (nI b) (nI m) c m := fun τ hτ c => by
    have h23 : xu τ 14 0 0 23 b = σ 2 b := hτ.tm.st hb tb
    rw [rBo, xb, h23, if_neg (bz1 (by rw [hl]; rfl))]
  have htk : ∀ τ : xS, Rel t σ τ → rBtk τ (nI b) (nI m) = kk := fun τ hτ => by
    rw [rBtk, xb, hτ.eq.2.2.2.2.2.1, tk_eq, hkk']
  have hrf : ∀ τ : xS, Rel t σ τ → rRf τ (nI b) (nI m - kk) = V := fun τ hτ => by rw [hτ.rc.rf hb tb, hV]
  by_cases hV1 : ¬ V = -1
  · obtain ⟨c0, hc0, ec⟩ := hval.resolve_left hV1
    have hlt : ¬ nI m ≤ kk := fun hle => by
      rw [Int32.le_iff_toInt_le, hmi] at hle
      have e0 : nI m - kk = 0 := by rw [ti_eq, hnk, show (0 : Int32).toInt = 0 by decide]; omega
      refine hV1 ?_
      rw [hV, e0, rf_none hTI hb tb]
      intro d hd hA
      have td := (A_th hTI.1 b hb tb d hA).2
      rw [Int32.add_zero, Int32.le_iff_toInt_le]
      exact (Rel.li h d hd td).2.1
    refine Or.inl ⟨V, ?_, fun c => ?_⟩
    · rw [bNb, ← hkk, ← hV, if_pos hV1]
    · have hτ : Rel t σ (xu σ 0 2 V) := h
      have hτ2 : Rel t σ (xu (xu (xu σ 0 2 V) 14 0 0) 14 0 0) := h
      rw [hro _ hτ, rBo1, htk _ hτ2, hrf _ hτ2, if_pos (Or.inl ⟨hlt, by rw [ec]; exact nI_pos' (by omega)⟩), rBoU, htk _ hτ2, if_neg hlt, hrf _ hτ2]
  have hV2 : V = -1 := Classical.not_not.mp hV1
  have hng : ¬ (0 : Int32) ≤ V := by rw [hV2]; decide
  rcases room_eq (τ := σ) h hm1 hm with ⟨r1, r2⟩ | ⟨a, ha, r1, r2, hW⟩
  · refine Or.inl ⟨-1, ?_, fun c => ?_⟩
    · rw [bNb, ← hkk, ← hV, if_neg hV1, if_pos r1]
    · have hτ : Rel t σ (xu σ 0 2 (-1)) := h
      have hτ2 : Rel t σ (xu (xu (xu σ 0 2 (-1)) 14 0 0) 14 0 0) := h
      have r2' : rRo (xu (xu (xu σ 0 2 (-1)) 14 0 0) 14 0 0) m = -1 := by
        rcases room_eq hτ2 hm1 hm with ⟨_, q⟩ | ⟨a, _, q, _, _⟩
        · exact q
        · rw [r1] at q; exact absurd q.symm (nI_m1 (by omega))
      rw [hro _ hτ, rBo1, htk _ hτ2, hrf _ hτ2, r2', if_pos (Or.inr (by decide)), rBoU, htk _ hτ2, hrf _ hτ2, hV2]
      simp
  · obtain ⟨L, hL, hoo⟩ := OLL.ok (Rel.ol h)
    have xa : xn (nI a) = a := xn_nI (by omega)
    obtain ⟨s5', hs5⟩ : ∃ s : Nat → Int32, s = fun j => if j = b then σ 5 b + -kk else σ 5 j := ⟨_, rfl⟩
    obtain ⟨g, hg⟩ : ∃ g : Nat → Int32, g = fun c => if A (Pn (σ 3)) b c then σ 6 c + (nI m - kk) else σ 6 c := ⟨_, rfl⟩
    have hta : tAu (xu σ 5 b (σ 5 b + -kk)) (nI b) (nI m - kk) = xup (xu σ 5 b (σ 5 b + -kk)) 6 g := by
      rw [hg]; exact tAu_eq (σ := xu σ 5 b (σ 5 b + -kk)) hTI hb tb (nI m - kk)
    obtain ⟨ρ0, hρ0⟩ : ∃ ρ0, ρ0 = xu (xup (xu σ 5 b (σ 5 b + -kk)) 6 g) 7 7 (σ 7 7 + 1) := ⟨_, rfl⟩
    obtain ⟨σ1, hσ1⟩ : ∃ σ1, σ1 = sFiF (nI b) m a ρ0 := ⟨_, rfl⟩
    have hS : bNbS σ (nI b) (nI m) = σ1 := by
      rw [bNbS, ← hkk, xb, hta, r1, xa, xm_, sFi, hσ1, hρ0]; rfl
    obtain ⟨v, hv⟩ : ∃ v : Int32, v = 1024 * σ1 8 a + 2 * nI a := ⟨_, rfl⟩
    have hcl : bNb σ (nI b) (nI m) = (rI v, σ1) := by
      rw [bNb, ← hkk, ← hV, if_neg hV1, if_neg (by rw [r1]; exact nI_m1 (by omega)), hS, r1, xa, hv]
    -- the reference's start
    have fr0 : ∀ k, 12 < k → ρ0 k = σ k := fun k hk => by rw [hρ0, xu_other (by omega), xup_ne (by omega), xu_other (by omega)]
    obtain ⟨τ0, hτ0⟩ : ∃ τ0, τ0 = xu (xu (xu (xu σ1 25 0 v) 14 0 0) 14 0 0) 24 b (σ 5 b - kk) := ⟨_, rfl⟩
    -- the class's fill says how σ1 lies beside ρ0: first with the reference's own rows
    have FS0 : ∀ τ' : xS, τ' 15 = σ 15 → τ' 16 = σ 16 → τ' 17 = σ 17 → τ' 18 = σ 18 → τ' 19 = σ 19 → τ' 14 6 = σ 14 6 → τ' 14 7 = σ 14 7 → FS (σ 2) L (192 * (t : Int)) ρ0 τ' := fun τ' a1 a2 a3 a4 a5 a6 a7 => by
      have q8 : ρ0 8 = σ 8 := by rw [hρ0]; rfl
      have q9 : ρ0 9 = σ 9 := by rw [hρ0]; rfl
      have q10 : ρ0 10 = σ 10 := by rw [hρ0]; rfl
      have q11 : ρ0 11 = σ 11 := by rw [hρ0]; rfl
      have q12 : ρ0 12 = σ 12 := by rw [hρ0]; rfl
      have q76 : ρ0 7 6 = σ 7 6 := by rw [hρ0]; rfl
      have q77 : ρ0 7 7 = σ 7 7 + 1 := by rw [hρ0]; rfl
      refine ⟨?_, ?_, ?_, ?_, ?_, ?_, ?_, ?_⟩
      · rw [a1, q9]; exact (Rel.eq h).1
      · rw [a2, q8]; exact (Rel.eq h).2.1
      · rw [a5, q11]; exact (Rel.eq h).2.2.1
      · rw [q77, a6]
        have e8 : σ 14 6 = σ 7 7 := (Rel.eq h).2.2.2.2.2.2.2
        rw [e8]
      · rw [q9]; exact Rel.oi h
      · rw [q8, q9]; exact Rel.vi h
      · rw [q9, q10, a3]; exact Rel.ri h
      · rw [q9, q12, a4, q76, a7]; exact hL
    have hfree : ∀ q, a ≤ q → q < a + m → ρ0 9 q = -1 ∧ (ρ0 8 q).toInt < 7 := fun q q1 q2 => by
      rw [hρ0]; exact hW.free q1 q2
    have fs1 := fill_sim (s2 := σ 2) hb tb m a ρ0 σ L (192 * (t : Int)) ha (FS0 σ rfl rfl rfl rfl rfl rfl rfl) hfree (by omega)
    rw [← hσ1] at fs1
    have fk : ∀ k, 12 < k → σ1 k = σ k := fun k hk => (fs1.2.2.1 k (Or.inr hk)).trans (fr0 k hk)
    have t0 : ∀ k, 12 < k → ¬ k = 14 → ¬ k = 24 → ¬ k = 25 → τ0 k = σ k := fun k k1 k2 k3 k4 => by
      rw [hτ0, xu_other k3, xu_other k2, xu_other k2, xu_other k4]; exact fk k k1
    have t14 : ∀ i, ¬ i = 0 → τ0 14 i = σ 14 i := fun i hi => by
      rw [hτ0]
      show (if i = 0 then 0 else (if i = 0 then 0 else σ1 14 i)) = _
      rw [if_neg hi, if_neg hi, fk 14 (by decide)]
    have fs2 := fill_sim (s2 := σ 2) hb tb m a ρ0 τ0 L (192 * (t : Int)) ha (FS0 τ0 (t0 15 (by decide) (by decide) (by decide) (by decide)) (t0 16 (by decide) (by decide) (by decide) (by decide)) (t0 17 (by decide) (by decide) (by decide) (by decide)) (t0 18 (by decide) (by decide) (by decide) (by decide)) (t0 19 (by decide) (by decide) (by decide) (by decide)) (t14 6 (by decide)) (t14 7 (by decide))) hfree (by omega)
    rw [← hσ1] at fs2
    obtain ⟨T, hT⟩ : ∃ T, T = rFiF (nI b) m a τ0 := ⟨_, rfl⟩
    rw [← hT] at fs2
    obtain ⟨⟨L', w1, w2, w3, w4, w5, w6, w7, w8⟩, z2, z3, z4, z5, z6, z7, z8⟩ := fs2
    obtain ⟨ρ, hρ⟩ : ∃ ρ, ρ = xu T 14 6 (T 14 6 + 1) := ⟨_, rfl⟩
    have hrel : Rel t σ (xu σ1 25 0 v) := by
      have e : ∀ k, 12 < k → ¬ k = 25 → xu σ1 25 0 v k = σ k := fun k k1 k2 => by rw [xu_other k2]; exact fk k k1
      have h' : Rel t σ σ := h
      unfold Rel EQ at h' ⊢
      rw [e 14 (by decide) (by decide), e 15 (by decide) (by decide), e 16 (by decide) (by decide), e 17 (by decide) (by decide), e 18 (by decide) (by decide), e 19 (by decide) (by decide), e 20 (by decide) (by decide), e 21 (by decide) (by decide), e 22 (by decide) (by decide), e 23 (by decide) (by decide), e 24 (by decide) (by decide)]
      exact h'
    have hrel2 : Rel t σ (xu (xu (xu σ1 25 0 v) 14 0 0) 14 0 0) := hrel
    have hroom : rRo (xu (xu (xu σ1 25 0 v) 14 0 0) 14 0 0) m = nI a := by
      rcases room_eq hrel2 hm1 hm with ⟨q, _⟩ | ⟨a', _, q, q2, _⟩
      · rw [r1] at q; exact absurd q (nI_m1 (by omega))
      · rw [q2, ← q, r1]
    have hbt : rBoT (xu (xu (xu σ1 25 0 v) 14 0 0) 14 0 0) (nI b) (nI m) m = T := by
      have e24 : xu (xu (xu σ1 25 0 v) 14 0 0) 14 0 0 24 b = σ 5 b := congrFun hrel2.eq.2.2.2.2.2.1 b
      rw [rBoT, hroom, xa, htk _ hrel2, xb, e24, ← hτ0, hT]
    have cl : ∀ k, k < 14 → ρ k = σ1 k := fun k hk => by
      rw [hρ, xu_other (by omega), z5 k (Or.inl hk), hτ0, xu_other (by omega), xu_other (by omega), xu_other (by omega), xu_other (by omega)]
    have c06 : ∀ k, k < 7 → ¬ k = 5 → ¬ k = 6 → ρ k = σ k := fun k hk h5 h6 => by
      rw [cl k (by omega), z3 k (Or.inl hk), hρ0, xu_other (by omega), xup_ne h6, xu_other h5]
    have c5 : ρ 5 = s5' := by rw [cl 5 (by decide), z3 5 (by decide), hρ0, hs5]; rfl
    have c6 : ρ 6 = g := by rw [cl 6 (by decide), z3 6 (by decide), hρ0]; rfl
    have m20 : ∀ k, 19 < k → ¬ k = 24 → ¬ k = 25 → ρ k = σ k := fun k k1 k2 k3 => by
      rw [hρ, xu_other (by omega), z5 k (Or.inr k1)]; exact t0 k (by omega) (by omega) k2 k3
    have m24 : ρ 24 = s5' := by
      rw [hρ, xu_other (by decide), z5 24 (by decide), hτ0, hs5]
      show (fun j => if j = b then σ 5 b - kk else σ1 24 j) = _
      rw [fk 24 (by decide), show σ 24 = σ 5 from (Rel.eq h).2.2.2.2.2.1, Int32.sub_eq_add_neg]
    have mk : ∀ k, 14 < k → k < 20 → ρ k = T k := fun k k1 k2 => by rw [hρ, xu_other (by omega)]
    have n5b : s5' b = σ 5 b + -kk := by rw [hs5]; simp
    have n5n : ∀ j, ¬ j = b → s5' j = σ 5 j := fun j hj => by rw [hs5]; simp [hj]
    have enk : (-kk).toInt = -kk.toInt := tiN (by omega)
    have e5i : (σ 5 b + -kk).toInt = (σ 5 b).toInt - kk.toInt := by
      rw [tiA (by rw [enk]; omega) (by rw [enk]; omega), enk]; omega
    have hu := uadd hTI (Rel.li h) (Rel.ui h) hb tb (n := nI m - kk) ⟨by omega, by omega⟩ (Or.inr (by rw [← hV]; exact hV2)) (s5' := s5') (s9' := σ1 9) (fun c hc tc => by
      have h9 : ow (ρ0 9) c = ow (σ 9) c := by rw [hρ0]; rfl
      have := z2 c hc
      rw [h9] at this
      unfold wt
      rw [this, hnk]
      by_cases e : c = b
      · subst e; rw [if_pos rfl, if_pos rfl, n5b, e5i]; omega
      · rw [if_neg e, if_neg e, n5n c e]; omega) (fun c hc tc => by
      by_cases e : c = b
      · subst e; rw [n5b, e5i]; omega
      · rw [n5n c e]; exact (Rel.li h c hc tc).1)
    rw [← hg] at hu
    refine Or.inr ⟨v, σ1, ρ, hcl, hrel, fun c => ?_, ?_, ?_, ?_⟩
    · rw [hro _ hrel, rBo1, htk _ hrel2, hrf _ hrel2, hroom, if_neg (fun hh => by
        rcases hh with ⟨_, hh⟩ | hh
        · exact hng hh
        · exact hh (nI_pos' (by omega))), hbt, xa, hρ, hv, w2]
    · rw [hρ]
      show T 14 0 = 0
      rw [z8, hτ0]; rfl
    · rw [hρ, xu_other (by decide), z5 25 (by decide), hτ0]; rfl
    · have hEQ : EQ ρ ρ := by
        refine ⟨?_, ?_, ?_, ?_, ?_, ?_, ?_, ?_⟩
        · rw [mk 15 (by decide) (by decide), cl 9 (by decide)]; exact w1
        · rw [mk 16 (by decide) (by decide), cl 8 (by decide)]; exact w2
        · rw [mk 19 (by decide) (by decide), cl 11 (by decide)]; exact w3
        · rw [m20 21 (by decide) (by decide) (by decide), c06 3 (by decide) (by decide) (by decide)]; exact (Rel.eq h).2.2.2.1
        · rw [m20 22 (by decide) (by decide) (by decide), c06 4 (by decide) (by decide) (by decide)]; exact (Rel.eq h).2.2.2.2.1
        · rw [m24, c5]
        · rw [c06 0 (by decide) (by decide) (by decide), hρ]
          show T 14 13 = _
          rw [z7, t14 13 (by decide)]; exact (Rel.eq h).2.2.2.2.2.2.1
        · rw [cl 7 (by decide), hρ]
          show T 14 6 + 1 = _
          rw [w4]
      have hRC : RC ρ ρ := by
        refine ⟨hEQ, ?_, ?_, ?_, ?_, ?_, ?_, ?_, ?_⟩
        · rw [c06 2 (by decide) (by decide) (by decide), m20 20 (by decide) (by decide) (by decide), m20 23 (by decide) (by decide) (by decide)]; exact Rel.tm h
        · rw [c06 2 (by decide) (by decide) (by decide), c06 3 (by decide) (by decide) (by decide)]; exact hTI
        · rw [c06 2 (by decide) (by decide) (by decide)]; exact Rel.si h
        · rw [c06 2 (by decide) (by decide) (by decide), c06 4 (by decide) (by decide) (by decide), c5, c6]; exact hu.2
        · rw [c06 2 (by decide) (by decide) (by decide), c06 3 (by decide) (by decide) (by decide), c5, c6, cl 9 (by decide)]; exact hu.1
        · rw [c06 2 (by decide) (by decide) (by decide), cl 9 (by decide)]; exact w5
        · rw [cl 8 (by decide), cl 9 (by decide)]; exact w6
        · rw [cl 9 (by decide), cl 10 (by decide), mk 17 (by decide) (by decide)]; exact w7
      refine RC.rel hRC ?_ ⟨L', ?_⟩
      · rw [c06 2 (by decide) (by decide) (by decide), c06 3 (by decide) (by decide) (by decide), c5]
        intro c hc h2c
        have := Rel.di h c hc h2c
        have ec : ¬ c = b := fun e => by subst e; rw [hl] at h2c; exact absurd h2c (by decide)
        exact ⟨by rw [n5n c ec]; exact this.1, this.2⟩
      · rw [cl 9 (by decide), cl 12 (by decide), mk 18 (by decide) (by decide), cl 7 (by decide)]
        have e147 : ρ 14 7 = T 14 7 := by rw [hρ]; rfl
        rw [e147]
        obtain ⟨o1, o2, o3, o4, o5, o6, o7⟩ := w8
        exact ⟨o1, o2, o3, o4, o5, o6, by omega⟩
theorem buy_pre (h : Inv t σ) : ∃ l : Nat, σ 7 6 = nI l ∧ ∀ m : Nat, 1 ≤ m → m ≤ 16 → ¬ sLf σ (nI m) = -1 → ∃ a, sLf σ (nI m) = nI a ∧ a + m ≤ 192 ∧ l + m ≤ 192 := by
  obtain ⟨L, hL, hoo⟩ := OLL.ok (Rel.ol h)
  refine ⟨L.length, hL.1, fun m hm1 hm hn => ?_⟩
  rcases room_eq (τ := σ) h hm1 hm with ⟨q, _⟩ | ⟨a, ha, q, _, hW⟩
  · exact absurd q hn
  · exact ⟨a, q, ha, room_len hL ha hW⟩
theorem s_buy (x : Int32) (ht : t < 512) (h : Inv t σ) : xStp E (Inv (t + 1)) i_B_buy 9 i_M_buy 6 [eI, eS, eU] xV1 [.int x] σ := by
  obtain ⟨l, hl6, hpre⟩ := buy_pre h
  have hC : XC E i_B_buy 9 0 0 [.ref (xB E + 0), .int x] (xm σ) (xfn (cBuy σ x)) := c_B_buy h.pok hl6 (hpre 1 (by decide) (by decide))
  by_cases hB : tBk σ x = false
  · exact stp_thr hC (by rw [cBuy, if_pos hB]) (c_M_buy (Rel.rok h)) (by rw [rBuy, if_pos (bz0 ((Rel.bk h x).trans hB))]) (by simp) (show (1 : Int32) = hf [eI, eS, eU] 1 eI by decide) (by decide) trivial (h.c 1)
  have hB' := bf hB
  obtain ⟨b, hb, rfl, tb⟩ := tBk_iff.mp hB'
  have xb : xn (nI b) = b := xn_nI (by omega)
  by_cases hl : ¬ σ 2 b = 0
  · have h23 : xu σ 14 0 0 23 b = σ 2 b := (Rel.tm h).st hb tb
    exact stp_thr (v := 0) (σ1 := σ) (ρ := xu (xu σ 14 0 0) 14 0 2) hC (by rw [cBuy, if_neg hB, xb, if_pos hl]) (c_M_buy (Rel.rok h)) (by rw [rBuy, if_neg (bz1 ((Rel.bk h _).trans hB')), rBo, xb, h23, if_pos (bz0 (by simpa using hl))]) (by simp) (show (2 : Int32) = hf [eI, eS, eU] 1 eS by decide) (by decide) trivial (Rel.up h)
  have hl' : σ 2 b = 0 := Classical.not_not.mp hl
  rcases bought_sim h hb tb hl' (m := 1) (by decide) (by decide) ht with ⟨V, q1, q2⟩ | ⟨v, σ1, ρ, q1, q2, q3, q4, q5, q6⟩
  · have hτ : Rel t σ (xu σ 0 2 V) := h
    exact stp_thr (v := 0) (σ1 := xu σ 0 2 V) (ρ := xu (xu (xu (xu (xu σ 0 2 V) 14 0 0) 14 0 0) 14 13 V) 14 0 (2 + 1)) hC (by rw [cBuy, if_neg hB, xb, if_neg hl, q1]) (c_M_buy (Rel.rok hτ)) (by rw [rBuy, if_neg (bz1 ((Rel.bk hτ _).trans hB')), q2]) (by simp) (show (2 + 1 : Int32) = hf [eI, eS, eU] 1 eU by decide) (by decide) trivial (h.refuse2 _ V)
  · exact stp_ok hC (by rw [cBuy, if_neg hB, xb, if_neg hl, q1]) (c_M_buy (Rel.rok q2)) (by rw [rBuy, if_neg (bz1 ((Rel.bk q2 _).trans hB')), q3]) q4 q5 trivial q6
theorem s_buyRun (x y : Int32) (ht : t < 512) (h : Inv t σ) : xStp E (Inv (t + 1)) i_B_buyRun 9 i_M_buyRun 6 [eI, eA, eS, eU] xV1 [.int x, .int y] σ := by
  obtain ⟨l, hl6, hpre⟩ := buy_pre h
  have hC : XC E i_B_buyRun 9 0 0 [.ref (xB E + 0), .int x, .int y] (xm σ) (xfn (cBuyRun σ x y)) := c_B_buyRun h.pok hl6 hpre
  by_cases hB : tBk σ x = false
  · exact stp_thr hC (by rw [cBuyRun, if_pos hB]) (c_M_buyRun (Rel.rok h)) (by rw [rBuyRun, if_pos (bz0 ((Rel.bk h x).trans hB))]) (by simp) (show (1 : Int32) = hf [eI, eA, eS, eU] 1 eI by decide) (by decide) trivial (h.c 1)
  have hB' := bf hB
  have hin : rIn y 1 16 = true ↔ ¬ y < 1 ∧ ¬ (16 : Int32) < y := by
    rw [rIn_iff, Int32.lt_iff_toInt_lt, Int32.lt_iff_toInt_lt]; omega
  by_cases hy0 : y < 1
  · exact stp_thr hC (by rw [cBuyRun, if_neg hB, if_pos hy0]) (c_M_buyRun (Rel.rok h)) (by rw [rBuyRun, if_neg (bz1 ((Rel.bk h x).trans hB')), if_pos (bz0 (by cases hh : rIn y 1 16; rfl; exact absurd hy0 (hin.mp hh).1))]) (by simp) (show (2 : Int32) = hf [eI, eA, eS, eU] 1 eA by decide) (by decide) trivial (h.c 2)
  by_cases hy1 : (16 : Int32) < y
  · exact stp_thr hC (by rw [cBuyRun, if_neg hB, if_neg hy0, if_pos hy1]) (c_M_buyRun (Rel.rok h)) (by rw [rBuyRun, if_neg (bz1 ((Rel.bk h x).trans hB')), if_pos (bz0 (by cases hh : rIn y 1 16; rfl; exact absurd hy1 (hin.mp hh).2))]) (by simp) (show (2 : Int32) = hf [eI, eA, eS, eU] 1 eA by decide) (by decide) trivial (h.c 2)
  have hi := hin.mpr ⟨hy0, hy1⟩
  obtain ⟨m, hm1, hm, rfl⟩ : ∃ m, 1 ≤ m ∧ m ≤ 16 ∧ y = nI m := by
    have e1 : (1 : Int32).toInt = 1 := by decide
    have e16 : (16 : Int32).toInt = 16 := by decide
    rw [Int32.lt_iff_toInt_lt, e1] at hy0
    rw [Int32.lt_iff_toInt_lt, e16] at hy1
    obtain ⟨j, hj, rfl⟩ := nI_of (x := y) (by rw [Int32.lt_iff_toInt_lt, show (0 : Int32).toInt = 0 by decide]; omega)
    rw [nI_toInt hj] at hy0 hy1
    exact ⟨j, by omega, by omega, rfl⟩
  have xm_ : xn (nI m) = m := xn_nI (by omega)
  obtain ⟨b, hb, rfl, tb⟩ := tBk_iff.mp hB'
  have xb : xn (nI b) = b := xn_nI (by omega)
  by_cases hl : ¬ σ 2 b = 0
  · have h23 : xu σ 14 0 0 23 b = σ 2 b := (Rel.tm h).st hb tb
    exact stp_thr (v := 0) (σ1 := σ) (ρ := xu (xu σ 14 0 0) 14 0 3) hC (by rw [cBuyRun, if_neg hB, if_neg hy0, if_neg hy1, xb, if_pos hl]) (c_M_buyRun (Rel.rok h)) (by rw [rBuyRun, if_neg (bz1 ((Rel.bk h _).trans hB')), if_neg (bz1 hi), xm_, rBo, xb, h23, if_pos (bz0 (by simpa using hl))]) (by simp) (show (3 : Int32) = hf [eI, eA, eS, eU] 1 eS by decide) (by decide) trivial (Rel.up h)
  have hl' : σ 2 b = 0 := Classical.not_not.mp hl
  rcases bought_sim h hb tb hl' hm1 hm ht with ⟨V, q1, q2⟩ | ⟨v, σ1, ρ, q1, q2, q3, q4, q5, q6⟩
  · have hτ : Rel t σ (xu σ 0 2 V) := h
    exact stp_thr (v := 0) (σ1 := xu σ 0 2 V) (ρ := xu (xu (xu (xu (xu σ 0 2 V) 14 0 0) 14 0 0) 14 13 V) 14 0 (3 + 1)) hC (by rw [cBuyRun, if_neg hB, if_neg hy0, if_neg hy1, xb, if_neg hl, q1]) (c_M_buyRun (Rel.rok hτ)) (by rw [rBuyRun, if_neg (bz1 ((Rel.bk hτ _).trans hB')), if_neg (bz1 hi), xm_, q2]) (by simp) (show (3 + 1 : Int32) = hf [eI, eA, eS, eU] 1 eU by decide) (by decide) trivial (h.refuse2 _ V)
  · exact stp_ok hC (by rw [cBuyRun, if_neg hB, if_neg hy0, if_neg hy1, xb, if_neg hl, q1]) (c_M_buyRun (Rel.rok q2)) (by rw [rBuyRun, if_neg (bz1 ((Rel.bk q2 _).trans hB')), if_neg (bz1 hi), xm_, q3]) q4 q5 trivial q6
end Buy
