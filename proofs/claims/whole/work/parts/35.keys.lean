/-! keys, and a call of the class beside the reference's -/
theorem tnat_int (x : Int32) : (x.toBitVec.toNat : Int) = if 0 ≤ x.toInt then x.toInt else x.toInt + 4294967296 := by
  have h : x.toInt = x.toBitVec.toInt := rfl
  have h2 := x.toBitVec.isLt
  rw [h, BitVec.toInt_eq_toNat_cond]
  split <;> split <;> omega
theorem rPl_i (k : Int32) : (rPl k).toInt = k.toInt % 1024 / 2 := by
  have e1 : (k >>> (1 &&& 31)).toInt = k.toInt / 2 := by
    rw [pk_shr k (1 &&& 31) 1 (by decide), Int.shiftRight_eq_div_pow]; rfl
  have h := tnat_int (k >>> (1 &&& 31))
  rw [rPl, pk_and (k >>> (1 &&& 31)) (m := 511) 9 (by decide), nI_toInt (by omega)]
  rw [e1] at h
  have hb := xrg k
  split at h <;> omega
theorem rPl_eq (k : Int32) : rPl k = bPl k := by rw [ti_eq, rPl_i, bPl_i]
theorem shr10 (k : Int32) : k >>> (10 &&& 31) = bVe k := by
  rw [ti_eq, bVe_i, pk_shr k (10 &&& 31) 10 (by decide), Int.shiftRight_eq_div_pow]; rfl
theorem bPl_nI (k : Int32) : ∃ p, p < 512 ∧ bPl k = nI p := by
  have h := bPl_i k
  obtain ⟨j, hj, e⟩ := nI_of (bPl_nn k)
  refine ⟨j, ?_, e⟩
  rw [e, nI_toInt hj] at h
  omega
theorem wk_eq (k : Int32) : rWk k = !bStrong k := by
  obtain ⟨j, hj, e⟩ := pk_andE k (m := 1) 1 (by decide)
  rw [rWk, bStrong, e]
  have : j = 0 ∨ j = 1 := by omega
  rcases this with rfl | rfl <;> decide
theorem nI_192 {p : Nat} (hp : p < 512) : (192 : Int32) ≤ nI p ↔ 192 ≤ p := by
  rw [show (192 : Int32) = nI 192 from rfl]
  exact nI_leI (by decide) (by omega)
section Keys
variable {t : Nat} {σ τ : xS}
theorem bAl_iff (hO : OI (σ 2) (σ 9)) {k : Int32} : bAl σ k = true ↔ ∃ p b, p < 192 ∧ bPl k = nI p ∧ b < 40 ∧ σ 9 p = nI b ∧ thr (σ 2) b = true ∧ σ 8 p = bVe k ∧ ¬ σ 2 b = 2 := by
  obtain ⟨p, hp, e⟩ := bPl_nI k
  have hx : xn (nI p) = p := xn_nI (by omega)
  rw [bAl, sHas, e, hx]
  constructor
  · intro h
    simp only [Bool.and_eq_true, Bool.not_eq_true', decide_eq_false_iff_not, beq_iff_eq, nI_192 hp] at h
    obtain ⟨⟨⟨h1, h2⟩, h3⟩, h4⟩ := h
    have hp' : p < 192 := by omega
    rcases hO p hp' with e9 | ⟨b, hb, e9, tb⟩
    · simp [sTk, e9] at h2
    · refine ⟨p, b, hp', rfl, hb, e9, tb, h3, ?_⟩
      rw [e9, tDy, xn_nI (by omega)] at h4
      simpa using h4
  · rintro ⟨q, b, hq, eq, hb, e9, tb, h3, h4⟩
    have : p = q := (nI_eq (by omega) (by omega)).mp eq
    subst this
    simp only [Bool.and_eq_true, Bool.not_eq_true', decide_eq_false_iff_not, beq_iff_eq, nI_192 hp]
    refine ⟨⟨⟨by omega, ?_⟩, h3⟩, ?_⟩
    · rw [sTk, e9]
      have := nI_m1 (show b < 2 ^ 31 by omega)
      simp [this]
    · rw [e9, tDy, xn_nI (by omega)]
      simpa using h4
theorem rLv_eq (hE : EQ σ τ) (hM : TMr (σ 2) (τ 20) (τ 23)) (hO : OI (σ 2) (σ 9)) (hV : VI (σ 8) (σ 9)) (k : Int32) : rLv τ k = bAl σ k := by
  have h : rLv τ k = true ↔ bAl σ k = true := by
    rw [bAl_iff hO]
    obtain ⟨p, hp, e⟩ := bPl_nI k
    have hx : xn (nI p) = p := xn_nI (by omega)
    rw [rLv, rPl_eq, e, hx, hE.1, hE.2.1, shr10]
    simp only [Bool.and_eq_true, Bool.not_eq_true', decide_eq_false_iff_not, beq_iff_eq, nI_192 hp]
    constructor
    · rintro ⟨⟨⟨⟨h1, h2⟩, h3⟩, h4⟩, h5⟩
      have hp' : p < 192 := by omega
      rcases hO p hp' with e9 | ⟨b, hb, e9, tb⟩
      · rw [e9] at h3; exact absurd (by decide) h3
      · refine ⟨p, b, hp', rfl, hb, e9, tb, h4, ?_⟩
        rw [e9, xn_nI (by omega), hM.st hb tb] at h5
        simpa using h5
    · rintro ⟨q, b, hq, eq, hb, e9, tb, h3, h4⟩
      have : p = q := (nI_eq (by omega) (by omega)).mp eq
      subst this
      have hv := (hV p hq).2.2 (by rw [e9]; exact nI_m1 (by omega))
      refine ⟨⟨⟨⟨?_, by omega⟩, ?_⟩, h3⟩, ?_⟩
      · rw [h3, bVe_i] at hv
        rw [Int32.le_iff_toInt_le]
        have : (0 : Int32).toInt = 0 := by decide
        omega
      · rw [e9]; exact nI_pos (by omega)
      · rw [e9, xn_nI (by omega), hM.st hb tb]
        simpa using h4
  cases h1 : rLv τ k <;> cases h2 : bAl σ k <;> simp_all
theorem Rel.up (h : Rel t σ τ) : Rel (t + 1) σ τ := by
  obtain ⟨h1, h2, h3, h4, h5, h6, h7, h8, h9, h10, L, a1, a2, a3, a4, a5, a6, a7⟩ := h
  exact ⟨h1, h2, h3, h4, h5, h6, h7, h8, h9, h10, L, a1, a2, a3, a4, a5, a6, by omega⟩
end Keys
def Inv (t : Nat) (σ : xS) : Prop := Rel t σ σ
section Stp
variable {E : xE} {I : xS → Prop} {iB iM : xMI} {dB dM : Nat} {exs : List String} {V : Int32 → Prop} {as : List Value} {σ σ1 ρ : xS} {r : xO × xS} {q : Int32 × xS} {v : Int32} {X : String}
theorem stp_ok (h1 : XC E iB dB 0 0 (.ref (xB E + 0) :: as) (xm σ) (xfn r)) (hr : r = (rI v, σ1)) (h5 : XC E iM dM 0 0 (.ref (xB E + 14) :: as) (xm (xu σ1 25 0 v)) (xrn q)) (hq : q = (v, ρ)) (h0 : ρ 14 0 = 0) (h25 : ρ 25 0 = v) (hV : V v) (hI : I ρ) : xStp E I iB dB iM dM exs V as σ := by
  subst hr; subst hq
  refine ⟨_, _, h1, (fun X h => by cases h), (fun u h => ⟨v, (by cases h; rfl), hV⟩), hV, h5, h0, fun _ => h25, hI⟩
theorem stp_thr (h1 : XC E iB dB 0 0 (.ref (xB E + 0) :: as) (xm σ) (xfn r)) (hr : r = (.inr X, σ1)) (h5 : XC E iM dM 0 0 (.ref (xB E + 14) :: as) (xm σ1) (xrn q)) (hq : q = (v, ρ)) (hX : X ∈ exs) (h0 : ρ 14 0 = hf exs 1 X) (hn : ¬ hf exs 1 X = 0) (hV : V v) (hI : I ρ) : xStp E I iB dB iM dM exs V as σ := by
  subst hr; subst hq
  refine ⟨_, _, h1, (fun Y h => by cases h; exact hX), (fun u h => by cases h), hV, h5, h0, fun h => absurd (h0.symm.trans h) hn, hI⟩
end Stp
