/-! astray -/
section Astray
variable {E : xE} {t : Nat} {σ σ' τ τ' : xS}
theorem Rel.rows2 (h : Rel t σ τ) (e : ∀ k, 13 < k → k < 25 → τ' k = τ k) (e' : ∀ k, k < 13 → σ' k = σ k) : Rel t σ' τ' := by
  unfold Rel EQ at h ⊢
  rw [e 14 (by decide) (by decide), e 15 (by decide) (by decide), e 16 (by decide) (by decide), e 17 (by decide) (by decide), e 18 (by decide) (by decide), e 19 (by decide) (by decide), e 20 (by decide) (by decide), e 21 (by decide) (by decide), e 22 (by decide) (by decide), e 23 (by decide) (by decide), e 24 (by decide) (by decide)]
  rw [e' 0 (by decide), e' 2 (by decide), e' 3 (by decide), e' 4 (by decide), e' 5 (by decide), e' 6 (by decide), e' 7 (by decide), e' 8 (by decide), e' 9 (by decide), e' 10 (by decide), e' 11 (by decide), e' 12 (by decide)]
  exact h
/-- the listings, counted -/
theorem co_list : ∀ (l : List Nat) (i : Nat) (ρ : xS), (∀ j p, l[j]? = some p → ρ 12 (i + j) = nI p) → (∀ p, p ∈ l → p < 192) → l.Pairwise (fun a b => ¬ a = b) → ∀ p, sCoF l.length i ρ 13 p = if p ∈ l then ρ 13 p + 1 else ρ 13 p := by
  intro l
  induction l with
  | nil => intro i ρ _ _ _ p; simp [sCoF]
  | cons a l ih =>
    intro i ρ h1 h2 h3 p
    have ha := h1 0 a (by simp)
    rw [Nat.add_zero] at ha
    have ha2 := h2 a List.mem_cons_self
    have h3' := List.pairwise_cons.mp h3
    obtain ⟨ρ1, e1⟩ : ∃ ρ1, ρ1 = xu ρ 13 a (ρ 13 a + 1) := ⟨_, rfl⟩
    have es : sCoF (a :: l).length i ρ = sCoF l.length (i + 1) ρ1 := by
      rw [List.length_cons, sCoF, ha, xn_nI (by omega), e1]
    have r12 : ρ1 12 = ρ 12 := by rw [e1]; rfl
    have r13 : ∀ q, ρ1 13 q = if q = a then ρ 13 a + 1 else ρ 13 q := fun q => by rw [e1]; rfl
    rw [es, ih (i + 1) ρ1 (fun j q hq => by
      have := h1 (j + 1) q (by simpa using hq)
      rw [r12, show i + 1 + j = i + (j + 1) by omega]; exact this) (fun q hq => h2 q (List.mem_cons_of_mem _ hq)) h3'.2 p, r13 p]
    by_cases e : p = a
    · subst e
      rw [if_neg (fun hh => h3'.1 p hh rfl), if_pos rfl, if_pos List.mem_cons_self]
    · rw [if_neg e]
      by_cases hm : p ∈ l
      · rw [if_pos hm, if_pos (List.mem_cons_of_mem _ hm)]
      · rw [if_neg hm, if_neg (fun hh => (List.mem_cons.mp hh).elim e hm)]
/-- what a bank uses: its own, and what its banks use -/
theorem use_kids {s2 s3 s5 s9 : Nat → Int32} (hT : TI s2 s3) {b : Nat} (hb : b < 40) (tb : thr s2 b = true) : usum s2 s3 s5 s9 b = wt s5 s9 b + xsum (fun d => if thr s2 d && (s3 d == nI b) then usum s2 s3 s5 s9 d else 0) 40 := by
  have hTa := hT.1
  have kid : ∀ d, d < 40 → ((thr s2 d && (s3 d == nI b)) = true ↔ thr s2 d = true ∧ ¬ d = 0 ∧ Pn s3 d = b) := fun d hd => by
    rw [Bool.and_eq_true, beq_iff_eq]
    constructor
    · rintro ⟨td, e⟩
      have d0 : ¬ d = 0 := fun e0 => by
        rw [e0, hT.2.1] at e
        exact nI_m1 (show b < 2 ^ 31 by omega) e.symm
      exact ⟨td, d0, by rw [Pn, e, xn_nI (by omega)]⟩
    · rintro ⟨td, d0, e⟩
      exact ⟨td, by rw [hT.2.2.1 d hd td d0, e]⟩
  have e1 : xsum (fun d => if thr s2 d && (s3 d == nI b) then usum s2 s3 s5 s9 d else 0) 40 = xsum (fun d => xsum (fun c => if (thr s2 d && (s3 d == nI b)) && (thr s2 c && A (Pn s3) c d) then wt s5 s9 c else 0) 40) 40 := xsum_congr fun d hd => by
    cases hk : thr s2 d && (s3 d == nI b)
    · rw [show xsum (fun c => if false && (thr s2 c && A (Pn s3) c d) then wt s5 s9 c else 0) 40 = xsum (fun _ => 0) 40 from xsum_congr fun c _ => by simp, xsum_0]
      simp
    · rw [if_pos rfl, usum]
      exact xsum_congr fun c _ => by simp
  rw [e1, xsum_swap]
  have e2 : wt s5 s9 b = xsum (fun c => if c = b then wt s5 s9 b else 0) 40 := by
    rw [xsum_at (f := fun c => if c = b then wt s5 s9 b else 0) (k := b) hb (fun i _ hi => by simp [hi])]; simp
  rw [e2, ← xsum_add, usum]
  refine xsum_congr fun c hc => ?_
  cases tc : thr s2 c
  · have cb : ¬ c = b := fun e => by rw [e, tb] at tc; cases tc
    rw [show xsum (fun d => if (thr s2 d && (s3 d == nI b)) && (false && A (Pn s3) c d) then wt s5 s9 c else 0) 40 = xsum (fun _ => 0) 40 from xsum_congr fun d _ => by simp, xsum_0]
    simp [cb]
  · by_cases cb : c = b
    · subst cb
      rw [show xsum (fun d => if (thr s2 d && (s3 d == nI c)) && (true && A (Pn s3) c d) then wt s5 s9 c else 0) 40 = xsum (fun _ => 0) 40 from xsum_congr fun d hd => by
        cases hk : thr s2 d && (s3 d == nI c)
        · simp
        · obtain ⟨k1, k2, k3⟩ := (kid d hd).mp hk
          have := A_up hTa hd k1 k2
          rw [k3] at this
          simp [this], xsum_0]
      simp [A_self]
    · rw [if_neg cb]
      cases hA : A (Pn s3) c b
      · rw [show xsum (fun d => if (thr s2 d && (s3 d == nI b)) && (true && A (Pn s3) c d) then wt s5 s9 c else 0) 40 = xsum (fun _ => 0) 40 from xsum_congr fun d hd => by
          cases hk : thr s2 d && (s3 d == nI b)
          · simp
          · obtain ⟨k1, k2, k3⟩ := (kid d hd).mp hk
            have hdb : A (Pn s3) d b = true := by rw [A_eq hTa hd k1, k3]; simp [k2, A_self]
            cases hcd : A (Pn s3) c d
            · simp
            · have := A_trans hTa d b hdb c hc tc hcd
              rw [hA] at this; exact absurd this (by decide), xsum_0]
        simp
      · obtain ⟨d, d1, d2, d3, d4, d5⟩ := A_child hTa c hc tc hA cb
        rw [xsum_at (f := fun d => if (thr s2 d && (s3 d == nI b)) && (true && A (Pn s3) c d) then wt s5 s9 c else 0) (k := d) d1 (fun i hi hid => by
          cases hk : thr s2 i && (s3 i == nI b)
          · simp
          · obtain ⟨k1, k2, k3⟩ := (kid i hi).mp hk
            cases hci : A (Pn s3) c i
            · simp
            · exact absurd (A_child1 hTa hi k1 k2 d1 d2 d3 (k3.trans d4.symm) c hc tc hci d5) hid)]
        have hk := (kid d d1).mpr ⟨d2, d3, d4⟩
        simp [hk, d5]
theorem stray_no (h : Inv t σ) {b : Nat} (hb : b < 40) (tb : thr (σ 2) b = true) : tStray σ (nI b) (nI (sOwn σ (nI b))) = false := by
  have hT : TI (σ 2) (σ 3) := Rel.ti h
  have hL : LI (σ 2) (σ 4) (σ 5) (σ 6) := Rel.li h
  have hU : UI (σ 2) (σ 3) (σ 5) (σ 6) (σ 9) := Rel.ui h
  have xb : xn (nI b) = b := xn_nI (by omega)
  obtain ⟨g, hg⟩ : ∃ g : Nat → Int, g = fun d => if thr (σ 2) d && (σ 3 d == nI b) then (σ 6 d).toInt else 0 := ⟨_, rfl⟩
  have gb : ∀ d, d < 40 → 0 ≤ g d ∧ g d ≤ 192 := fun d hd => by
    rw [hg]
    show 0 ≤ (if thr (σ 2) d && (σ 3 d == nI b) then (σ 6 d).toInt else 0) ∧ (if thr (σ 2) d && (σ 3 d == nI b) then (σ 6 d).toInt else 0) ≤ 192
    cases td : thr (σ 2) d
    · simp
    · have h1 := use_nn hL hU hd td
      have h2 := use_le hL hd td
      cases σ 3 d == nI b
      · simp
      · simp only [Bool.true_and, if_pos]; exact ⟨h1, h2⟩
  have gs : ∀ c, c ≤ 40 → 0 ≤ xsum g c ∧ xsum g c ≤ 192 * (c : Int) := by
    intro c
    induction c with
    | zero => intro _; simp [xsum]
    | succ c ih =>
      intro hc
      have h1 := ih (by omega)
      have h2 := gb c (by omega)
      simp only [xsum]
      omega
  have hor := own_res hL hU hb tb
  have hol := ow_le (σ 9) b
  have key : ∀ f i (s : Int32), i + f = 40 → s.toInt = wt (σ 5) (σ 9) b + xsum g i → (tChF σ (nI b) f i s).toInt = wt (σ 5) (σ 9) b + xsum g 40 := by
    intro f
    induction f with
    | zero =>
      intro i s hi hs
      have : i = 40 := by omega
      subst this
      exact hs
    | succ f ih =>
      intro i s hi hs
      rw [tChF]
      refine ih (i + 1) _ (by omega) ?_
      have h1 := gs i (by omega)
      have h2 := gb i (by omega)
      have h3 : xsum g (i + 1) = xsum g i + g i := rfl
      have hgi : g i = if thr (σ 2) i && (σ 3 i == nI b) then (σ 6 i).toInt else 0 := by rw [hg]
      rw [wt] at hs ⊢
      rw [tBk_thr (by omega : i < 40), h3]
      by_cases e : thr (σ 2) i = true ∧ σ 3 i = nI b
      · have : g i = (σ 6 i).toInt := by rw [hgi]; simp [e.1, e.2]
        rw [if_pos e, tiA (by rw [hs, ← this]; omega) (by rw [hs, ← this]; omega), hs, ← this]; omega
      · have : g i = 0 := by
          rw [hgi]
          exact if_neg (fun q => e (by simpa using q))
        rw [if_neg e, this, hs]; omega
  have eo : (nI (sOwn σ (nI b))).toInt = (ow (σ 9) b : Int) := nI_toInt (by show ow (σ 9) b < _; omega)
  have k0 := key 40 0 (nI (sOwn σ (nI b)) + σ 5 b) rfl (by
    rw [tiA (by rw [eo]; omega) (by rw [eo]; omega), eo, wt, show xsum g 0 = 0 from rfl]; omega)
  have ks : wt (σ 5) (σ 9) b + xsum g 40 = (σ 6 b).toInt := by
    rw [hU b hb tb, use_kids hT hb tb, hg]
    refine congrArg (fun z : Int => wt (σ 5) (σ 9) b + z) (xsum_congr fun d hd => ?_)
    cases td : thr (σ 2) d
    · simp
    · rw [hU d hd td]
  rw [ks] at k0
  have c1 : tChF σ (nI b) 40 0 (nI (sOwn σ (nI b)) + σ 5 b) = σ 6 b := ti_eq.mpr k0
  have c2 : ¬ σ 4 b < σ 6 b := by
    have := (hL b hb tb).2.1
    rw [Int32.lt_iff_toInt_lt]; omega
  have c3 : tWi σ (nI b) 0 = true := (tWi_eq hT (u := 0) (by decide) hb tb).trans (A_root hT.1 b hb tb)
  rw [tStray, xb, c1, c3]
  simp [c2]
theorem s_astray (h : Inv t σ) : xSt0 E (Inv (t + 1)) i_B_astray 3 i_M_astray 1 [] σ := by
  obtain ⟨L, hL, hoo⟩ := OLL.ok (Rel.ol h)
  obtain ⟨C, hC⟩ : ∃ C, C = cAstrayS σ L.length := ⟨_, rfl⟩
  have Ck : ∀ k, ¬ k = 13 → C k = σ k := fun k hk => by
    rw [hC]
    show sCoF L.length 0 (xfl σ 13 0 192) k = _
    rw [sCoF_other hk, xfl, xup_ne hk]
  have x12 : xfl σ 13 0 192 12 = σ 12 := rfl
  have C13 : ∀ p, p < 192 → C 13 p = if p ∈ L then 0 + 1 else 0 := fun p hp => by
    rw [hC]
    have := co_list L 0 (xfl σ 13 0 192) (fun j q hq => by rw [x12, Nat.zero_add]; exact hL.2.1 j q hq) (fun q hq => ((hL.2.2.1 q).mp hq).1) hL.nd p
    show sCoF L.length 0 (xfl σ 13 0 192) 13 p = _
    rw [this, show xfl σ 13 0 192 13 p = 0 from if_pos hp]
  have z1 : xcn (bSt1 σ) 40 = 0 := xcn_all0 fun b hb => by
    rw [bSt1, tBk_thr hb]
    cases tb : thr (σ 2) b
    · rfl
    · rw [stray_no h hb tb]; rfl
  have z2 : xcn (bSt2 C) 192 = 0 := xcn_all0 fun p hp => by
    rw [bSt2, C13 p hp]
    have hm := hL.2.2.1 p
    have q9 : C 9 = σ 9 := Ck 9 (by decide)
    rw [bWoP, sTk, q9]
    rcases Rel.oi h p hp with e | ⟨b, hb, e, tb⟩
    · have nm : ¬ p ∈ L := fun hh => (hm.mp hh).2 e
      rw [if_neg nm, e]; rfl
    · have n1 := nI_m1 (show b < 2 ^ 31 by omega)
      have ym : p ∈ L := hm.mpr ⟨hp, by rw [e]; exact n1⟩
      have tbk : tBk C (nI b) = true := by rw [tBk_thr hb, Ck 2 (by decide)]; exact tb
      rw [if_pos ym, e, tbk, beq_eq_false_iff_ne.mpr n1]; rfl
  have hz : nI (cAstray σ L.length) = 0 := by
    rw [cAstray, z1]
    show nI (0 + xcn (bSt2 (cAstrayS σ L.length)) 192) = 0
    rw [← hC, z2]; rfl
  refine ⟨0, C, xu C 14 0 0, ?_, c_M_astray, ?_⟩
  · have := c_B_astray (E := E) h.pok hoo
    rw [hz, ← hC] at this
    exact this
  · have hc : Inv (t + 1) (xu σ 14 0 0) := h.c 0
    exact Rel.rows2 hc (fun k k1 k2 => by
      by_cases e : k = 14
      · subst e
        funext i
        rw [xu_at, xu_at, Ck 14 (by decide)]
      · rw [xu_other e, xu_other e, Ck k (by omega)]) (fun k hk => by rw [xu_other (by omega), xu_other (by omega), Ck k (by omega)])
end Astray
