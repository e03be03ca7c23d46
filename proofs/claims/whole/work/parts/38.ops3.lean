/-! bank, told, count -/
section Pure3
variable {P P' : Nat → Nat} {th : Nat → Bool}
theorem ch_cong (hT : TIa th P) (hP : ∀ b, b < 40 → th b = true → ¬ b = 0 → P' b = P b) : ∀ (f b : Nat), b < 40 → th b = true → ch P f b → ch P' f b := by
  intro f
  induction f with
  | zero => intro b _ _ h; exact h
  | succ f ih =>
    intro b hb tb h
    by_cases e : b = 0
    · exact Or.inl e
    · have hp := hT.2.1 b hb tb e
      exact Or.inr (by rw [hP b hb tb e]; exact ih _ hp.1 hp.2 (ch_next h e))
theorem an_cong (hT : TIa th P) (hP : ∀ b, b < 40 → th b = true → ¬ b = 0 → P' b = P b) (u : Nat) : ∀ (f b : Nat), b < 40 → th b = true → an P' f b u = an P f b u := by
  intro f
  induction f with
  | zero => intro b _ _; rfl
  | succ f ih =>
    intro b hb tb
    by_cases e : b = 0
    · subst e; simp [an]
    · have hp := hT.2.1 b hb tb e
      rw [an_s, an_s, hP b hb tb e, ih _ hp.1 hp.2]
end Pure3
section Pure3b
variable {t : Nat} {σ τ : xS}
theorem dep_ch (h : TI (σ 2) (σ 3)) : ∀ (g b k : Nat), b < 40 → thr (σ 2) b = true → ch (Pn (σ 3)) g b → ∃ d, d ≤ g ∧ tDepF σ (g + 1) (σ 3 b) k = k + d ∧ ch (Pn (σ 3)) d b := by
  intro g
  induction g with
  | zero =>
    intro b k hb tb hc
    have : b = 0 := hc
    subst this
    exact ⟨0, Nat.le_refl _, by rw [h.2.1, tDepF, if_pos rfl]; rfl, rfl⟩
  | succ g ih =>
    intro b k hb tb hc
    rcases h.par hb tb with ⟨e0, ep⟩ | ⟨e0, ep, h1, h2⟩
    · exact ⟨0, Nat.zero_le _, by rw [ep, tDepF, if_pos rfl]; rfl, e0⟩
    · obtain ⟨d, hd, e, hc'⟩ := ih (Pn (σ 3) b) (k + 1) h1 h2 (ch_next hc e0)
      refine ⟨d + 1, by omega, ?_, Or.inr hc'⟩
      rw [ep, tDepF, if_neg (nI_m1 (by omega)), xn_nI (by omega), e]
      omega
theorem tDep_ch (h : TI (σ 2) (σ 3)) {b : Nat} (hb : b < 40) (tb : thr (σ 2) b = true) : tDep σ (nI b) ≤ 6 ∧ ch (Pn (σ 3)) (tDep σ (nI b)) b := by
  obtain ⟨d, h1, h2, h3⟩ := dep_ch h 6 b 0 hb tb (h.1.2.2 b hb tb)
  have : tDep σ (nI b) = d := by rw [tDep, xn_nI (by omega), h2]; omega
  rw [this]; exact ⟨h1, h3⟩
theorem rDep_eq (h : Rel t σ τ) {b : Nat} (hb : b < 40) (tb : thr (σ 2) b = true) : rDep τ (nI b) = tDep σ (nI b) := by
  rw [rDep, tDep, h.eq.2.2.2.1, xn_nI (by omega)]
  exact (dep_eq h.ti h.eq.2.2.2.1 7 _ 0 (h.ti.aok hb tb)).symm
theorem lun_eq (hM : TMr (σ 2) (τ 20) (τ 23)) : ∀ (f i : Nat), i + f = 40 → (tLunF σ f i = -1 ∧ rLuF τ f i = 40) ∨ ∃ k, i ≤ k ∧ k < 40 ∧ tLunF σ f i = nI k ∧ rLuF τ f i = k ∧ σ 2 k = 3 := by
  intro f
  induction f with
  | zero => intro i hi; exact Or.inl ⟨rfl, by rw [rLuF]; omega⟩
  | succ f ih =>
    intro i hi
    rw [tLunF, rLuF]
    rcases hM i (by omega) with ⟨a1, a2⟩ | ⟨a1, a2, a3⟩
    · rw [if_pos a2, if_pos a1]
      exact Or.inr ⟨i, Nat.le_refl _, by omega, rfl, rfl, a2⟩
    · rw [if_neg a3, if_neg (by rw [a1]; decide)]
      rcases ih (i + 1) (by omega) with h | ⟨k, h1, h2⟩
      · exact Or.inl h
      · exact Or.inr ⟨k, by omega, h2⟩
theorem sz_eq (h : Rel t σ τ) {u : Nat} (hu : u < 40) : xcn (rTU τ (nI u)) 40 = tSz σ (nI u) := by
  refine xcn_congr fun b hb => ?_
  rw [rTU_eq h.ti h.tm h.eq.2.2.2.1 hu hb]
  have e : tBk σ (nI b) = thr (σ 2) b := by
    cases tb : thr (σ 2) b
    · cases hh : tBk σ (nI b)
      · rfl
      · obtain ⟨c, hc, e, tc⟩ := tBk_iff.mp hh
        have : b = c := (nI_eq (by omega) (by omega)).mp e
        subst this
        rw [tb] at tc; cases tc
    · exact tBk_iff.mpr ⟨b, hb, rfl, tb⟩
  rw [e]
  cases tb : thr (σ 2) b
  · rfl
  · rw [tWi_eq h.ti hu hb tb]
/-- no page of a bank that isn't there -/
theorem ow_absent {s2 s9 : Nat → Int32} (h : OI s2 s9) {k : Nat} (hk : k < 40) (ha : s2 k = 3) : ow s9 k = 0 := by
  refine xcn_all0 fun p hp => ?_
  rcases h p hp with e | ⟨b, hb, e, tb⟩
  · rw [e]
    have := nI_m1 (show k < 2 ^ 31 by omega)
    simpa using fun hh => this hh.symm
  · rw [e]
    have : ¬ nI b = nI k := fun hh => by
      have : b = k := (nI_eq (by omega) (by omega)).mp hh
      subst this
      exact thr_iff.mp tb ha
    simpa using this
/-- a new bank k below a -/
theorem Rel.open_ (h : Rel t σ τ) {k a : Nat} (hk : k < 40) (hk0 : ¬ k = 0) (hka : σ 2 k = 3) (ha : a < 40) (hal : σ 2 a = 0) (hdp : ch (Pn (σ 3)) 5 a) {l : Int32} (hl : 0 ≤ l.toInt ∧ l.toInt ≤ 192) : Rel (t + 1) (tOpen σ (nI k) (nI a) l) (rOpen τ k (nI a) l) := by
  have ho := h.up.ol
  have xk : xn (nI k) = k := xn_nI (by omega)
  have ta : thr (σ 2) a = true := thr_iff.mpr (by rw [hal]; decide)
  have eak : ¬ a = k := fun e => by subst e; rw [hal] at hka; exact absurd hka (by decide)
  obtain ⟨⟨e1, e2, e3, e4, e5, e6, e7, e8⟩, h2, h3, h4, h5, h6, h7, h8, h9, h10, -⟩ := h
  obtain ⟨s2', hs2⟩ : ∃ s : Nat → Int32, s = fun j => if j = k then 0 else σ 2 j := ⟨_, rfl⟩
  obtain ⟨s3', hs3⟩ : ∃ s : Nat → Int32, s = fun j => if j = k then nI a else σ 3 j := ⟨_, rfl⟩
  obtain ⟨s4', hs4⟩ : ∃ s : Nat → Int32, s = fun j => if j = k then l else σ 4 j := ⟨_, rfl⟩
  obtain ⟨s5', hs5⟩ : ∃ s : Nat → Int32, s = fun j => if j = k then 0 else σ 5 j := ⟨_, rfl⟩
  obtain ⟨s6', hs6⟩ : ∃ s : Nat → Int32, s = fun j => if j = k then 0 else σ 6 j := ⟨_, rfl⟩
  have q2 : tOpen σ (nI k) (nI a) l 2 = s2' := by rw [hs2, tOpen, xk]; rfl
  have q3 : tOpen σ (nI k) (nI a) l 3 = s3' := by rw [hs3, tOpen, xk]; rfl
  have q4 : tOpen σ (nI k) (nI a) l 4 = s4' := by rw [hs4, tOpen, xk]; rfl
  have q5 : tOpen σ (nI k) (nI a) l 5 = s5' := by rw [hs5, tOpen, xk]; rfl
  have q6 : tOpen σ (nI k) (nI a) l 6 = s6' := by rw [hs6, tOpen, xk]; rfl
  have k2 : s2' k = 0 := by rw [hs2]; simp
  have n2 : ∀ j, ¬ j = k → s2' j = σ 2 j := fun j hj => by rw [hs2]; simp [hj]
  have k3 : s3' k = nI a := by rw [hs3]; simp
  have n3 : ∀ j, ¬ j = k → s3' j = σ 3 j := fun j hj => by rw [hs3]; simp [hj]
  have k4 : s4' k = l := by rw [hs4]; simp
  have n4 : ∀ j, ¬ j = k → s4' j = σ 4 j := fun j hj => by rw [hs4]; simp [hj]
  have k5 : s5' k = 0 := by rw [hs5]; simp
  have n5 : ∀ j, ¬ j = k → s5' j = σ 5 j := fun j hj => by rw [hs5]; simp [hj]
  have k6 : s6' k = 0 := by rw [hs6]; simp
  have n6 : ∀ j, ¬ j = k → s6' j = σ 6 j := fun j hj => by rw [hs6]; simp [hj]
  have tk : thr s2' k = true := thr_iff.mpr (by rw [k2]; decide)
  have tn : ∀ j, ¬ j = k → thr s2' j = thr (σ 2) j := fun j hj => by rw [thr, thr, n2 j hj]
  have tok : ∀ j, thr (σ 2) j = true → ¬ j = k := fun j hj e => by subst e; exact thr_iff.mp hj hka
  have Pk : Pn s3' k = a := by rw [Pn, k3, xn_nI (by omega)]
  have Pnn : ∀ j, ¬ j = k → Pn s3' j = Pn (σ 3) j := fun j hj => by rw [Pn, Pn, n3 j hj]
  have hPc : ∀ b, b < 40 → thr (σ 2) b = true → ¬ b = 0 → Pn s3' b = Pn (σ 3) b := fun b _ tb _ => Pnn b (tok b tb)
  have hTa : TIa (thr s2') (Pn s3') := by
    refine ⟨by rw [tn 0 (fun e => hk0 e.symm)]; exact h3.1.1, fun b hb tb hb0 => ?_, fun b hb tb => ?_⟩
    · by_cases e : b = k
      · subst e; rw [Pk]; exact ⟨ha, by rw [tn a eak]; exact ta⟩
      · rw [tn b e] at tb
        have := h3.1.2.1 b hb tb hb0
        rw [Pnn b e, tn _ (tok _ this.2)]; exact this
    · by_cases e : b = k
      · subst e
        refine Or.inr ?_
        rw [Pk]
        exact ch_cong h3.1 hPc 5 a ha ta hdp
      · rw [tn b e] at tb
        exact ch_cong h3.1 hPc 6 b hb tb (h3.1.2.2 b hb tb)
  have hAn : ∀ c u, c < 40 → thr (σ 2) c = true → A (Pn s3') c u = A (Pn (σ 3)) c u := fun c u hc tc => an_cong h3.1 hPc u 6 c hc tc
  have hwk : wt s5' (σ 9) k = 0 := by
    rw [wt, ow_absent h8 hk hka, k5]; decide
  have p9 : tOpen σ (nI k) (nI a) l 9 = σ 9 := rfl
  have p12 : tOpen σ (nI k) (nI a) l 12 = σ 12 := rfl
  refine ⟨⟨e1, e2, e3, ?_, ?_, ?_, e7, e8⟩, ?_, ?_, ?_, ?_, ?_, ?_, ?_, h9, h10, ho⟩
  · rw [q3, hs3]
    show (fun j => if j = k then nI a else τ 21 j) = _
    rw [e4]
  · rw [q4, hs4]
    show (fun j => if j = k then l else τ 22 j) = _
    rw [e5]
  · rw [q5, hs5]
    show (fun j => if j = k then 0 else τ 24 j) = _
    rw [e6]
  · rw [q2]
    intro b hb
    show ((if b = k then 1 else τ 20 b) = (0 : Int32) ∧ _) ∨ ((if b = k then 1 else τ 20 b) = (1 : Int32) ∧ (if b = k then 0 else τ 23 b) = _ ∧ _)
    by_cases e : b = k
    · subst e
      rw [if_pos rfl, if_pos rfl, k2]
      exact Or.inr ⟨rfl, rfl, by decide⟩
    · rw [if_neg e, if_neg e, n2 b e]; exact h2 b hb
  · rw [q2, q3]
    refine ⟨hTa, by rw [n3 0 (fun e => hk0 e.symm)]; exact h3.2.1, fun b hb tb hb0 => ?_, fun b hb => ?_⟩
    · by_cases e : b = k
      · subst e; rw [Pk, k3]
      · rw [Pnn b e, n3 b e]; rw [tn b e] at tb; exact h3.2.2.1 b hb tb hb0
    · by_cases e : b = k
      · subst e; rw [k3]; exact Or.inr (vp_in_nI ha (by decide))
      · rw [n3 b e]; exact h3.2.2.2 b hb
  · rw [q2]
    refine ⟨by rw [n2 0 (fun e => hk0 e.symm)]; exact h4.1, fun b hb => ?_⟩
    by_cases e : b = k
    · subst e; rw [k2]; exact Or.inl rfl
    · rw [n2 b e]; exact h4.2 b hb
  · rw [q2, q4, q5, q6]
    intro b hb tb
    by_cases e : b = k
    · subst e; rw [k4, k5, k6]
      have : (0 : Int32).toInt = 0 := by decide
      rw [this]; omega
    · rw [n4 b e, n5 b e, n6 b e]; rw [tn b e] at tb; exact h5 b hb tb
  · rw [q2, q3, q5, q6]
    show UI s2' s3' s5' s6' (σ 9)
    intro b hb tb
    by_cases e : b = k
    · subst e
      rw [k6, usum]
      have : xsum (fun c => if thr s2' c && A (Pn s3') c b then wt s5' (σ 9) c else 0) 40 = xsum (fun _ => 0) 40 := xsum_congr fun c hc => by
        by_cases ec : c = b
        · subst ec; rw [hwk]; simp
        · rw [tn c ec]
          cases tc : thr (σ 2) c
          · simp
          · rw [hAn c b hc tc]
            cases hA : A (Pn (σ 3)) c b
            · simp
            · exact absurd rfl (tok b (A_th h3.1 c hc tc b hA).2)
      rw [this, xsum_0]; decide
    · rw [n6 b e]
      rw [tn b e] at tb
      rw [h6 b hb tb, usum, usum]
      refine xsum_congr fun c hc => ?_
      by_cases ec : c = k
      · subst ec
        have : thr (σ 2) c = false := by rw [thr, hka]; rfl
        rw [hwk, this]
        simp
      · rw [tn c ec]
        cases tc : thr (σ 2) c
        · simp
        · rw [hAn c b hc tc, wt, wt, n5 c ec]
  · rw [q2, q3, q5]
    intro b hb h2b
    have e : ¬ b = k := fun e => by subst e; rw [k2] at h2b; exact absurd h2b (by decide)
    rw [n2 b e] at h2b
    have hd := h7 b hb h2b
    refine ⟨by rw [n5 b e]; exact hd.1, fun c hc tc hc0 hP => ?_⟩
    by_cases ec : c = k
    · subst ec
      rw [Pk] at hP
      subst hP
      rw [hal] at h2b; exact absurd h2b (by decide)
    · rw [Pnn c ec] at hP
      rw [tn c ec] at tc
      rw [n2 c ec]; exact hd.2 c hc tc hc0 hP
  · rw [q2]
    show OI s2' (σ 9)
    intro p hp
    rcases h8 p hp with e | ⟨b, hb, e, tb⟩
    · exact Or.inl e
    · exact Or.inr ⟨b, hb, e, by rw [tn b (tok b tb)]; exact tb⟩
end Pure3b
section Ops3
variable {E : xE} {t : Nat} {σ : xS}
/-- a refusal -/
theorem Inv.refuse (h : Inv t σ) (c c1 : Int32) (v : Int32) : Inv (t + 1) (xu (xu (xu (xu σ 0 2 v) 14 0 c1) 14 13 v) 14 0 c) := by
  have h' := Rel.up h
  obtain ⟨⟨e1, e2, e3, e4, e5, e6, e7, e8⟩, hrest⟩ := h'
  exact ⟨⟨e1, e2, e3, e4, e5, e6, rfl, e8⟩, hrest⟩
theorem s_bank (x y : Int32) (h : Inv t σ) : xStp E (Inv (t + 1)) i_B_bank 8 i_M_bank 3 [eI, eA, eS, eU] xV1 [.int x, .int y] σ := by
  by_cases hB : tBk σ x = false
  · exact stp_thr (c_B_bank h.pok) (by rw [cBank, if_pos hB]) (c_M_bank (Rel.rok h)) (by rw [rBank, if_pos (bz0 ((Rel.bk h x).trans hB))]) (by simp) (show (1 : Int32) = hf [eI, eA, eS, eU] 1 eI by decide) (by decide) trivial (h.c 1)
  have hB' := bf hB
  by_cases hy : bUp y = false
  · exact stp_thr (c_B_bank h.pok) (by rw [cBank, if_neg hB, if_pos (bz0 hy)]) (c_M_bank (Rel.rok h)) (by rw [rBank, if_neg (bz1 ((Rel.bk h x).trans hB')), if_pos (bz0 ((bUp_eq y).trans hy))]) (by simp) (show (2 : Int32) = hf [eI, eA, eS, eU] 1 eA by decide) (by decide) trivial (h.c 2)
  have hy' := bf hy
  obtain ⟨a, ha, rfl, ta⟩ := tBk_iff.mp hB'
  have xb : xn (nI a) = a := xn_nI (by omega)
  have e23 := (Rel.tm h).st ha ta
  by_cases hl : ¬ σ 2 a = 0
  · exact stp_thr (c_B_bank h.pok) (by rw [cBank, if_neg hB, if_neg (bz1 hy'), xb, if_pos hl]) (c_M_bank (Rel.rok h)) (by rw [rBank, if_neg (bz1 ((Rel.bk h _).trans hB')), if_neg (bz1 ((bUp_eq y).trans hy')), xb, e23, if_pos (bz0 (by simpa using hl))]) (by simp) (show (3 : Int32) = hf [eI, eA, eS, eU] 1 eS by decide) (by decide) trivial (h.c 3)
  have hl' : σ 2 a = 0 := Classical.not_not.mp hl
  have hdc := tDep_ch (Rel.ti h) ha ta
  have hdep : ∀ τ : xS, Rel t σ τ → rDep (xu τ 14 0 0) (nI a) = tDep σ (nI a) := fun τ hτ => rDep_eq (τ := xu τ 14 0 0) hτ ha ta
  have h6 : nI (tDep σ (nI a)) < 6 ↔ ¬ nI (tDep σ (nI a)) = 6 := by
    rw [show (6 : Int32) = nI 6 from rfl, nI_ltI (by omega) (by decide), nI_eq (by omega) (by decide)]
    omega
  have hno : ∀ (hr : cBank σ (nI a) y = (.inr eU, xu σ 0 2 (-1))) (hq : rBank (xu σ 0 2 (-1)) (nI a) y = (0, xu (xu (xu (xu σ 0 2 (-1)) 14 0 0) 14 13 (-1)) 14 0 4)), xStp E (Inv (t + 1)) i_B_bank 8 i_M_bank 3 [eI, eA, eS, eU] xV1 [.int (nI a), .int y] σ := fun hr hq => by
    have hτ : Rel t σ (xu σ 0 2 (-1)) := h
    exact stp_thr (c_B_bank h.pok) hr (c_M_bank (Rel.rok hτ)) hq (by simp) (show (4 : Int32) = hf [eI, eA, eS, eU] 1 eU by decide) (by decide) trivial (h.refuse 4 0 (-1))
  rcases lun_eq (Rel.tm h) 39 1 rfl with ⟨l1, l2⟩ | ⟨k, hk1, hk, l1, l2, hka⟩
  · have hτ : Rel t σ (xu σ 0 2 (-1)) := h
    have l2' : ∀ f i, rLuF (xu (xu σ 0 2 (-1)) 14 0 0) f i = rLuF σ f i := by
      intro f
      induction f with
      | zero => intros; rfl
      | succ f ih => intro i; rw [rLuF, rLuF, ih]; rfl
    refine hno (by rw [cBank, if_neg hB, if_neg (bz1 hy'), xb, if_neg hl, if_pos (show tLun σ = -1 from l1)]) ?_
    rw [rBank, if_neg (bz1 ((Rel.bk hτ _).trans hB')), if_neg (bz1 ((bUp_eq y).trans hy')), xb, hτ.tm.st ha ta, if_neg (bz1 (by rw [hl']; rfl)), hdep _ hτ]
    by_cases h66 : nI (tDep σ (nI a)) = 6
    · rw [if_pos h66]
    · rw [if_neg h66, if_pos (by rw [rLu, l2', l2]; rfl)]
  · have hk0 : ¬ k = 0 := by omega
    have l1n : ¬ tLun σ = -1 := by rw [tLun, l1]; exact nI_m1 (by omega)
    by_cases h66 : nI (tDep σ (nI a)) = 6
    · have hτ : Rel t σ (xu σ 0 2 (-1)) := h
      refine hno (by rw [cBank, if_neg hB, if_neg (bz1 hy'), xb, if_neg hl, if_neg l1n, if_neg (fun hh => h6.mp hh h66)]) ?_
      rw [rBank, if_neg (bz1 ((Rel.bk hτ _).trans hB')), if_neg (bz1 ((bUp_eq y).trans hy')), xb, hτ.tm.st ha ta, if_neg (bz1 (by rw [hl']; rfl)), hdep _ hτ, if_pos h66]
    · have hdp : ch (Pn (σ 3)) 5 a := by
        refine ch_le hdc.2 ?_
        have h7 := h6.mpr h66
        rw [show (6 : Int32) = nI 6 from rfl, nI_ltI (by omega) (by decide)] at h7
        omega
      obtain ⟨σ1, hσ1⟩ : ∃ σ1, σ1 = tOpen σ (nI k) (nI a) y := ⟨_, rfl⟩
      have hτ : Rel t σ (xu σ1 25 0 (nI k)) := by rw [hσ1]; exact h
      have l2' : ∀ f i, rLuF (xu (xu σ1 25 0 (nI k)) 14 0 0) f i = rLuF σ f i := by
        intro f
        induction f with
        | zero => intros; rfl
        | succ f ih => intro i; rw [rLuF, rLuF, ih, hσ1]; rfl
      have l3 : rLu (xu (xu σ1 25 0 (nI k)) 14 0 0) = k := by rw [rLu, l2', l2]
      refine stp_ok (v := nI k) (σ1 := σ1) (ρ := rOpen (xu (xu σ1 25 0 (nI k)) 14 0 0) k (nI a) y) (c_B_bank h.pok) ?_ (c_M_bank (Rel.rok hτ)) ?_ rfl rfl trivial ?_
      · rw [cBank, if_neg hB, if_neg (bz1 hy'), xb, if_neg hl, if_neg l1n, if_pos (h6.mpr h66), hσ1, tLun, l1]
      · rw [rBank, if_neg (bz1 ((Rel.bk hτ _).trans hB')), if_neg (bz1 ((bUp_eq y).trans hy')), xb, hτ.tm.st ha ta, if_neg (bz1 (by rw [hl']; rfl)), hdep _ hτ, if_neg h66, l3, if_neg (by rw [show (40 : Int32) = nI 40 from rfl, nI_eq (by omega) (by decide)]; omega)]
      · have := Rel.open_ (τ := xu (xu σ1 25 0 (nI k)) 14 0 0) hτ hk hk0 hka ha hl' hdp (bUp_i hy')
        rw [← hσ1] at this
        exact this
end Ops3
