/-! destroy, work -/
section Rows
variable {t : Nat} {σ σ' τ τ' : xS}
theorem Rel.rows (h : Rel t σ τ) (e : ∀ k, 13 < k → k < 25 → τ' k = τ k) (e' : ∀ k, k < 14 → σ' k = σ k) : Rel t σ' τ' := by
  unfold Rel EQ at h ⊢
  rw [e 14 (by decide) (by decide), e 15 (by decide) (by decide), e 16 (by decide) (by decide), e 17 (by decide) (by decide), e 18 (by decide) (by decide), e 19 (by decide) (by decide), e 20 (by decide) (by decide), e 21 (by decide) (by decide), e 22 (by decide) (by decide), e 23 (by decide) (by decide), e 24 (by decide) (by decide)]
  rw [e' 0 (by decide), e' 2 (by decide), e' 3 (by decide), e' 4 (by decide), e' 5 (by decide), e' 6 (by decide), e' 7 (by decide), e' 8 (by decide), e' 9 (by decide), e' 10 (by decide), e' 11 (by decide), e' 12 (by decide)]
  exact h
theorem RC.condemn (h : RC σ τ) {i : Nat} (hi : i < 40) (ti : thr (σ 2) i = true) (h0 : ¬ i = 0) : RC (xu (xup (xu σ 2 i 2) 6 (fun c => if A (Pn (σ 3)) i c then σ 6 c + -(σ 5 i) else σ 6 c)) 5 i 0) (xu (xu τ 23 i 2) 24 i 0) := by
  obtain ⟨⟨e1, e2, e3, e4, e5, e6, e7, e8⟩, h2, h3, h4, h5, h6, h7, h8, h9⟩ := h
  have et : thr (fun j => if j = i then 2 else σ 2 j) = thr (σ 2) := thr_upd ti (by decide)
  have hor := own_res h5 h6 hi ti
  have en : (-(σ 5 i)).toInt = -(σ 5 i).toInt := tiN (by omega)
  obtain ⟨s5', hs5⟩ : ∃ s : Nat → Int32, s = fun j => if j = i then 0 else σ 5 j := ⟨_, rfl⟩
  have n5i : s5' i = 0 := by rw [hs5]; simp
  have n5n : ∀ j, ¬ j = i → s5' j = σ 5 j := fun j hj => by rw [hs5]; simp [hj]
  have hu := uadd h3 h5 h6 hi ti (n := -(σ 5 i)) ⟨by omega, by omega⟩ (Or.inl (by omega)) (s5' := s5') (s9' := σ 9) (fun c hc tc => by
    unfold wt
    by_cases e : c = i
    · subst e; rw [if_pos rfl, n5i, en, show (0 : Int32).toInt = 0 by decide]; omega
    · rw [if_neg e, n5n c e]; omega) (fun c hc tc => by
    by_cases e : c = i
    · subst e; rw [n5i]; decide
    · rw [n5n c e]; exact (h5 c hc tc).1)
  have k2 : ∀ c, xu (xup (xu σ 2 i 2) 6 (fun c => if A (Pn (σ 3)) i c then σ 6 c + -(σ 5 i) else σ 6 c)) 5 i 0 2 c = if c = i then 2 else σ 2 c := fun c => rfl
  refine ⟨⟨e1, e2, e3, e4, e5, ?_, e7, e8⟩, ?_, h3.cong et, ⟨?_, ?_⟩, ?_, ?_, h7.cong et, h8, h9⟩
  · show (fun j => if j = i then 0 else τ 24 j) = (fun j => if j = i then 0 else σ 5 j)
    rw [e6]
  · intro c hc
    rw [k2 c]
    show (τ 20 c = 0 ∧ _) ∨ (τ 20 c = 1 ∧ (if c = i then (2 : Int32) else τ 23 c) = _ ∧ _)
    by_cases e : c = i
    · subst e
      rw [if_pos rfl, if_pos rfl]
      rcases h2 c hc with ⟨a1, a2⟩ | ⟨a1, a2, a3⟩
      · exact absurd a2 (thr_iff.mp ti)
      · exact Or.inr ⟨a1, rfl, by decide⟩
    · rw [if_neg e, if_neg e]; exact h2 c hc
  · rw [k2 0, if_neg (fun e => h0 e.symm)]; exact h4.1
  · intro c hc
    rw [k2 c]
    by_cases e : c = i
    · rw [if_pos e]; exact Or.inr (Or.inr (Or.inl rfl))
    · rw [if_neg e]; exact h4.2 c hc
  · have := hu.2.cong (s2' := fun j => if j = i then 2 else σ 2 j) et
    rw [hs5] at this
    exact this
  · have := hu.1.cong (s2' := fun j => if j = i then 2 else σ 2 j) et
    rw [hs5] at this
    exact this
theorem tBk_thr {b : Nat} (hb : b < 40) : tBk σ (nI b) = thr (σ 2) b := by
  cases tb : thr (σ 2) b
  · cases hh : tBk σ (nI b)
    · rfl
    · obtain ⟨c, hc, e, tc⟩ := tBk_iff.mp hh
      have : b = c := (nI_eq (by omega) (by omega)).mp e
      subst this
      rw [tb] at tc; cases tc
  · exact tBk_iff.mpr ⟨b, hb, rfl, tb⟩
theorem condemn_sim {u : Nat} (hu : u < 40) (hu0 : ¬ u = 0) : ∀ (f i : Nat) (ρ ρ' : xS), i + f = 40 → RC ρ ρ' → RC (tCdF (nI u) f i ρ) (rDeF (nI u) f i ρ') ∧ thr (tCdF (nI u) f i ρ 2) = thr (ρ 2) ∧
    (∀ c, (c < 40 ∧ thr (ρ 2) c = true ∧ A (Pn (ρ 3)) c u = true ∧ i ≤ c) → tCdF (nI u) f i ρ 2 c = 2 ∧ tCdF (nI u) f i ρ 5 c = 0) ∧ (∀ c, ¬ (c < 40 ∧ thr (ρ 2) c = true ∧ A (Pn (ρ 3)) c u = true ∧ i ≤ c) → tCdF (nI u) f i ρ 2 c = ρ 2 c ∧ tCdF (nI u) f i ρ 5 c = ρ 5 c) ∧
    (∀ k, ¬ k = 2 → ¬ k = 5 → ¬ k = 6 → tCdF (nI u) f i ρ k = ρ k) ∧ (∀ k, ¬ k = 23 → ¬ k = 24 → rDeF (nI u) f i ρ' k = ρ' k) := by
  intro f
  induction f with
  | zero => intro i ρ ρ' hi h; exact ⟨h, rfl, fun c hc => by omega, fun c _ => ⟨rfl, rfl⟩, fun _ _ _ _ => rfl, fun _ _ _ => rfl⟩
  | succ f ih =>
    intro i ρ ρ' hi h
    have hi40 : i < 40 := by omega
    have hT := h.2.2.1
    have hr : rTU ρ' (nI u) i = (thr (ρ 2) i && A (Pn (ρ 3)) i u) := rTU_eq hT h.2.1 h.1.2.2.2.1 hu hi40
    have hc : (tBk ρ (nI i) && tWi ρ (nI i) (nI u)) = (thr (ρ 2) i && A (Pn (ρ 3)) i u) := by
      rw [tBk_thr hi40]
      cases tb : thr (ρ 2) i
      · rfl
      · rw [tWi_eq hT hu hi40 tb]
    by_cases hh : (thr (ρ 2) i && A (Pn (ρ 3)) i u) = true
    · have ti : thr (ρ 2) i = true := (Bool.and_eq_true _ _ ▸ hh).1
      have hA : A (Pn (ρ 3)) i u = true := (Bool.and_eq_true _ _ ▸ hh).2
      have i0 : ¬ i = 0 := fun e => by
        rw [e, A_0] at hA
        exact hu0 (by simpa using hA : 0 = u).symm
      have et : thr (fun j => if j = i then 2 else ρ 2 j) = thr (ρ 2) := thr_upd ti (by decide)
      have hTI2 : TI (xu ρ 2 i 2 2) (xu ρ 2 i 2 3) := hT.cong et
      have hta := tAu_eq (σ := xu ρ 2 i 2) hTI2 hi40 (by show thr (fun j => if j = i then 2 else ρ 2 j) i = true; rw [et]; exact ti) (-(ρ 5 i))
      obtain ⟨ρ1, e1⟩ : ∃ ρ1, ρ1 = xu (xup (xu ρ 2 i 2) 6 (fun c => if A (Pn (ρ 3)) i c then ρ 6 c + -(ρ 5 i) else ρ 6 c)) 5 i 0 := ⟨_, rfl⟩
      have es : tCdF (nI u) (f + 1) i ρ = tCdF (nI u) f (i + 1) ρ1 := by
        rw [tCdF, hc, if_pos hh, hta, e1]; rfl
      have es' : rDeF (nI u) (f + 1) i ρ' = rDeF (nI u) f (i + 1) (xu (xu ρ' 23 i 2) 24 i 0) := by rw [rDeF, hr, if_pos hh]
      rw [es, es']
      have h1 : RC ρ1 (xu (xu ρ' 23 i 2) 24 i 0) := by rw [e1]; exact h.condemn hi40 ti i0
      obtain ⟨a1, a2, a3, a4, a5, a6⟩ := ih (i + 1) ρ1 _ (by omega) h1
      have q2 : ∀ c, ρ1 2 c = if c = i then 2 else ρ 2 c := fun c => by rw [e1]; rfl
      have q5 : ∀ c, ρ1 5 c = if c = i then 0 else ρ 5 c := fun c => by rw [e1]; rfl
      have q3 : ρ1 3 = ρ 3 := by rw [e1]; rfl
      have qt : thr (ρ1 2) = thr (ρ 2) := by rw [e1]; exact et
      rw [qt, q3] at a3 a4
      refine ⟨a1, a2.trans qt, fun c hcc => ?_, fun c hcc => ?_, fun k k1 k2 k3 => (a5 k k1 k2 k3).trans ?_, fun k k1 k2 => (a6 k k1 k2).trans ?_⟩
      · by_cases e : c = i
        · have := a4 c (by omega)
          rw [this.1, this.2, q2, q5, if_pos e, if_pos e]; exact ⟨rfl, rfl⟩
        · exact a3 c ⟨hcc.1, hcc.2.1, hcc.2.2.1, by omega⟩
      · have e : ¬ c = i := fun e => hcc (by subst e; exact ⟨hi40, ti, hA, Nat.le_refl _⟩)
        have := a4 c (fun hh => hcc ⟨hh.1, hh.2.1, hh.2.2.1, by omega⟩)
        rw [this.1, this.2, q2, q5, if_neg e, if_neg e]; exact ⟨rfl, rfl⟩
      · rw [e1, xu_other k2, xup_ne k3, xu_other k1]
      · rw [xu_other k2, xu_other k1]
    · have es : tCdF (nI u) (f + 1) i ρ = tCdF (nI u) f (i + 1) ρ := by rw [tCdF, hc, if_neg hh]
      have es' : rDeF (nI u) (f + 1) i ρ' = rDeF (nI u) f (i + 1) ρ' := by rw [rDeF, hr, if_neg hh]
      rw [es, es']
      obtain ⟨a1, a2, a3, a4, a5, a6⟩ := ih (i + 1) ρ ρ' (by omega) h
      refine ⟨a1, a2, fun c hcc => ?_, fun c hcc => ?_, a5, a6⟩
      · have e : ¬ c = i := fun e => hh (by subst e; rw [hcc.2.1, hcc.2.2.1]; rfl)
        exact a3 c ⟨hcc.1, hcc.2.1, hcc.2.2.1, by omega⟩
      · exact a4 c (fun hh => hcc ⟨hh.1, hh.2.1, hh.2.2.1, by omega⟩)
theorem tbf_eq (h : RC σ τ) {p : Nat} (hp : p < 192) : rTbf τ p = bDyP σ p := by
  rw [rTbf, bDyP, h.1.1]
  rcases h.2.2.2.2.2.2.1 p hp with e | ⟨b, hb, e, tb⟩
  · rw [e]; simp [sTk, e]
  · have h1 := nI_pos (show b < 2 ^ 31 by omega)
    have h2 := nI_m1 (show b < 2 ^ 31 by omega)
    rw [e, sTk, e, tDy, xn_nI (show b < 2 ^ 31 by omega), h.2.1.st hb tb]
    simp [h1, h2]
theorem work_sim : ∀ (f i : Nat) (n : Int32) (ρ ρ' : xS), i + f = 192 → RC ρ ρ' → RC (bWoF f i n ρ) (rWoF f i n ρ') ∧ (∀ k, ¬ k = 6 → ¬ k = 9 → bWoF f i n ρ k = ρ k) ∧ (∀ k, ¬ k = 15 → rWoF f i n ρ' k = ρ' k) ∧ ∀ p, ¬ bWoF f i n ρ 9 p = -1 → ¬ ρ 9 p = -1 := by
  intro f
  induction f with
  | zero => intro i n ρ ρ' _ h; exact ⟨h, fun _ _ _ => rfl, fun _ _ => rfl, fun _ h => h⟩
  | succ f ih =>
    intro i n ρ ρ' hi h
    rw [bWoF, rWoF, tbf_eq h (by omega : i < 192)]
    by_cases hn : n ≤ 0
    · rw [if_pos hn, if_pos hn]; exact ⟨h, fun _ _ _ => rfl, fun _ _ => rfl, fun _ h => h⟩
    · rw [if_neg hn, if_neg hn]
      by_cases hd : bDyP ρ i = true
      · rw [if_pos hd, if_pos hd]
        obtain ⟨b, hb, e9, tb⟩ : ∃ b, b < 40 ∧ ρ 9 i = nI b ∧ thr (ρ 2) b = true := by
          rcases h.2.2.2.2.2.2.1 i (by omega) with e | e
          · rw [bDyP, sTk, e] at hd; simp at hd
          · exact e
        rw [e9, tAu_eq h.2.2.1 hb tb (-1)]
        obtain ⟨ρ1, e1⟩ : ∃ ρ1, ρ1 = xu (xup ρ 6 (fun c => if A (Pn (ρ 3)) b c then ρ 6 c + -1 else ρ 6 c)) 9 i (-1) := ⟨_, rfl⟩
        rw [← e1]
        have h1 : RC ρ1 (xu ρ' 15 i (-1)) := by rw [e1]; exact h.vac (by omega) hb e9 tb
        obtain ⟨a1, a2, a3, a4⟩ := ih (i + 1) (n - 1) ρ1 _ (by omega) h1
        refine ⟨a1, fun k k1 k2 => (a2 k k1 k2).trans ?_, fun k k1 => (a3 k k1).trans (xu_other k1), fun p hp => ?_⟩
        · rw [e1, xu_other k2, xup_ne k1]
        · have := a4 p hp
          rw [e1] at this
          have hh : ¬ (if p = i then (-1 : Int32) else ρ 9 p) = -1 := this
          by_cases e : p = i
          · rw [if_pos e] at hh; exact absurd rfl hh
          · rw [if_neg e] at hh; exact hh
      · rw [if_neg hd, if_neg hd]
        exact ih (i + 1) n ρ ρ' (by omega) h
end Rows
section Ops6
variable {E : xE} {t : Nat} {σ : xS}
theorem s_destroy (x : Int32) (h : Inv t σ) : xStp E (Inv (t + 1)) i_B_destroy 9 i_M_destroy 4 [eI, eA, eS] xV1 [.int x] σ := by
  by_cases hB : tBk σ x = false
  · exact stp_thr (c_B_destroy h.pok h.wok) (by rw [cDestroy, if_pos hB]) (c_M_destroy (Rel.rok h) (Rel.rvok h)) (by rw [rDestroy, rWr_nb h hB]; exact if_neg (show ¬ (1 : Int32) ≤ 0 by decide)) (by simp) (show (1 : Int32) = hf [eI, eA, eS] 1 eI by decide) (by decide) trivial (h.c 1)
  have hB' := bf hB
  by_cases h0 : x = 0
  · subst h0
    exact stp_thr (c_B_destroy h.pok h.wok) (by rw [cDestroy, if_neg hB, if_pos rfl]) (c_M_destroy (Rel.rok h) (Rel.rvok h)) (by rw [rDestroy, rWr_0 h hB']; exact if_neg (show ¬ (2 : Int32) ≤ 0 by decide)) (by simp) (show (2 : Int32) = hf [eI, eA, eS] 1 eA by decide) (by decide) trivial (h.c 2)
  obtain ⟨u, hu, rfl, tu⟩ := tBk_iff.mp hB'
  have hu0 : ¬ u = 0 := fun e => h0 (by rw [e]; rfl)
  have xb : xn (nI u) = u := xn_nI (by omega)
  by_cases hd : σ 2 u = 2
  · exact stp_thr (c_B_destroy h.pok h.wok) (by rw [cDestroy, if_neg hB, if_neg h0, if_neg (bz1 (by rw [tDy, xb, hd]; rfl))]) (c_M_destroy (Rel.rok h) (Rel.rvok h)) (by rw [rDestroy, rWr_dy h hu tu h0 hd]; exact if_neg (show ¬ (3 : Int32) ≤ 0 by decide)) (by simp) (show (3 : Int32) = hf [eI, eA, eS] 1 eS by decide) (by decide) trivial (h.c 3)
  have hTI : TI (σ 2) (σ 3) := Rel.ti h
  obtain ⟨S, hS⟩ : ∃ S, S = tCd σ (nI u) := ⟨_, rfl⟩
  have hS' : tCdF (nI u) 40 0 σ = S := hS.symm
  have sim0 := condemn_sim hu hu0 40 0 σ σ rfl (Rel.rc h)
  rw [hS'] at sim0
  obtain ⟨-, b2, b3, b4, b5, -⟩ := sim0
  have dS : DI (S 2) (S 3) (S 5) := by
    intro b hb h2b
    have hS3 : S 3 = σ 3 := b5 3 (by decide) (by decide) (by decide)
    rw [hS3, b2]
    have hch : ∀ c, c < 40 → thr (σ 2) c = true → ¬ c = 0 → Pn (σ 3) c = b → σ 2 b = 2 ∨ A (Pn (σ 3)) b u = true → S 2 c = 2 := fun c hc tc c0 hP hor => by
      by_cases hAc : A (Pn (σ 3)) c u = true
      · exact (b3 c ⟨hc, tc, hAc, Nat.zero_le _⟩).1
      · rcases hor with h2 | hAb
        · rw [(b4 c (fun hh => hAc hh.2.2.1)).1]
          exact (Rel.di h b hb h2).2 c hc tc c0 hP
        · exfalso
          apply hAc
          rw [A_eq hTI.1 hc tc, hP]
          simp [c0, hAb]
    by_cases hAb : thr (σ 2) b = true ∧ A (Pn (σ 3)) b u = true
    · exact ⟨(b3 b ⟨hb, hAb.1, hAb.2, Nat.zero_le _⟩).2, fun c hc tc c0 hP => hch c hc tc c0 hP (Or.inr hAb.2)⟩
    · have := b4 b (fun hh => hAb ⟨hh.2.1, hh.2.2.1⟩)
      rw [this.1] at h2b
      rw [this.2]
      exact ⟨(Rel.di h b hb h2b).1, fun c hc tc c0 hP => hch c hc tc c0 hP (Or.inl h2b)⟩
  obtain ⟨σ1, hσ1⟩ : ∃ σ1, σ1 = tCl S := ⟨_, rfl⟩
  have hr1 : ∀ k, ¬ k = 2 → ¬ k = 5 → ¬ k = 6 → σ1 k = σ k := fun k k1 k2 k3 => by
    rw [hσ1, tCl_eq, xup_ne k1, b5 k k1 k2 k3]
  obtain ⟨v, hv⟩ : ∃ v, v = nI (bDp σ1) := ⟨_, rfl⟩
  have hτ : Rel t σ (xu σ1 25 0 v) := Rel.rows h (fun k k1 k2 => by rw [xu_other (by omega)]; exact hr1 k (by omega) (by omega) (by omega)) (fun _ _ => rfl)
  have hτ2 : Rel t σ (xu (xu σ1 25 0 v) 14 0 0) := hτ
  have sim := condemn_sim hu hu0 40 0 σ _ rfl hτ2.rc
  rw [hS'] at sim
  obtain ⟨T, hT⟩ : ∃ T, T = rDeF (nI u) 40 0 (xu (xu σ1 25 0 v) 14 0 0) := ⟨_, rfl⟩
  rw [← hT] at sim
  obtain ⟨c1, -, -, -, -, c6⟩ := sim
  obtain ⟨d1, d2, -, hh, d4⟩ := c1.clear dS
  rw [← hσ1] at d1 d2
  have hq : rDestroyS (xu σ1 25 0 v) (nI u) = rClear T := by rw [rDestroyS, rWr_ok hτ hu tu h0 hd, hT]
  refine stp_ok (v := v) (σ1 := σ1) (ρ := rClear T) (c_B_destroy h.pok h.wok) ?_ (c_M_destroy (Rel.rok hτ) (Rel.rvok hτ)) ?_ ?_ ?_ trivial ?_
  · rw [cDestroy, if_neg hB, if_neg h0, if_pos (bz0 (by rw [tDy, xb]; simpa using hd)), ← hS, ← hσ1, hv]
  · rw [rDestroy, hq, rWr_ok hτ hu tu h0 hd, if_pos (c00 _), dp_eq d1, hv]
  · rw [d4, xup_ne (by decide), c6 14 (by decide) (by decide)]; rfl
  · rw [d4, xup_ne (by decide), c6 25 (by decide) (by decide)]; rfl
  · have hcl : ∀ k, k < 14 → rClear T k = σ1 k := fun k hk => by
      rw [d4, xup_ne (by omega), c6 k (by omega) (by omega), xu_other (by omega), xu_other (by omega)]
    have ho : OL (σ1 9) (σ1 12) (rClear T 18) (σ1 7 6) (rClear T 14 7) t := by
      rw [hr1 9 (by decide) (by decide) (by decide), hr1 12 (by decide) (by decide) (by decide), hr1 7 (by decide) (by decide) (by decide), d4, xup_ne (by decide), xup_ne (by decide), c6 18 (by decide) (by decide), c6 14 (by decide) (by decide)]
      have e18 : xu (xu σ1 25 0 v) 14 0 0 18 = σ 18 := hr1 18 (by decide) (by decide) (by decide)
      have e147 : xu (xu σ1 25 0 v) 14 0 0 14 7 = σ 14 7 := congrFun (hr1 14 (by decide) (by decide) (by decide)) 7
      rw [e18, e147]
      exact Rel.ol h
    exact Rel.rows (Rel.up (RC.rel d1 d2 ho)) (fun _ _ _ => rfl) hcl
theorem s_work (x : Int32) (h : Inv t σ) : xStp E (Inv (t + 1)) i_B_work 9 i_M_work 4 [eA] xV1 [.int x] σ := by
  obtain ⟨L, hL, hoo⟩ := OLL.ok (Rel.ol h)
  by_cases hy : bUp x = false
  · exact stp_thr (c_B_work h.pok h.wok hoo) (by rw [cWork, if_pos (bz0 hy)]) (c_M_work (Rel.rvok h)) (by rw [rWork, if_pos (bz0 ((bUp_eq x).trans hy))]) (by simp) (show (1 : Int32) = hf [eA] 1 eA by decide) (by decide) trivial (h.c 1)
  have hy' := bf hy
  obtain ⟨S, hS⟩ : ∃ S, S = bWoF 192 0 x σ := ⟨_, rfl⟩
  have sim0 := work_sim 192 0 x σ σ rfl (Rel.rc h)
  rw [← hS] at sim0
  obtain ⟨-, b2, -, b4⟩ := sim0
  have hS12 : S 12 = σ 12 := b2 12 (by decide) (by decide)
  obtain ⟨f, hg, hf⟩ := gap_list (σ := S) (L := L) (by rw [hS12]; exact hL.2.1) (fun q hq => ((hL.2.2.1 q).mp hq).1)
  obtain ⟨F, hF⟩ : ∃ F, F = L.filter fun p => !(S 9 p == -1) := ⟨_, rfl⟩
  rw [← hF] at hg hf
  obtain ⟨G, hG⟩ : ∃ G, G = xu (xup S 12 f) 7 6 (nI F.length) := ⟨_, rfl⟩
  rw [← hG] at hg
  obtain ⟨σ1, hσ1⟩ : ∃ σ1, σ1 = tCl G := ⟨_, rfl⟩
  have hr1 : ∀ k, ¬ k = 2 → ¬ k = 6 → ¬ k = 7 → ¬ k = 9 → ¬ k = 12 → σ1 k = σ k := fun k k1 k2 k3 k4 k5 => by
    rw [hσ1, tCl_eq, xup_ne k1, hG, xu_other k3, xup_ne k5, b2 k k2 k4]
  obtain ⟨v, hv⟩ : ∃ v, v = nI (bDp σ1) := ⟨_, rfl⟩
  have hτ : Rel t σ (xu σ1 25 0 v) := Rel.rows h (fun k k1 k2 => by rw [xu_other (by omega)]; exact hr1 k (by omega) (by omega) (by omega) (by omega) (by omega)) (fun _ _ => rfl)
  have hτ2 : Rel t σ (xu (xu σ1 25 0 v) 14 0 0) := hτ
  have sim := work_sim 192 0 x σ _ rfl hτ2.rc
  rw [← hS] at sim
  obtain ⟨T, hT⟩ : ∃ T, T = rWoF 192 0 x (xu (xu σ1 25 0 v) 14 0 0) := ⟨_, rfl⟩
  rw [← hT] at sim
  obtain ⟨c1, -, c3, -⟩ := sim
  have cG : RC G T := by rw [hG]; exact c1
  have dG : DI (G 2) (G 3) (G 5) := by
    have e2 : G 2 = σ 2 := by rw [hG]; exact b2 2 (by decide) (by decide)
    have e3 : G 3 = σ 3 := by rw [hG]; exact b2 3 (by decide) (by decide)
    have e5 : G 5 = σ 5 := by rw [hG]; exact b2 5 (by decide) (by decide)
    rw [e2, e3, e5]; exact Rel.di h
  obtain ⟨d1, d2, -, hh, d4⟩ := cG.clear dG
  rw [← hσ1] at d1 d2
  have hq : rWorkS (xu σ1 25 0 v) x = rClear T := by rw [rWorkS, hT]
  refine stp_ok (v := v) (σ1 := σ1) (ρ := rClear T) (c_B_work h.pok h.wok hoo) ?_ (c_M_work (Rel.rvok hτ)) ?_ ?_ ?_ trivial ?_
  · rw [cWork, if_neg (bz1 hy'), cWorkS, ← hS, hg, ← hσ1, hv]
  · rw [rWork, if_neg (bz1 ((bUp_eq x).trans hy')), hq, dp_eq d1, hv]
  · rw [d4, xup_ne (by decide), c3 14 (by decide)]; rfl
  · rw [d4, xup_ne (by decide), c3 25 (by decide)]; rfl
  · have hcl : ∀ k, k < 14 → rClear T k = σ1 k := fun k hk => by
      rw [d4, xup_ne (by omega), c3 k (by omega), xu_other (by omega), xu_other (by omega)]
    have ho : OL (σ1 9) (σ1 12) (rClear T 18) (σ1 7 6) (rClear T 14 7) t := by
      have q9 : σ1 9 = S 9 := by rw [hσ1, tCl_eq, xup_ne (by decide), hG]; rfl
      have q12 : σ1 12 = f := by rw [hσ1, tCl_eq, xup_ne (by decide), hG]; rfl
      have q76 : σ1 7 6 = nI F.length := by rw [hσ1, tCl_eq, xup_ne (by decide), hG]; rfl
      rw [q9, q12, q76, d4, xup_ne (by decide), xup_ne (by decide), c3 18 (by decide), c3 14 (by decide)]
      have e18 : xu (xu σ1 25 0 v) 14 0 0 18 = σ 18 := hr1 18 (by decide) (by decide) (by decide) (by decide) (by decide)
      have e147 : xu (xu σ1 25 0 v) 14 0 0 14 7 = σ 14 7 := congrFun (hr1 14 (by decide) (by decide) (by decide) (by decide) (by decide)) 7
      rw [e18, e147]
      refine ⟨F, ?_⟩
      rw [hF] at hf ⊢
      exact OLL.filter (s9' := S 9) hL (fun q hq hh => b4 q hh) hf
    exact Rel.rows (Rel.up (RC.rel d1 d2 ho)) (fun _ _ _ => rfl) hcl
end Ops6
