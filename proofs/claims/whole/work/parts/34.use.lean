/-! the use of a bank -/
theorem xup2 (σ : xS) (q : Nat) (f g : Nat → Int32) : xup (xup σ q f) q g = xup σ q g := by
  funext k
  simp only [xup]
  split <;> rfl
theorem xu_xup (σ : xS) (q i : Nat) (v : Int32) : xu σ q i v = xup σ q (fun j => if j = i then v else σ q j) := rfl
section Use
variable {t : Nat} {σ τ : xS} {s2 s3 s4 s5 s6 s9 s5' s6' s9' : Nat → Int32}
theorem tAu_eq (h : TI (σ 2) (σ 3)) {x : Nat} (hx : x < 40) (tx : thr (σ 2) x = true) (n : Int32) : tAu σ (nI x) n = xup σ 6 (fun b => if A (Pn (σ 3)) x b then σ 6 b + n else σ 6 b) := by
  have : ∀ f b (ρ : xS), ρ 3 = σ 3 → b < 40 → thr (σ 2) b = true → ch (Pn (σ 3)) f b → tAuF n (f + 1) (nI b) ρ = xup ρ 6 (fun c => if an (Pn (σ 3)) f b c then ρ 6 c + n else ρ 6 c) := by
    intro f
    induction f with
    | zero =>
      intro b ρ hr hb ht hc
      have : b = 0 := hc
      subst this
      rw [tAuF, if_neg (nI_m1 (by decide)), tAuF, xn_nI (by decide), xu_xup]
      refine congrArg _ (funext fun c => ?_)
      by_cases e : c = 0
      · subst e; simp [an]
      · rw [if_neg e]
        have : ¬ (0 : Nat) = c := fun h => e h.symm
        simp [an, this]
    | succ f ih =>
      intro b ρ hr hb ht hc
      rw [tAuF, if_neg (nI_m1 (by omega)), xn_nI (by omega), hr]
      rcases h.par hb ht with ⟨e0, ep⟩ | ⟨e0, ep, h1, h2⟩
      · rw [ep, tAuF, if_pos rfl, xu_xup]
        refine congrArg _ (funext fun c => ?_)
        by_cases e : c = b
        · subst e; simp [an_s]
        · rw [if_neg e, an_z e0 (fun h => e h.symm)]; rfl
      · rw [ep, ih _ _ (by rw [xu_other (by decide)]; exact hr) h1 h2 (ch_next hc e0), xu_xup, xup2]
        refine congrArg _ (funext fun c => ?_)
        rw [xup_same]
        by_cases e : c = b
        · subst e
          have : an (Pn (σ 3)) f (Pn (σ 3) c) c = false := by
            cases hh : an (Pn (σ 3)) f (Pn (σ 3) c) c
            · rfl
            · exact absurd hc (acyc hh e0 _)
          rw [this, if_pos rfl]
          simp [an_s]
        · rw [if_neg e, an_ne0 e0 (fun h => e h.symm)]
  exact this 6 x σ rfl hx tx (h.1.2.2 x hx tx)
theorem UI_step (hT : TIa (thr s2) (Pn s3)) (h : UI s2 s3 s5 s6 s9) {x : Nat} (hx : x < 40) (tx : thr s2 x = true) (d : Int) (hw : ∀ c, c < 40 → thr s2 c = true → wt s5' s9' c = wt s5 s9 c + (if c = x then d else 0))
    (h6 : ∀ b, b < 40 → thr s2 b = true → (s6' b).toInt = (s6 b).toInt + (if A (Pn s3) x b then d else 0)) : UI s2 s3 s5' s6' s9' := by
  intro b hb ht
  rw [h6 b hb ht, h b hb ht, usum, usum]
  have := xsum_upd (f := fun c => if thr s2 c && A (Pn s3) c b then wt s5 s9 c else 0) (g := fun c => if thr s2 c && A (Pn s3) c b then wt s5' s9' c else 0) hx (fun i hi e => by
    cases ti : thr s2 i
    · simp [ti]
    · have := hw i hi ti
      rw [if_neg e] at this
      simp only [this]
      split <;> simp)
  rw [this]
  have h1 := hw x hx tx
  rw [if_pos rfl] at h1
  simp only [tx, Bool.true_and]
  split
  · omega
  · omega
theorem wt_nn (hL : LI s2 s4 s5 s6) {c : Nat} (hc : c < 40) (tc : thr s2 c = true) : 0 ≤ wt s5 s9 c := by
  have := (hL c hc tc).1
  unfold wt; omega
theorem wt_le (hL : LI s2 s4 s5 s6) (hU : UI s2 s3 s5 s6 s9) {c b : Nat} (hc : c < 40) (tc : thr s2 c = true) (hb : b < 40) (tb : thr s2 b = true) (hA : A (Pn s3) c b = true) : wt s5 s9 c ≤ (s6 b).toInt := by
  rw [hU b hb tb, usum]
  have := xsum_ge (f := fun c => if thr s2 c && A (Pn s3) c b then wt s5 s9 c else 0) (k := c) (n := 40) (fun i hi => by
    cases ti : thr s2 i
    · simp
    · simp only [Bool.true_and]
      split
      · exact wt_nn hL hi ti
      · exact Int.le_refl _) hc
  simpa [tc, hA] using this
theorem use_nn (hL : LI s2 s4 s5 s6) (hU : UI s2 s3 s5 s6 s9) {b : Nat} (hb : b < 40) (tb : thr s2 b = true) : 0 ≤ (s6 b).toInt :=
  Int.le_trans (wt_nn hL hb tb) (wt_le hL hU hb tb hb tb (A_self b))
theorem use_le (hL : LI s2 s4 s5 s6) {b : Nat} (hb : b < 40) (tb : thr s2 b = true) : (s6 b).toInt ≤ 192 := by
  have := hL b hb tb; omega
theorem own_res (hL : LI s2 s4 s5 s6) (hU : UI s2 s3 s5 s6 s9) {b : Nat} (hb : b < 40) (tb : thr s2 b = true) : (ow s9 b : Int) + (s5 b).toInt ≤ 192 ∧ 0 ≤ (s5 b).toInt := by
  have h1 := wt_le hL hU hb tb hb tb (A_self b)
  have h2 := use_le hL hb tb
  have h3 := (hL b hb tb).1
  unfold wt at h1
  exact ⟨by omega, h3⟩
theorem ow_le (s9 : Nat → Int32) (b : Nat) : ow s9 b ≤ 192 := xcn_le _ 192
theorem rUse_sum (hT : TI (σ 2) (σ 3)) (hM : TMr (σ 2) (τ 20) (τ 23)) (h21 : τ 21 = σ 3) (hw : ∀ c, c < 40 → thr (σ 2) c = true → 0 ≤ (τ 24 c).toInt ∧ (τ 24 c).toInt ≤ 400) {b : Nat} (hb : b < 40) : (rUse τ (nI b)).toInt = usum (σ 2) (σ 3) (τ 24) (τ 15) b := by
  obtain ⟨g, hg⟩ : ∃ g : Nat → Int, g = fun c => if thr (σ 2) c && A (Pn (σ 3)) c b then wt (τ 24) (τ 15) c else 0 := ⟨_, rfl⟩
  have hgb : ∀ c, c < 40 → 0 ≤ g c ∧ g c ≤ 600 := fun c hc => by
    have ho := ow_le (τ 15) c
    have e : g c = if thr (σ 2) c && A (Pn (σ 3)) c b then wt (τ 24) (τ 15) c else 0 := by rw [hg]
    rw [e]
    cases tc : thr (σ 2) c
    · simp
    · have := hw c hc tc
      simp only [Bool.true_and]
      split
      · unfold wt; omega
      · omega
  have hp : ∀ c, c ≤ 40 → 0 ≤ xsum g c ∧ xsum g c ≤ 600 * (c : Int) := by
    intro c
    induction c with
    | zero => intro _; simp [xsum]
    | succ c ih =>
      intro hc
      have h1 := ih (by omega)
      have h2 := hgb c (by omega)
      simp only [xsum]
      omega
  have key : ∀ f i (s : Int32), i + f = 40 → s.toInt = xsum g i → (rUseF τ (nI b) f i s).toInt = xsum g 40 := by
    intro f
    induction f with
    | zero =>
      intro i s hi hs
      have : i = 40 := by omega
      subst this
      exact hs
    | succ f ih =>
      intro i s hi hs
      rw [rUseF]
      refine ih (i + 1) _ (by omega) ?_
      have h1 := hp i (by omega)
      have h2 := hgb i (by omega)
      have h3 := hp (i + 1) (by omega)
      have hgi : (if rTU τ (nI b) i then nI (rOwn τ (nI i)) + τ 24 i else 0).toInt = g i := by
        rw [rTU_eq hT hM h21 hb (by omega : i < 40), show g i = if thr (σ 2) i && A (Pn (σ 3)) i b then wt (τ 24) (τ 15) i else 0 by rw [hg]]
        cases tc : thr (σ 2) i && A (Pn (σ 3)) i b
        · simp
        · have tc' : thr (σ 2) i = true := by
            cases hh : thr (σ 2) i
            · rw [hh] at tc; cases tc
            · rfl
          have := hw i (by omega) tc'
          have ho := ow_le (τ 15) i
          have e1 : (nI (rOwn τ (nI i))).toInt = (ow (τ 15) i : Int) := nI_toInt (by show ow (τ 15) i < _; omega)
          rw [if_pos rfl, if_pos rfl, tiA (by rw [e1]; omega) (by rw [e1]; omega), e1]
          rfl
      rw [tiA (by rw [hgi, hs]; omega) (by rw [hgi, hs]; omega), hgi, hs]
      rfl
  have := key 40 0 0 rfl (by simp [xsum])
  rw [usum, ← hg]
  exact this
/-- the reference counts what the class keeps -/
theorem rUse_eq (hT : TI (σ 2) (σ 3)) (hM : TMr (σ 2) (τ 20) (τ 23)) (h21 : τ 21 = σ 3) (hL : LI (σ 2) s4 (τ 24) (σ 6)) (hU : UI (σ 2) (σ 3) (τ 24) (σ 6) (τ 15)) {b : Nat} (hb : b < 40) (tb : thr (σ 2) b = true) : rUse τ (nI b) = σ 6 b := by
  rw [ti_eq, rUse_sum hT hM h21 (fun c hc tc => by have := own_res hL hU hc tc; omega) hb, ← hU b hb tb]
theorem rf_none (h : TI (σ 2) (σ 3)) {x : Nat} (hx : x < 40) (tx : thr (σ 2) x = true) (n : Int32) : tRf σ (nI x) n = -1 ↔ ∀ b, b < 40 → A (Pn (σ 3)) x b = true → σ 6 b + n ≤ σ 4 b := by
  have : ∀ f b, b < 40 → thr (σ 2) b = true → ch (Pn (σ 3)) f b → (tRfF σ n (f + 1) (nI b) = -1 ↔ ∀ c, c < 40 → an (Pn (σ 3)) f b c = true → σ 6 c + n ≤ σ 4 c) := by
    intro f
    induction f with
    | zero =>
      intro b hb ht hc
      have : b = 0 := hc
      subst this
      rw [tRfF, if_neg (nI_m1 (by decide)), xn_nI (by decide)]
      constructor
      · intro h1 c hc2 h2
        have : 0 = c := by simpa [an] using h2
        subst this
        by_cases h3 : σ 6 0 + n ≤ σ 4 0
        · exact h3
        · rw [if_neg h3] at h1; exact absurd h1 (nI_m1 (by decide))
      · intro h1
        rw [if_pos (h1 0 (by decide) (by simp [an]))]; rfl
    | succ f ih =>
      intro b hb ht hc
      rw [tRfF, if_neg (nI_m1 (by omega)), xn_nI (by omega)]
      rcases h.par hb ht with ⟨e0, ep⟩ | ⟨e0, ep, h1, h2⟩
      · rw [ep]
        constructor
        · intro h1 c hc2 h2
          by_cases e : b = c
          · subst e
            by_cases h3 : σ 6 b + n ≤ σ 4 b
            · exact h3
            · rw [if_neg h3] at h1; exact absurd h1 (nI_m1 (by omega))
          · rw [an_z e0 e] at h2; cases h2
        · intro h1
          rw [if_pos (h1 b hb (by simp [an_s])), tRfF, if_pos rfl]
      · have := ih _ h1 h2 (ch_next hc e0)
        rw [ep]
        constructor
        · intro h4 c hc2 h5
          by_cases h3 : σ 6 b + n ≤ σ 4 b
          · rw [if_pos h3] at h4
            by_cases e : b = c
            · subst e; exact h3
            · rw [an_ne0 e0 e] at h5
              exact this.mp h4 c hc2 h5
          · rw [if_neg h3] at h4; exact absurd h4 (nI_m1 (by omega))
        · intro h4
          rw [if_pos (h4 b hb (by simp [an_s]))]
          refine this.mpr fun c hc2 h5 => h4 c hc2 ?_
          rw [an_s]; simp [e0, h5]
  exact this 6 x hx tx (h.1.2.2 x hx tx)
theorem rf_val (h : TI (σ 2) (σ 3)) (n : Int32) : ∀ (f : Nat) (a : Int32), aOK (σ 2) a → tRfF σ n f a = -1 ∨ ∃ c, c < 40 ∧ tRfF σ n f a = nI c := by
  intro f
  induction f with
  | zero => intros; exact Or.inl rfl
  | succ f ih =>
    intro a ha
    rcases ha with rfl | ⟨b, hb, rfl, ht⟩
    · exact Or.inl (by rw [tRfF, if_pos rfl])
    · rw [tRfF, if_neg (nI_m1 (by omega)), xn_nI (by omega)]
      split
      · exact ih _ (h.aok hb ht)
      · exact Or.inr ⟨b, hb, rfl⟩
end Use
