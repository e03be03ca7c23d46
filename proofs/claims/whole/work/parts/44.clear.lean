/-! dying banks go: destroy, work -/
theorem ow_pos {s9 : Nat → Int32} {p b : Nat} (hp : p < 192) (e : s9 p = nI b) : 1 ≤ ow s9 b := by
  rcases Nat.lt_or_ge 0 (ow s9 b) with hh | hh
  · exact hh
  · have h0 : xcn (fun q => s9 q == nI b) 192 = 0 := Nat.le_zero.mp hh
    have hz := xcn_zero h0 p hp
    simp [e] at hz
section Clear
variable {t : Nat} {σ τ : xS}
/-- a dying bank with nothing left -/
def Dd (σ : xS) (b : Nat) : Prop := b < 40 ∧ σ 2 b = 2 ∧ σ 6 b = 0
theorem tCl_eq (σ : xS) : tCl σ = xup σ 2 (fun b => if b < 40 ∧ σ 2 b = 2 ∧ σ 6 b = 0 then 3 else σ 2 b) := by
  have : ∀ (f i : Nat) (ρ : xS), tClF f i ρ = xup ρ 2 (fun b => if (i ≤ b ∧ b < i + f) ∧ ρ 2 b = 2 ∧ ρ 6 b = 0 then 3 else ρ 2 b) := by
    intro f
    induction f with
    | zero =>
      intro i ρ
      rw [tClF]
      refine Eq.trans (xup_id ρ 2).symm (congrArg (xup ρ 2) (funext fun b => ?_))
      rw [if_neg (by omega)]
    | succ f ih =>
      intro i ρ
      rw [tClF, ih]
      by_cases e : ρ 2 i = 2 ∧ ρ 6 i = 0
      · rw [if_pos e, xu_xup, xup2]
        refine congrArg (xup ρ 2) (funext fun b => ?_)
        rw [xup_same, xup_ne (by decide)]
        by_cases eb : b = i
        · subst eb
          rw [if_pos (show (b ≤ b ∧ b < b + (f + 1)) ∧ ρ 2 b = 2 ∧ ρ 6 b = 0 from ⟨⟨by omega, by omega⟩, e⟩), if_neg (by omega), if_pos rfl]
        · rw [if_neg eb]
          by_cases ec : (i ≤ b ∧ b < i + (f + 1)) ∧ ρ 2 b = 2 ∧ ρ 6 b = 0
          · rw [if_pos ec, if_pos ⟨⟨by omega, by omega⟩, ec.2⟩]
          · rw [if_neg ec, if_neg (fun hh => ec ⟨⟨by omega, by omega⟩, hh.2⟩)]
      · rw [if_neg e]
        refine congrArg (xup ρ 2) (funext fun b => ?_)
        by_cases eb : b = i
        · subst eb
          rw [if_neg (by omega), if_neg (fun hh => e hh.2)]
        · by_cases ec : (i ≤ b ∧ b < i + (f + 1)) ∧ ρ 2 b = 2 ∧ ρ 6 b = 0
          · rw [if_pos ec, if_pos ⟨⟨by omega, by omega⟩, ec.2⟩]
          · rw [if_neg ec, if_neg (fun hh => ec ⟨⟨by omega, by omega⟩, hh.2⟩)]
  rw [tCl, this 40 0 σ]
  refine congrArg (xup σ 2) (funext fun b => ?_)
  by_cases e : b < 40 ∧ σ 2 b = 2 ∧ σ 6 b = 0
  · rw [if_pos e, if_pos ⟨⟨by omega, by omega⟩, e.2⟩]
  · rw [if_neg e, if_neg (fun hh => e ⟨by omega, hh.2⟩)]
theorem rPar_iff {ρ : xS} {b : Int32} : rPar ρ b = true ↔ ∃ i, i < 40 ∧ rPr ρ b i = true := by
  have : ∀ (f i : Nat) (r : Bool), i + f = 40 → (rPaF ρ b f i r = true ↔ r = true ∨ ∃ k, i ≤ k ∧ k < 40 ∧ rPr ρ b k = true) := by
    intro f
    induction f with
    | zero =>
      intro i r hi
      rw [rPaF]
      constructor
      · exact Or.inl
      · rintro (h | ⟨k, h1, h2, _⟩)
        · exact h
        · omega
    | succ f ih =>
      intro i r hi
      rw [rPaF, ih (i + 1) _ (by omega), Bool.or_eq_true]
      constructor
      · rintro ((h | h) | ⟨k, h1, h2, h3⟩)
        · exact Or.inl h
        · exact Or.inr ⟨i, Nat.le_refl _, by omega, h⟩
        · exact Or.inr ⟨k, by omega, h2, h3⟩
      · rintro (h | ⟨k, h1, h2, h3⟩)
        · exact Or.inl (Or.inl h)
        · by_cases e : k = i
          · subst e; exact Or.inl (Or.inr h3)
          · exact Or.inr ⟨k, by omega, h2, h3⟩
  rw [rPar, this 40 0 false rfl]
  constructor
  · rintro (h | ⟨k, _, h2, h3⟩)
    · cases h
    · exact ⟨k, h2, h3⟩
  · rintro ⟨k, h2, h3⟩; exact Or.inr ⟨k, Nat.zero_le _, h2, h3⟩
/-- the reference's rows while it clears -/
def Jc (σ τ ρ : xS) : Prop := ∃ h : Nat → Int32, ρ = xup τ 20 h ∧ ∀ b, h b = τ 20 b ∨ (Dd σ b ∧ h b = 0)
theorem Dd.wt0 (h : RC σ τ) (hD : DI (σ 2) (σ 3) (σ 5)) {d c : Nat} (hd : Dd σ d) (hc : c < 40) (tc : thr (σ 2) c = true) (hA : A (Pn (σ 3)) c d = true) : wt (σ 5) (σ 9) c = 0 := by
  obtain ⟨h1, h2, h3, h4, h5, h6, h7, h8, h9⟩ := h
  have td : thr (σ 2) d = true := thr_iff.mpr (by rw [hd.2.1]; decide)
  have e1 := wt_le h5 h6 hc tc hd.1 td hA
  have e2 := wt_nn (s9 := σ 9) h5 hc tc
  rw [hd.2.2, show (0 : Int32).toInt = 0 by decide] at e1
  omega
theorem Dd.child (h : RC σ τ) (hD : DI (σ 2) (σ 3) (σ 5)) {b c : Nat} (hb : Dd σ b) (hc : c < 40) (tc : thr (σ 2) c = true) (h0 : ¬ c = 0) (hP : Pn (σ 3) c = b) : Dd σ c := by
  have hd := hD b hb.1 hb.2.1
  have h2c := hd.2 c hc tc h0 hP
  refine ⟨hc, h2c, ?_⟩
  have hT := h.2.2.1.1
  have hU := h.2.2.2.2.2.1 c hc tc
  have : usum (σ 2) (σ 3) (σ 5) (σ 9) c = 0 := by
    rw [usum]
    rw [show xsum (fun d => if thr (σ 2) d && A (Pn (σ 3)) d c then wt (σ 5) (σ 9) d else 0) 40 = xsum (fun _ => 0) 40 from xsum_congr fun d hdd => by
      cases td : thr (σ 2) d
      · simp
      · cases hA : A (Pn (σ 3)) d c
        · simp
        · have hcb : A (Pn (σ 3)) c b = true := by
            rw [A_eq hT hc tc]
            simp [h0, hP, A_self]
          have := Dd.wt0 h hD hb hdd td (A_trans hT c b hcb d hdd td hA)
          simp [this]]
    exact xsum_0 40
  rw [ti_eq, hU, this]; decide
theorem rGo_D (h : RC σ τ) (hD : DI (σ 2) (σ 3) (σ 5)) {ρ : xS} (hJ : Jc σ τ ρ) {i : Nat} (hi : i < 40) (hg : rGo ρ i = true) : Dd σ i := by
  obtain ⟨hh, rfl, hJ⟩ := hJ
  have hT := h.2.2.1.1
  have hM := h.2.1
  simp only [rGo, Bool.and_eq_true, Bool.not_eq_true', beq_eq_false_iff_ne, beq_iff_eq] at hg
  obtain ⟨⟨⟨g1, g2⟩, g3⟩, g4⟩ := hg
  have g1' : ¬ hh i = 0 := g1
  have g2' : τ 23 i = 2 := g2
  have e20 : hh i = τ 20 i := (hJ i).resolve_right fun e => g1' e.2
  have ti : thr (σ 2) i = true := by
    rw [← hM.th hi, ← e20]; simp [g1']
  have h2i : σ 2 i = 2 := by rw [← hM.st hi ti]; exact g2'
  have h15 : (xup τ 20 hh) 15 = σ 9 := h.1.1
  have ow0 : ow (σ 9) i = 0 := by
    have e : rOwn (xup τ 20 hh) (nI i) = ow (σ 9) i := by rw [rOwn, h15]; rfl
    rw [e] at g3
    have hle := ow_le (σ 9) i
    exact (nI_eq (b := 0) (by omega) (by decide)).mp g3
  have h5i := (hD i hi h2i).1
  refine ⟨hi, h2i, ?_⟩
  have hU := h.2.2.2.2.2.1 i hi ti
  have : usum (σ 2) (σ 3) (σ 5) (σ 9) i = 0 := by
    rw [usum]
    rw [show xsum (fun d => if thr (σ 2) d && A (Pn (σ 3)) d i then wt (σ 5) (σ 9) d else 0) 40 = xsum (fun _ => 0) 40 from xsum_congr fun d hdd => by
      cases td : thr (σ 2) d
      · simp
      · cases hA : A (Pn (σ 3)) d i
        · simp
        · have hw : wt (σ 5) (σ 9) d = 0 := by
            by_cases ed : d = i
            · subst ed
              rw [wt, ow0, h5i]; decide
            · obtain ⟨e, e1, e2, e3, e4, e5⟩ := A_child hT d hdd td hA ed
              have he0 : hh e = 0 := by
                cases hc : hh e == 0
                · exfalso
                  have : rPar (xup τ 20 hh) (nI i) = true := rPar_iff.mpr ⟨e, e1, by
                    have q1 : (xup τ 20 hh) 20 e = hh e := rfl
                    have q2 : (xup τ 20 hh) 21 e = σ 3 e := congrFun h.1.2.2.2.1 e
                    rw [rPr, q1, q2, hc, h.2.2.1.2.2.1 e e1 e2 e3, e4]
                    simp⟩
                  rw [this] at g4; cases g4
                · simpa using hc
              have hDe : Dd σ e := by
                rcases hJ e with q | q
                · exfalso
                  have := hM.th e1
                  rw [← q, he0, e2] at this
                  cases this
                · exact q.1
              exact Dd.wt0 h hD hDe hdd td e5
          simp [hw]]
    exact xsum_0 40
  rw [ti_eq, hU, this]; decide
theorem Jc.go (h : RC σ τ) (hD : DI (σ 2) (σ 3) (σ 5)) {ρ : xS} (hJ : Jc σ τ ρ) {i : Nat} (hi : i < 40) (hg : rGo ρ i = true) : Jc σ τ (xu ρ 20 i 0) ∧ rTh (xu ρ 20 i 0) < rTh ρ := by
  have hd := rGo_D h hD hJ hi hg
  constructor
  · obtain ⟨hh, rfl, hJ⟩ := hJ
    refine ⟨fun j => if j = i then 0 else hh j, by rw [xu_xup, xup2]; rfl, fun b => ?_⟩
    by_cases e : b = i
    · subst e; exact Or.inr ⟨hd, if_pos rfl⟩
    · show (if b = i then 0 else hh b) = _ ∨ (_ ∧ (if b = i then 0 else hh b) = _)
      rw [if_neg e]; exact hJ b
  · have g1 : ¬ ρ 20 i = 0 := by
      simp only [rGo, Bool.and_eq_true, Bool.not_eq_true', beq_eq_false_iff_ne] at hg
      exact hg.1.1.1
    have := xcn_upd (p := fun b => !(ρ 20 b == 0)) (q := fun b => !(xu ρ 20 i 0 20 b == 0)) (k := i) (by simp [g1]) (by rw [xu_same]; rfl) (n := 40) hi (fun j _ hj => by rw [xu_at, if_neg hj])
    rw [rTh, rTh]; omega
theorem rPs_spec (h : RC σ τ) (hD : DI (σ 2) (σ 3) (σ 5)) : ∀ (f i : Nat) (m : Bool) (ρ : xS), i + f = 40 → Jc σ τ ρ → Jc σ τ (rPsF f i m ρ).2 ∧ rTh (rPsF f i m ρ).2 ≤ rTh ρ ∧ ((rPsF f i m ρ).1 = true → m = true ∨ rTh (rPsF f i m ρ).2 < rTh ρ) ∧ ((rPsF f i m ρ).1 = false → m = false ∧ (rPsF f i m ρ).2 = ρ ∧ ∀ k, i ≤ k → k < 40 → rGo ρ k = false) := by
  intro f
  induction f with
  | zero => intro i m ρ hi hJ; exact ⟨hJ, Nat.le_refl _, fun e => Or.inl e, fun e => ⟨e, rfl, fun k h1 h2 => by omega⟩⟩
  | succ f ih =>
    intro i m ρ hi hJ
    by_cases hg : rGo ρ i = true
    · have e : rPsF (f + 1) i m ρ = rPsF f (i + 1) true (xu ρ 20 i 0) := by rw [rPsF, if_pos hg]
      rw [e]
      have hg2 := hJ.go h hD (by omega : i < 40) hg
      obtain ⟨a1, a2, a3, a4⟩ := ih (i + 1) true (xu ρ 20 i 0) (by omega) hg2.1
      refine ⟨a1, by omega, fun _ => Or.inr (by omega), fun e => ?_⟩
      have := (a4 e).1
      cases this
    · have e : rPsF (f + 1) i m ρ = rPsF f (i + 1) m ρ := by rw [rPsF, if_neg hg]
      rw [e]
      obtain ⟨a1, a2, a3, a4⟩ := ih (i + 1) m ρ (by omega) hJ
      refine ⟨a1, a2, a3, fun e => ?_⟩
      obtain ⟨b1, b2, b3⟩ := a4 e
      refine ⟨b1, b2, fun k h1 h2 => ?_⟩
      by_cases ek : k = i
      · subst ek; simpa using hg
      · exact b3 k (by omega) h2
theorem rCl_spec (h : RC σ τ) (hD : DI (σ 2) (σ 3) (σ 5)) : ∀ (n : Nat) (ρ : xS), Jc σ τ ρ → rTh ρ < n → Jc σ τ (rClN n ρ) ∧ ∀ k, 1 ≤ k → k < 40 → rGo (rClN n ρ) k = false := by
  intro n
  induction n with
  | zero => intro ρ _ hn; omega
  | succ n ih =>
    intro ρ hJ hn
    obtain ⟨a1, a2, a3, a4⟩ := rPs_spec h hD 39 1 false ρ rfl hJ
    rw [rClN]
    by_cases hp : (rPass ρ).1 = true
    · rw [if_pos hp]
      have := (a3 hp).resolve_left (by simp)
      exact ih _ a1 (by have e : rTh (rPass ρ).2 < rTh ρ := this; omega)
    · rw [if_neg hp]
      have hp' : (rPass ρ).1 = false := by simpa using hp
      obtain ⟨-, b2, b3⟩ := a4 hp'
      have b2' : (rPass ρ).2 = ρ := b2
      rw [b2']
      exact ⟨hJ, b3⟩
theorem rClear_eq (h : RC σ τ) (hD : DI (σ 2) (σ 3) (σ 5)) : ∃ hh : Nat → Int32, rClear τ = xup τ 20 hh ∧ (∀ b, Dd σ b → hh b = 0) ∧ ∀ b, ¬ Dd σ b → hh b = τ 20 b := by
  have hJ0 : Jc σ τ τ := ⟨τ 20, (xup_id τ 20).symm, fun b => Or.inl rfl⟩
  obtain ⟨⟨hh, e, hJ⟩, hno⟩ := rCl_spec h hD 41 τ hJ0 (by have := xcn_le (fun b => !(τ 20 b == 0)) 40; rw [rTh]; omega)
  have e' : rClear τ = xup τ 20 hh := e
  refine ⟨hh, e', fun b hb => ?_, fun b hb => (hJ b).resolve_right fun q => hb q.1⟩
  rw [e] at hno
  have hT := h.2.2.1.1
  have hM := h.2.1
  cases hb0 : hh b == 0
  · exfalso
    have step : ∀ n, ∃ c, Dd σ c ∧ ¬ hh c = 0 ∧ ¬ ch (Pn (σ 3)) n c := by
      intro n
      induction n with
      | zero =>
        refine ⟨b, hb, by simpa using hb0, fun e => ?_⟩
        have : b = 0 := e
        have h20 := h.2.2.2.1.1
        rw [this] at hb
        rw [hb.2.1] at h20; exact absurd h20 (by decide)
      | succ n ih =>
        obtain ⟨c, hc, hc0, hcc⟩ := ih
        have tc : thr (σ 2) c = true := thr_iff.mpr (by rw [hc.2.1]; decide)
        have c0 : ¬ c = 0 := fun e => by
          have h20 := h.2.2.2.1.1
          rw [e] at hc
          rw [hc.2.1] at h20; exact absurd h20 (by decide)
        have hg := hno c (by omega) hc.1
        have ow0 : ow (σ 9) c = 0 := by
          have := Dd.wt0 h hD hc hc.1 tc (A_self c)
          rw [wt, (hD c hc.1 hc.2.1).1, show (0 : Int32).toInt = 0 by decide] at this
          omega
        have h15 : (xup τ 20 hh) 15 = σ 9 := h.1.1
        have q3 : nI (rOwn (xup τ 20 hh) (nI c)) = 0 := by
          have e : rOwn (xup τ 20 hh) (nI c) = ow (σ 9) c := by rw [rOwn, h15]; rfl
          rw [e, ow0]; rfl
        have q1 : (xup τ 20 hh) 20 c = hh c := rfl
        have q2 : (xup τ 20 hh) 23 c = 2 := (hM.st hc.1 tc).trans hc.2.1
        have hp : rPar (xup τ 20 hh) (nI c) = true := by
          cases hp : rPar (xup τ 20 hh) (nI c)
          · rw [rGo, q1, q2, q3, hp] at hg
            simp [hc0] at hg
          · rfl
        obtain ⟨d, hd, hpr⟩ := rPar_iff.mp hp
        simp only [rPr, Bool.and_eq_true, Bool.not_eq_true', beq_eq_false_iff_ne, beq_iff_eq] at hpr
        have d1 : ¬ hh d = 0 := hpr.1
        have d2 : σ 3 d = nI c := by rw [← hpr.2]; exact (congrFun h.1.2.2.2.1 d).symm
        have td : thr (σ 2) d = true := by
          rw [← hM.th hd, ← (hJ d).resolve_right fun q => d1 q.2]; simp [d1]
        have d0 : ¬ d = 0 := fun e => by
          rw [e, h.2.2.1.2.1] at d2
          exact nI_m1 (show c < 2 ^ 31 by have := hc.1; omega) d2.symm
        have dP : Pn (σ 3) d = c := by rw [Pn, d2, xn_nI (by have := hc.1; omega)]
        refine ⟨d, Dd.child h hD hc hd td d0 dP, d1, fun e => ?_⟩
        rcases e with e | e
        · exact d0 e
        · rw [dP] at e; exact hcc e
    obtain ⟨c, hc, -, hcc⟩ := step 6
    exact hcc (hT.2.2 c hc.1 (thr_iff.mpr (by rw [hc.2.1]; decide)))
  · simpa using hb0
/-- both clear alike -/
theorem RC.clear (h : RC σ τ) (hD : DI (σ 2) (σ 3) (σ 5)) : RC (tCl σ) (rClear τ) ∧ DI (tCl σ 2) (tCl σ 3) (tCl σ 5) ∧ (∃ s, tCl σ = xup σ 2 s) ∧ ∃ hh, rClear τ = xup τ 20 hh := by
  obtain ⟨hh, e, z1, z2⟩ := rClear_eq h hD
  obtain ⟨s2', hs2⟩ : ∃ s : Nat → Int32, s = fun b => if b < 40 ∧ σ 2 b = 2 ∧ σ 6 b = 0 then 3 else σ 2 b := ⟨_, rfl⟩
  have ec := tCl_eq σ
  rw [← hs2] at ec
  rw [ec, e]
  have sD : ∀ b, Dd σ b → s2' b = 3 := fun b hb => by rw [hs2]; exact if_pos hb
  have sN : ∀ b, ¬ Dd σ b → s2' b = σ 2 b := fun b hb => by rw [hs2]; exact if_neg hb
  have thD : ∀ b, thr s2' b = true → ¬ Dd σ b ∧ thr (σ 2) b = true := fun b tb => by
    by_cases hd : Dd σ b
    · exact absurd (sD b hd) (thr_iff.mp tb)
    · refine ⟨hd, ?_⟩
      rw [thr_iff, sN b hd] at tb
      exact thr_iff.mpr tb
  have thN : ∀ b, ¬ Dd σ b → thr (σ 2) b = true → thr s2' b = true := fun b hd tb => by
    rw [thr_iff, sN b hd]; exact thr_iff.mp tb
  have h' := h
  obtain ⟨h1, h2, h3, h4, h5, h6, h7, h8, h9⟩ := h
  have hT := h3.1
  have d0 : ¬ Dd σ 0 := fun hd => by have := h4.1; rw [hd.2.1] at this; exact absurd this (by decide)
  have hTa : TIa (thr s2') (Pn (σ 3)) := by
    refine ⟨thN 0 d0 hT.1, fun b hb tb b0 => ?_, fun b hb tb => hT.2.2 b hb (thD b tb).2⟩
    obtain ⟨nb, tb'⟩ := thD b tb
    have hp := hT.2.1 b hb tb' b0
    refine ⟨hp.1, thN _ (fun hd => nb (Dd.child h' hD hd hb tb' b0 rfl)) hp.2⟩
  refine ⟨⟨h1, ?_, ?_, ?_, ?_, ?_, ?_, h8, h9⟩, ?_, ⟨s2', rfl⟩, ⟨hh, rfl⟩⟩
  · intro b hb
    show (hh b = 0 ∧ s2' b = 3) ∨ (hh b = 1 ∧ τ 23 b = s2' b ∧ ¬ s2' b = 3)
    by_cases hd : Dd σ b
    · exact Or.inl ⟨z1 b hd, sD b hd⟩
    · rw [z2 b hd, sN b hd]; exact h2 b hb
  · exact ⟨hTa, h3.2.1, fun b hb tb => h3.2.2.1 b hb (thD b tb).2, h3.2.2.2⟩
  · refine ⟨(sN 0 d0).trans h4.1, fun b hb => ?_⟩
    show s2' b = 0 ∨ s2' b = 1 ∨ s2' b = 2 ∨ s2' b = 3
    by_cases hd : Dd σ b
    · rw [sD b hd]; exact Or.inr (Or.inr (Or.inr rfl))
    · rw [sN b hd]; exact h4.2 b hb
  · exact fun b hb tb => h5 b hb (thD b tb).2
  · intro b hb tb
    have tb' := (thD b tb).2
    refine (h6 b hb tb').trans ?_
    rw [usum, usum]
    refine xsum_congr fun c hc => ?_
    show (if thr (σ 2) c && A (Pn (σ 3)) c b then wt (σ 5) (σ 9) c else 0) = (if thr s2' c && A (Pn (σ 3)) c b then wt (σ 5) (σ 9) c else 0)
    by_cases hd : Dd σ c
    · have w0 : wt (σ 5) (σ 9) c = 0 := Dd.wt0 h' hD hd hc (thr_iff.mpr (by rw [hd.2.1]; decide)) (A_self c)
      rw [w0]; simp
    · have : thr s2' c = thr (σ 2) c := by rw [thr, thr, sN c hd]
      rw [this]
  · intro p hp
    rcases h7 p hp with e | ⟨b, hb, e, tb⟩
    · exact Or.inl e
    · refine Or.inr ⟨b, hb, e, thN b (fun hd => ?_) tb⟩
      have w0 := Dd.wt0 h' hD hd hb tb (A_self b)
      have h50 := (h5 b hb tb).1
      have := ow_pos hp e
      rw [wt] at w0
      omega
  · intro b hb h2b
    have hb2 : s2' b = 2 := h2b
    have nb : ¬ Dd σ b := fun hd => by rw [sD b hd] at hb2; exact absurd hb2 (by decide)
    rw [sN b nb] at hb2
    have hd := hD b hb hb2
    refine ⟨hd.1, fun c hc tc c0 hP => ?_⟩
    obtain ⟨nc, tc'⟩ := thD c tc
    show s2' c = 2
    rw [sN c nc]; exact hd.2 c hc tc' c0 hP
theorem dp_eq (h : RC σ τ) : xcn (rTbf τ) 192 = bDp σ := by
  refine xcn_congr fun p hp => ?_
  rw [rTbf, bDyP, h.1.1]
  rcases h.2.2.2.2.2.2.1 p hp with e | ⟨b, hb, e, tb⟩
  · rw [e]; simp [sTk, e]
  · have h1 := nI_pos (show b < 2 ^ 31 by omega)
    have h2 := nI_m1 (show b < 2 ^ 31 by omega)
    rw [e, sTk, e, tDy, xn_nI (show b < 2 ^ 31 by omega), h.2.1.st hb tb]
    simp [h1, h2]
end Clear
