/-! handUp: the tree -/
theorem xcn_or {p a b : Nat → Bool} : ∀ {n : Nat}, (∀ i, i < n → (if p i then 1 else 0) = (if a i then 1 else 0) + (if b i then 1 else 0)) → xcn p n = xcn a n + xcn b n
  | 0, _ => rfl
  | n + 1, h => by
    have h1 := xcn_or (n := n) fun i hi => h i (by omega)
    have h2 := h n (by omega)
    simp only [xcn]
    omega
section MergeChains
variable {P P' : Nat → Nat} {th th' : Nat → Bool} {g : Nat}
/-- g's banks go to its parent -/
def Mg (th th' : Nat → Bool) (P P' : Nat → Nat) (g : Nat) : Prop := (∀ b, th' b = true ↔ th b = true ∧ ¬ b = g) ∧ ∀ b, b < 40 → th b = true → ¬ b = 0 → ¬ b = g → P' b = if P b = g then P g else P b
theorem Mg.hne (hT : TIa th P) (hg : g < 40) (tg : th g = true) (g0 : ¬ g = 0) : ¬ P g = g := fun e => by
  have := A_up hT hg tg g0
  rw [e, A_self] at this; cases this
theorem Mg.chain (hT : TIa th P) (hM : Mg th th' P P' g) (hg : g < 40) (tg : th g = true) (g0 : ¬ g = 0) : ∀ f b, b < 40 → th b = true → ch P f b → (¬ b = g → ch P' f b) ∧ (b = g → ch P' f (P g)) := by
  have hn := Mg.hne hT hg tg g0
  intro f
  induction f with
  | zero =>
    intro b hb tb hc
    have : b = 0 := hc
    exact ⟨fun _ => this, fun e => absurd (e.symm.trans this) g0⟩
  | succ f ih =>
    intro b hb tb hc
    by_cases b0 : b = 0
    · exact ⟨fun _ => Or.inl b0, fun e => absurd (e.symm.trans b0) g0⟩
    · have hc' := ch_next hc b0
      have hp := hT.2.1 b hb tb b0
      obtain ⟨i1, i2⟩ := ih (P b) hp.1 hp.2 hc'
      refine ⟨fun e => Or.inr ?_, fun e => ?_⟩
      · rw [hM.2 b hb tb b0 e]
        by_cases q : P b = g
        · rw [if_pos q]; exact i2 q
        · rw [if_neg q]; exact i1 q
      · subst e; exact ch_up (i1 hn)
theorem Mg.tia (hT : TIa th P) (hM : Mg th th' P P' g) (hg : g < 40) (tg : th g = true) (g0 : ¬ g = 0) : TIa th' P' := by
  have hn := Mg.hne hT hg tg g0
  refine ⟨(hM.1 0).mpr ⟨hT.1, fun e => g0 e.symm⟩, fun b hb tb b0 => ?_, fun b hb tb => ?_⟩
  · obtain ⟨t1, t2⟩ := (hM.1 b).mp tb
    rw [hM.2 b hb t1 b0 t2]
    by_cases q : P b = g
    · rw [if_pos q]
      have := hT.2.1 g hg tg g0
      exact ⟨this.1, (hM.1 _).mpr ⟨this.2, hn⟩⟩
    · rw [if_neg q]
      have := hT.2.1 b hb t1 b0
      exact ⟨this.1, (hM.1 _).mpr ⟨this.2, q⟩⟩
  · obtain ⟨t1, t2⟩ := (hM.1 b).mp tb
    exact (Mg.chain hT hM hg tg g0 6 b hb t1 (hT.2.2 b hb t1)).1 t2
theorem Mg.up (hT : TIa th P) (hM : Mg th th' P P' g) (hg : g < 40) (tg : th g = true) (g0 : ¬ g = 0) {u : Nat} (hu : ¬ u = g) : ∀ b, b < 40 → th b = true → (¬ b = g → A P' b u = A P b u) ∧ (b = g → A P' (P g) u = A P (P g) u) := by
  have hn := Mg.hne hT hg tg g0
  have hT' := Mg.tia hT hM hg tg g0
  refine th_ind hT ⟨fun _ => by rw [A_0, A_0], fun e => absurd e.symm g0⟩ (fun b hb tb b0 ih => ⟨fun e => ?_, fun e => ?_⟩)
  · rw [A_eq hT' hb ((hM.1 b).mpr ⟨tb, e⟩), A_eq hT hb tb, hM.2 b hb tb b0 e]
    by_cases q : P b = g
    · rw [if_pos q, ih.2 q, q, A_ne hT hg tg g0 (fun e => hu e.symm)]
    · rw [if_neg q, ih.1 q]
  · subst e; exact ih.1 hn
end MergeChains
section Merge
variable {t : Nat} {σ τ σ' τ' : xS}
theorem tMgF_eq (x y : Int32) : ∀ (f i : Nat) (ρ : xS), i + f ≤ 40 → tMgF x y f i ρ = xup ρ 3 (fun b => if (i ≤ b ∧ b < i + f) ∧ thr (ρ 2) b = true ∧ ρ 3 b = x then y else ρ 3 b) := by
  intro f
  induction f with
  | zero =>
    intro i ρ _
    rw [tMgF]
    refine Eq.trans (xup_id ρ 3).symm (congrArg (xup ρ 3) (funext fun b => ?_))
    rw [if_neg (by omega)]
  | succ f ih =>
    intro i ρ hi
    rw [tMgF, ih _ _ (by omega), tBk_thr (by omega : i < 40)]
    by_cases e : thr (ρ 2) i = true ∧ ρ 3 i = x
    · rw [if_pos e, xu_xup, xup2]
      refine congrArg (xup ρ 3) (funext fun b => ?_)
      rw [xup_same, xup_ne (by decide)]
      by_cases eb : b = i
      · subst eb
        rw [if_pos (show (b ≤ b ∧ b < b + (f + 1)) ∧ thr (ρ 2) b = true ∧ ρ 3 b = x from ⟨⟨by omega, by omega⟩, e⟩), if_neg (by omega), if_pos rfl]
      · rw [if_neg eb]
        by_cases ec : (i ≤ b ∧ b < i + (f + 1)) ∧ thr (ρ 2) b = true ∧ ρ 3 b = x
        · rw [if_pos ec, if_pos ⟨⟨by omega, by omega⟩, ec.2⟩]
        · rw [if_neg ec, if_neg (fun hh => ec ⟨⟨by omega, by omega⟩, hh.2⟩)]
    · rw [if_neg e]
      refine congrArg (xup ρ 3) (funext fun b => ?_)
      by_cases eb : b = i
      · subst eb
        rw [if_neg (by omega), if_neg (fun hh => e hh.2)]
      · by_cases ec : (i ≤ b ∧ b < i + (f + 1)) ∧ thr (ρ 2) b = true ∧ ρ 3 b = x
        · rw [if_pos ec, if_pos ⟨⟨by omega, by omega⟩, ec.2⟩]
        · rw [if_neg ec, if_neg (fun hh => ec ⟨⟨by omega, by omega⟩, hh.2⟩)]
theorem rHpF_eq (x y : Int32) : ∀ (f i : Nat) (ρ : xS), rHpF x y f i ρ = xup ρ 21 (fun b => if (i ≤ b ∧ b < i + f) ∧ ¬ ρ 20 b = 0 ∧ ρ 21 b = x then y else ρ 21 b) := by
  intro f
  induction f with
  | zero =>
    intro i ρ
    rw [rHpF]
    refine Eq.trans (xup_id ρ 21).symm (congrArg (xup ρ 21) (funext fun b => ?_))
    rw [if_neg (by omega)]
  | succ f ih =>
    intro i ρ
    rw [rHpF, ih, xu_xup, xup2]
    refine congrArg (xup ρ 21) (funext fun b => ?_)
    rw [xup_same, xup_ne (by decide)]
    by_cases eb : b = i
    · subst eb
      rw [if_neg (by omega), if_pos rfl]
      by_cases e : ¬ ρ 20 b = 0 ∧ ρ 21 b = x
      · rw [if_pos e, if_pos ⟨⟨by omega, by omega⟩, e⟩]
      · rw [if_neg e, if_neg (fun hh => e hh.2)]
    · rw [if_neg eb]
      by_cases ec : (i ≤ b ∧ b < i + (f + 1)) ∧ ¬ ρ 20 b = 0 ∧ ρ 21 b = x
      · rw [if_pos ec, if_pos ⟨⟨by omega, by omega⟩, ec.2⟩]
      · rw [if_neg ec, if_neg (fun hh => ec ⟨⟨by omega, by omega⟩, hh.2⟩)]
/-- the bank g is merged into its parent r -/
theorem RC.merge {g r : Nat} (h : RC σ τ) (hD : DI (σ 2) (σ 3) (σ 5)) (hg : g < 40) (tg : thr (σ 2) g = true) (g0 : ¬ g = 0) (gd : ¬ σ 2 g = 2) (hr : Pn (σ 3) g = r)
    (e2 : ∀ b, σ' 2 b = if b = g then 3 else σ 2 b) (e3 : ∀ b, σ' 3 b = if b < 40 ∧ thr (σ 2) b = true ∧ ¬ b = g ∧ σ 3 b = nI g then nI r else σ 3 b) (e5 : ∀ b, σ' 5 b = if b = r then σ 5 r + σ 5 g else σ 5 b)
    (e9 : ∀ p, p < 192 → σ' 9 p = if σ 9 p = nI g then nI r else σ 9 p) (e4 : σ' 4 = σ 4) (e6 : σ' 6 = σ 6) (e8 : σ' 8 = σ 8) (e10 : σ' 10 = σ 10)
    (hE : EQ σ' τ') (q17 : τ' 17 = τ 17) (q20 : ∀ b, τ' 20 b = if b = g then 0 else τ 20 b) (q23 : τ' 23 = τ 23) : RC σ' τ' ∧ DI (σ' 2) (σ' 3) (σ' 5) := by
  obtain ⟨h1, h2, h3, h4, h5, h6, h7, h8, h9⟩ := h
  have hT := h3.1
  have hp := hT.2.1 g hg tg g0
  rw [hr] at hp
  have rg : ¬ r = g := by rw [← hr]; exact Mg.hne hT hg tg g0
  have tr := hp.2
  have hr40 := hp.1
  have rd : ¬ σ 2 r = 2 := fun e => gd ((hD r hr40 e).2 g hg tg g0 hr)
  have th' : ∀ b, thr (σ' 2) b = true ↔ thr (σ 2) b = true ∧ ¬ b = g := fun b => by
    rw [thr_iff, e2 b, thr_iff]
    by_cases e : b = g
    · rw [if_pos e]; simp [e]
    · rw [if_neg e]; simp [e]
  have P' : ∀ b, b < 40 → thr (σ 2) b = true → ¬ b = 0 → ¬ b = g → Pn (σ' 3) b = if Pn (σ 3) b = g then Pn (σ 3) g else Pn (σ 3) b := fun b hb tb b0 bg => by
    have eb := h3.2.2.1 b hb tb b0
    rw [Pn, e3 b]
    by_cases q : Pn (σ 3) b = g
    · rw [if_pos q, if_pos ⟨hb, tb, bg, by rw [eb, q]⟩, xn_nI (by omega), hr]
    · rw [if_neg q, if_neg (fun hh => q (by rw [Pn, hh.2.2.2, xn_nI (by omega)]))]; rfl
  have hM : Mg (thr (σ 2)) (thr (σ' 2)) (Pn (σ 3)) (Pn (σ' 3)) g := ⟨th', P'⟩
  have hT' := Mg.tia hT hM hg tg g0
  have og := own_res h5 h6 hg tg
  have or' := own_res h5 h6 hr40 tr
  have s5r : (σ' 5 r).toInt = (σ 5 r).toInt + (σ 5 g).toInt := by
    rw [e5 r, if_pos rfl, tiA (by omega) (by omega)]
  have s5n : ∀ b, ¬ b = r → σ' 5 b = σ 5 b := fun b hb => by rw [e5 b, if_neg hb]
  have nrg : ¬ nI r = nI g := fun e => rg ((nI_eq (by omega) (by omega)).mp e)
  have owr : ow (σ' 9) r = ow (σ 9) r + ow (σ 9) g := xcn_or fun p hp => by
    rw [e9 p hp]
    by_cases q : σ 9 p = nI g
    · rw [if_pos q, q]
      have ngr : ¬ nI g = nI r := fun e => nrg e.symm
      simp [ngr]
    · rw [if_neg q]
      simp [q]
  have own : ∀ b, b < 40 → ¬ b = r → ¬ b = g → ow (σ' 9) b = ow (σ 9) b := fun b hb b1 b2 => xcn_congr fun p hp => by
    rw [e9 p hp]
    by_cases q : σ 9 p = nI g
    · have n1 : ¬ nI r = nI b := fun e => b1 ((nI_eq (by omega) (by omega)).mp e).symm
      have n2 : ¬ nI g = nI b := fun e => b2 ((nI_eq (by omega) (by omega)).mp e).symm
      rw [if_pos q, q, beq_eq_false_iff_ne.mpr n1, beq_eq_false_iff_ne.mpr n2]
    · rw [if_neg q]
  refine ⟨⟨hE, ?_, ⟨hT', ?_, ?_, ?_⟩, ⟨?_, ?_⟩, ?_, ?_, ?_, ?_, ?_⟩, ?_⟩
  · intro b hb
    rw [q20 b, q23, e2 b]
    by_cases e : b = g
    · rw [if_pos e, if_pos e]; exact Or.inl ⟨rfl, rfl⟩
    · rw [if_neg e, if_neg e]; exact h2 b hb
  · rw [e3 0, if_neg (fun hh => nI_m1 (show g < 2 ^ 31 by omega) (by rw [← hh.2.2.2]; exact h3.2.1))]; exact h3.2.1
  · intro b hb tb b0
    obtain ⟨t1, t2⟩ := (th' b).mp tb
    rw [P' b hb t1 b0 t2, e3 b]
    have eb := h3.2.2.1 b hb t1 b0
    by_cases q : Pn (σ 3) b = g
    · rw [if_pos q, if_pos ⟨hb, t1, t2, by rw [eb, q]⟩, hr]
    · rw [if_neg q, if_neg (fun hh => q (by rw [Pn, hh.2.2.2, xn_nI (by omega)]))]; exact eb
  · intro b hb
    rw [e3 b]
    split
    · exact Or.inr (vp_in_nI hr40 (by decide))
    · exact h3.2.2.2 b hb
  · rw [e2 0, if_neg (fun e => g0 e.symm)]; exact h4.1
  · intro b hb
    rw [e2 b]
    split
    · exact Or.inr (Or.inr (Or.inr rfl))
    · exact h4.2 b hb
  · intro b hb tb
    obtain ⟨t1, t2⟩ := (th' b).mp tb
    rw [e4, e6]
    have := h5 b hb t1
    refine ⟨?_, this.2⟩
    by_cases e : b = r
    · rw [e, s5r]; omega
    · rw [s5n b e]; exact this.1
  · intro b hb tb
    obtain ⟨t1, t2⟩ := (th' b).mp tb
    rw [e6, h6 b hb t1]
    have hAu := Mg.up hT hM hg tg g0 (u := b) t2
    obtain ⟨F, hF⟩ : ∃ F : Nat → Int, F = fun c => if thr (σ 2) c && A (Pn (σ 3)) c b then wt (σ 5) (σ 9) c else 0 := ⟨_, rfl⟩
    obtain ⟨G, hG⟩ : ∃ G : Nat → Int, G = fun c => if thr (σ' 2) c && A (Pn (σ' 3)) c b then wt (σ' 5) (σ' 9) c else 0 := ⟨_, rfl⟩
    obtain ⟨K, hK⟩ : ∃ K : Nat → Int, K = fun c => if c = g then 0 else F c := ⟨_, rfl⟩
    have Fg : F g = if A (Pn (σ 3)) r b then wt (σ 5) (σ 9) g else 0 := by
      rw [hF]
      show (if thr (σ 2) g && A (Pn (σ 3)) g b then wt (σ 5) (σ 9) g else 0) = _
      rw [tg, A_ne hT hg tg g0 (fun e => t2 e.symm), hr, Bool.true_and]
    have Fr : F r = if A (Pn (σ 3)) r b then wt (σ 5) (σ 9) r else 0 := by
      rw [hF]
      show (if thr (σ 2) r && A (Pn (σ 3)) r b then wt (σ 5) (σ 9) r else 0) = _
      rw [tr, Bool.true_and]
    have tr' : thr (σ' 2) r = true := (th' r).mpr ⟨tr, rg⟩
    have wr : wt (σ' 5) (σ' 9) r = wt (σ 5) (σ 9) r + wt (σ 5) (σ 9) g := by
      rw [wt, wt, wt, owr, s5r]; omega
    have Gr : G r = if A (Pn (σ 3)) r b then wt (σ 5) (σ 9) r + wt (σ 5) (σ 9) g else 0 := by
      rw [hG]
      show (if thr (σ' 2) r && A (Pn (σ' 3)) r b then wt (σ' 5) (σ' 9) r else 0) = _
      rw [tr', Bool.true_and, (hAu r hr40 tr).1 rg, wr]
    have Kg : K g = 0 := by rw [hK]; exact if_pos rfl
    have Kn : ∀ c, ¬ c = g → K c = F c := fun c hc => by rw [hK]; exact if_neg hc
    have x1 := xsum_upd (f := F) (g := K) (k := g) (n := 40) hg (fun c _ hc => Kn c hc)
    have x2 := xsum_upd (f := K) (g := G) (k := r) (n := 40) hr40 (fun c hc hcr => by
      by_cases e : c = g
      · rw [e, Kg, hG]
        show (if thr (σ' 2) g && A (Pn (σ' 3)) g b then wt (σ' 5) (σ' 9) g else 0) = 0
        have : thr (σ' 2) g = false := by
          cases hh : thr (σ' 2) g
          · rfl
          · exact absurd rfl ((th' g).mp hh).2
        rw [this]; simp
      · rw [Kn c e, hG, hF]
        show (if thr (σ' 2) c && A (Pn (σ' 3)) c b then wt (σ' 5) (σ' 9) c else 0) = (if thr (σ 2) c && A (Pn (σ 3)) c b then wt (σ 5) (σ 9) c else 0)
        cases tc : thr (σ 2) c
        · have : thr (σ' 2) c = false := by
            cases hh : thr (σ' 2) c
            · rfl
            · have := ((th' c).mp hh).1
              rw [tc] at this; cases this
          rw [this]; simp
        · have : thr (σ' 2) c = true := (th' c).mpr ⟨tc, e⟩
          rw [this, (hAu c hc tc).1 e, wt, wt, own c hc hcr e, s5n c hcr])
    rw [usum, usum, ← hF, ← hG, x2, x1, Kg, Kn r rg, Gr, Fr, Fg]
    split
    · omega
    · omega
  · intro p hp
    rw [e9 p hp]
    by_cases q : σ 9 p = nI g
    · rw [if_pos q]; exact Or.inr ⟨r, hr40, rfl, (th' r).mpr ⟨tr, rg⟩⟩
    · rw [if_neg q]
      rcases h7 p hp with e | ⟨b, hb, e, tb⟩
      · exact Or.inl e
      · exact Or.inr ⟨b, hb, e, (th' b).mpr ⟨tb, fun eb => q (by rw [e, eb])⟩⟩
  · intro p hp
    have := h8 p hp
    rw [e8, e9 p hp]
    refine ⟨this.1, this.2.1, fun hn => this.2.2 fun e => hn ?_⟩
    rw [if_neg (fun q => nI_m1 (show g < 2 ^ 31 by omega) (by rw [← q]; exact e))]; exact e
  · intro p hp hn
    rw [e10, q17]
    refine h9 p hp fun e => hn ?_
    rw [e9 p hp, if_neg (fun q => nI_m1 (show g < 2 ^ 31 by omega) (by rw [← q]; exact e))]; exact e
  · intro b hb h2b
    rw [e2 b] at h2b
    by_cases e : b = g
    · rw [if_pos e] at h2b; exact absurd h2b (by decide)
    · rw [if_neg e] at h2b
      have br : ¬ b = r := fun q => rd (by rw [← q]; exact h2b)
      have hd := hD b hb h2b
      refine ⟨(s5n b br).trans hd.1, fun c hc tc c0 hP => ?_⟩
      obtain ⟨t1, t2⟩ := (th' c).mp tc
      rw [P' c hc t1 c0 t2] at hP
      rw [e2 c, if_neg t2]
      by_cases q : Pn (σ 3) c = g
      · rw [if_pos q, hr] at hP; exact absurd hP.symm br
      · rw [if_neg q] at hP; exact hd.2 c hc t1 c0 hP
end Merge
