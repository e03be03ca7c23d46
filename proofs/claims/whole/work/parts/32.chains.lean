/-! chains of parents: pure -/
def an (P : Nat → Nat) : Nat → Nat → Nat → Bool
  | 0, b, t => b == t
  | f + 1, b, t => (b == t) || (!(b == 0) && an P f (P b) t)
def ch (P : Nat → Nat) : Nat → Nat → Prop
  | 0, b => b = 0
  | f + 1, b => b = 0 ∨ ch P f (P b)
theorem an_s (P : Nat → Nat) (f b t : Nat) : an P (f + 1) b t = ((b == t) || (!(b == 0) && an P f (P b) t)) := rfl
section Chains
variable {P : Nat → Nat} {th : Nat → Bool}
theorem ch_up : ∀ {f b : Nat}, ch P f b → ch P (f + 1) b
  | 0, _, h => Or.inl h
  | _ + 1, _, Or.inl h => Or.inl h
  | _ + 1, _, Or.inr h => Or.inr (ch_up h)
theorem ch_le {f g b : Nat} (h : ch P f b) (hg : f ≤ g) : ch P g b := by
  induction g with
  | zero =>
    have : f = 0 := by omega
    subst this; exact h
  | succ g ih =>
    by_cases e : f = g + 1
    · subst e; exact h
    · exact ch_up (ih (by omega))
theorem ch_next {f b : Nat} (h : ch P (f + 1) b) (hb : ¬ b = 0) : ch P f (P b) := h.resolve_left hb
theorem an_fuel : ∀ {f b : Nat} (t : Nat), ch P f b → an P (f + 1) b t = an P f b t
  | 0, b, t, h => by
    have hb : b = 0 := h
    subst hb
    simp [an]
  | f + 1, b, t, h => by
    by_cases hb : b = 0
    · subst hb; simp [an]
    · have := an_fuel t (ch_next h hb)
      rw [an_s P (f + 1) b t, an_s P f b t, this]
theorem an_fuel_le {f b : Nat} (t : Nat) (h : ch P f b) : ∀ {g : Nat}, f ≤ g → an P g b t = an P f b t := by
  intro g hg
  induction g with
  | zero =>
    have : f = 0 := by omega
    subst this; rfl
  | succ g ih =>
    by_cases e : f = g + 1
    · rw [e]
    · rw [an_fuel t (ch_le h (by omega)), ih (by omega)]
/-- the banks that are there, and their parents -/
def TIa (th : Nat → Bool) (P : Nat → Nat) : Prop := th 0 = true ∧ (∀ b, b < 40 → th b = true → ¬ b = 0 → P b < 40 ∧ th (P b) = true) ∧ ∀ b, b < 40 → th b = true → ch P 6 b
abbrev A (P : Nat → Nat) (b t : Nat) : Bool := an P 6 b t
theorem A_eq (h : TIa th P) {b : Nat} (hb : b < 40) (ht : th b = true) (t : Nat) : A P b t = ((b == t) || (!(b == 0) && A P (P b) t)) := by
  have hc := h.2.2 b hb ht
  by_cases e : b = 0
  · subst e; simp [A, an]
  · have := an_fuel t (ch_next hc e)
    show an P 6 b t = _
    rw [an_s P 5 b t, ← this]
theorem A_ne (h : TIa th P) {b t : Nat} (hb : b < 40) (ht : th b = true) (h0 : ¬ b = 0) (hn : ¬ b = t) : A P b t = A P (P b) t := by
  rw [A_eq h hb ht t, show (b == t) = false from by simpa using hn, show (b == 0) = false from by simpa using h0]; rfl
theorem A_0 {t : Nat} : A P 0 t = ((0 : Nat) == t) := by simp [A, an]
theorem A_self (b : Nat) : A P b b = true := by simp [A, an]
/-- all that is there, from the root on -/
theorem th_ind (h : TIa th P) {Q : Nat → Prop} (h0 : Q 0) (hs : ∀ b, b < 40 → th b = true → ¬ b = 0 → Q (P b) → Q b) : ∀ b, b < 40 → th b = true → Q b := by
  have : ∀ f b, b < 40 → th b = true → ch P f b → Q b := by
    intro f
    induction f with
    | zero => intro b _ _ hc; have : b = 0 := hc; subst this; exact h0
    | succ f ih =>
      intro b hb ht hc
      by_cases e : b = 0
      · subst e; exact h0
      · have hp := h.2.1 b hb ht e
        exact hs b hb ht e (ih (P b) hp.1 hp.2 (ch_next hc e))
  exact fun b hb ht => this 6 b hb ht (h.2.2 b hb ht)
theorem A_root (h : TIa th P) : ∀ b, b < 40 → th b = true → A P b 0 = true :=
  th_ind h (A_self 0) (fun b hb ht e ih => by rw [A_eq h hb ht]; simp [e, ih])
theorem A_th (h : TIa th P) : ∀ b, b < 40 → th b = true → ∀ t, A P b t = true → t < 40 ∧ th t = true :=
  th_ind h (fun t ht => by
    rw [A_0] at ht
    have : 0 = t := by simpa using ht
    subst this; exact ⟨by omega, h.1⟩) (fun b hb ht e ih t hA => by
    by_cases et : b = t
    · subst et; exact ⟨hb, ht⟩
    · exact ih t (by rw [← A_ne h hb ht e et]; exact hA))
theorem A_trans (h : TIa th P) (c d : Nat) (hc : A P c d = true) : ∀ b, b < 40 → th b = true → A P b c = true → A P b d = true :=
  th_ind h (fun h1 => by
    rw [A_0] at h1
    have : 0 = c := by simpa using h1
    rw [this]; exact hc) (fun b hb ht e ih h1 => by
    by_cases et : b = c
    · rw [et]; exact hc
    · rw [A_ne h hb ht e et] at h1
      rw [A_eq h hb ht]
      simp [e, ih h1])
theorem ch_an : ∀ {g f b t : Nat}, ch P f b → an P g b t = true → ch P f t
  | 0, f, b, t, h, ha => by
    have : b = t := by simpa [an] using ha
    rw [← this]; exact h
  | g + 1, f, b, t, h, ha => by
    by_cases e : b = t
    · rw [← e]; exact h
    · by_cases e0 : b = 0
      · simp [an, e, e0] at ha
        exact absurd (e0.trans ha) e
      · have ha' : an P g (P b) t = true := by simpa [an, e, e0] using ha
        cases f with
        | zero => exact absurd h e0
        | succ f => exact ch_up (ch_an (ch_next h e0) ha')
theorem acyc {g b : Nat} (ha : an P g (P b) b = true) (h0 : ¬ b = 0) : ∀ f, ¬ ch P f b := by
  intro f
  induction f with
  | zero => exact fun h => h0 h
  | succ f ih => exact fun h => ih (ch_an (ch_next h h0) ha)
theorem A_up (h : TIa th P) {b : Nat} (hb : b < 40) (ht : th b = true) (h0 : ¬ b = 0) : A P (P b) b = false := by
  cases e : A P (P b) b
  · rfl
  · exact absurd (h.2.2 b hb ht) (acyc e h0 6)
theorem A_anti (h : TIa th P) {b c : Nat} (hb : b < 40) (ht : th b = true) (hc : c < 40) (htc : th c = true) (h1 : A P b c = true) (h2 : A P c b = true) : b = c := by
  by_cases e : b = c
  · exact e
  · exfalso
    by_cases e0 : b = 0
    · subst e0
      rw [A_0] at h1
      exact e (by simpa using h1)
    · rw [A_ne h hb ht e0 e] at h1
      have hp := h.2.1 b hb ht e0
      have := A_trans h c b h2 (P b) hp.1 hp.2 h1
      rw [A_up h hb ht e0] at this
      cases this
/-- below b: b itself, or below exactly one child of b -/
theorem A_child (h : TIa th P) {b : Nat} : ∀ c, c < 40 → th c = true → A P c b = true → ¬ c = b → ∃ d, d < 40 ∧ th d = true ∧ ¬ d = 0 ∧ P d = b ∧ A P c d = true :=
  th_ind h (fun h1 hn => by
    rw [A_0] at h1
    exact absurd (by simpa using h1) hn) (fun c hc ht e ih h1 hn => by
    rw [A_ne h hc ht e hn] at h1
    by_cases ep : P c = b
    · exact ⟨c, hc, ht, e, ep, A_self c⟩
    · obtain ⟨d, d1, d2, d3, d4, d5⟩ := ih h1 ep
      refine ⟨d, d1, d2, d3, d4, ?_⟩
      rw [A_eq h hc ht]; simp [e, d5])
theorem A_child1 (h : TIa th P) {d d' : Nat} (hd : d < 40) (td : th d = true) (h0 : ¬ d = 0) (hd' : d' < 40) (td' : th d' = true) (h0' : ¬ d' = 0) (hp : P d = P d') : ∀ c, c < 40 → th c = true → A P c d = true → A P c d' = true → d = d' :=
  th_ind h (fun h1 _ => by
    rw [A_0] at h1
    exact absurd (by simpa using h1 : 0 = d).symm h0) (fun c hc ht e ih h1 h2 => by
    by_cases e1 : c = d
    · subst e1
      by_cases e2 : c = d'
      · exact e2
      · rw [A_ne h hc ht e e2, hp] at h2
        rw [A_up h hd' td' h0'] at h2
        cases h2
    · rw [A_ne h hc ht e e1] at h1
      by_cases e2 : c = d'
      · subst e2
        rw [← hp, A_up h hd td h0] at h1
        cases h1
      · rw [A_ne h hc ht e e2] at h2
        exact ih h1 h2)
end Chains
