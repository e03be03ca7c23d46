/-! the class's rows beside the reference's -/
def thr (s2 : Nat → Int32) (b : Nat) : Bool := !(s2 b == 3)
def Pn (s3 : Nat → Int32) (b : Nat) : Nat := xn (s3 b)
def ow (s9 : Nat → Int32) (b : Nat) : Nat := xcn (fun p => s9 p == nI b) 192
def wt (s5 s9 : Nat → Int32) (c : Nat) : Int := (ow s9 c : Int) + (s5 c).toInt
def usum (s2 s3 s5 s9 : Nat → Int32) (b : Nat) : Int := xsum (fun c => if thr s2 c && A (Pn s3) c b then wt s5 s9 c else 0) 40
def TI (s2 s3 : Nat → Int32) : Prop := TIa (thr s2) (Pn s3) ∧ s3 0 = -1 ∧ (∀ b, b < 40 → thr s2 b = true → ¬ b = 0 → s3 b = nI (Pn s3 b)) ∧ ∀ b, b < 40 → s3 b = -1 ∨ vp_in (s3 b) 40
def SI (s2 : Nat → Int32) : Prop := s2 0 = 0 ∧ ∀ b, b < 40 → s2 b = 0 ∨ s2 b = 1 ∨ s2 b = 2 ∨ s2 b = 3
def LI (s2 s4 s5 s6 : Nat → Int32) : Prop := ∀ b, b < 40 → thr s2 b = true → 0 ≤ (s5 b).toInt ∧ (s6 b).toInt ≤ (s4 b).toInt ∧ (s4 b).toInt ≤ 192
def UI (s2 s3 s5 s6 s9 : Nat → Int32) : Prop := ∀ b, b < 40 → thr s2 b = true → (s6 b).toInt = usum s2 s3 s5 s9 b
def DI (s2 s3 s5 : Nat → Int32) : Prop := ∀ b, b < 40 → s2 b = 2 → s5 b = 0 ∧ ∀ c, c < 40 → thr s2 c = true → ¬ c = 0 → Pn s3 c = b → s2 c = 2
def OI (s2 s9 : Nat → Int32) : Prop := ∀ p, p < 192 → s9 p = -1 ∨ ∃ b, b < 40 ∧ s9 p = nI b ∧ thr s2 b = true
def VI (s8 s9 : Nat → Int32) : Prop := ∀ p, p < 192 → 0 ≤ (s8 p).toInt ∧ (s8 p).toInt ≤ 7 ∧ (¬ s9 p = -1 → 1 ≤ (s8 p).toInt)
def RI (s9 s10 s17 : Nat → Int32) : Prop := ∀ p, p < 192 → ¬ s9 p = -1 → s10 p = s17 p + 1
def OLL (L : List Nat) (s9 s12 s18 : Nat → Int32) (n6 n7 : Int32) (B : Int) : Prop := n6 = nI L.length ∧ (∀ i p, L[i]? = some p → s12 i = nI p) ∧ (∀ p, p ∈ L ↔ p < 192 ∧ ¬ s9 p = -1) ∧ L.Pairwise (fun p q => (s18 p).toInt < (s18 q).toInt) ∧ (∀ p, p ∈ L → (s18 p).toInt < n7.toInt) ∧ 0 ≤ n7.toInt ∧ n7.toInt ≤ B
def OL (s9 s12 s18 : Nat → Int32) (n6 n7 : Int32) (t : Nat) : Prop := ∃ L : List Nat, OLL L s9 s12 s18 n6 n7 (192 * (t : Int))
def TMr (s2 s20 s23 : Nat → Int32) : Prop := ∀ b, b < 40 → (s20 b = 0 ∧ s2 b = 3) ∨ (s20 b = 1 ∧ s23 b = s2 b ∧ ¬ s2 b = 3)
/-- the rows that are alike -/
def EQ (σ τ : xS) : Prop := τ 15 = σ 9 ∧ τ 16 = σ 8 ∧ τ 19 = σ 11 ∧ τ 21 = σ 3 ∧ τ 22 = σ 4 ∧ τ 24 = σ 5 ∧ τ 14 13 = σ 0 2 ∧ τ 14 6 = σ 7 7
/-- of the class's state σ and the reference's τ, after t calls -/
def Rel (t : Nat) (σ τ : xS) : Prop := EQ σ τ ∧ TMr (σ 2) (τ 20) (τ 23) ∧ TI (σ 2) (σ 3) ∧ SI (σ 2) ∧ LI (σ 2) (σ 4) (σ 5) (σ 6) ∧ UI (σ 2) (σ 3) (σ 5) (σ 6) (σ 9) ∧ DI (σ 2) (σ 3) (σ 5) ∧ OI (σ 2) (σ 9) ∧ VI (σ 8) (σ 9) ∧ RI (σ 9) (σ 10) (τ 17) ∧ OL (σ 9) (σ 12) (τ 18) (σ 7 6) (τ 14 7) t
theorem xn_nI {b : Nat} (h : b < 2 ^ 31) : xn (nI b) = b := nI_clamp h
theorem nI_m1 {b : Nat} (h : b < 2 ^ 31) : ¬ nI b = -1 := fun e => by
  have := congrArg Int32.toInt e
  rw [nI_toInt h] at this
  have e1 : (-1 : Int32).toInt = -1 := by decide
  rw [e1] at this; omega
theorem vpi_of {x : Int32} {n : Nat} (hn : n < 2 ^ 31) (h1 : ¬ x < 0) (h2 : x.toInt < n) : vp_in x n := by
  obtain ⟨j, hj, rfl⟩ := nI_of h1
  rw [nI_toInt hj] at h2
  exact vp_in_nI (by omega) (by omega)
theorem in_of_vp {x : Int32} {n : Nat} (hn : n < 2 ^ 31) (h : vp_in x n) : ∃ b, b < n ∧ x = nI b := by
  have h1 : ¬ x < 0 := fun h' => h (Or.inl h')
  have h2 : ¬ n ≤ x.toNatClampNeg := fun h' => h (Or.inr h')
  obtain ⟨j, hj, rfl⟩ := nI_of h1
  rw [nI_clamp hj] at h2
  exact ⟨j, by omega, rfl⟩
theorem thr_iff {s2 : Nat → Int32} {b : Nat} : thr s2 b = true ↔ ¬ s2 b = 3 := by simp [thr]
theorem tBk_iff {σ : xS} {x : Int32} : tBk σ x = true ↔ ∃ b, b < 40 ∧ x = nI b ∧ thr (σ 2) b = true := by
  constructor
  · intro h
    simp only [tBk, Bool.and_eq_true, Bool.not_eq_true', decide_eq_false_iff_not] at h
    obtain ⟨⟨h1, h2⟩, h3⟩ := h
    obtain ⟨j, hj, rfl⟩ := nI_of h1
    have : j < 40 := by
      rcases Nat.lt_or_ge j 40 with h | h
      · exact h
      · exact absurd (nI_le (a := 40) h hj) h2
    refine ⟨j, this, rfl, ?_⟩
    rw [xn_nI hj] at h3
    simp [thr, h3]
  · rintro ⟨b, hb, rfl, ht⟩
    have h1 : ¬ nI b < 0 := nI_pos (by omega)
    have h2 : ¬ (40 : Int32) ≤ nI b := nI_ge (b := 40) hb (by decide)
    simp only [tBk, xn_nI (show b < 2 ^ 31 by omega)]
    simp only [thr] at ht
    simp [h1, h2, ht]
theorem bz_t {b : Bool} : ¬ bz b = 0 ↔ b = true := by cases b <;> decide
theorem rIn_iff {x a b : Int32} : rIn x a b = true ↔ a.toInt ≤ x.toInt ∧ x.toInt ≤ b.toInt := by
  simp only [rIn, Bool.and_eq_true, Bool.not_eq_true', decide_eq_false_iff_not, Int32.lt_iff_toInt_lt]
  omega
theorem an_ne0 {P : Nat → Nat} {f b u : Nat} (h0 : ¬ b = 0) (hu : ¬ b = u) : an P (f + 1) b u = an P f (P b) u := by
  rw [an_s, show (b == u) = false from by simpa using hu, show (b == 0) = false from by simpa using h0]; rfl
theorem an_z {P : Nat → Nat} {f b u : Nat} (h0 : b = 0) (hu : ¬ b = u) : an P (f + 1) b u = false := by
  rw [an_s, show (b == u) = false from by simpa using hu, h0]; rfl
section Tr
variable {t : Nat} {σ τ : xS}
theorem rBk_eq (hT : TMr (σ 2) (τ 20) (τ 23)) (x : Int32) : rBk τ x = tBk σ x := by
  have h : rBk τ x = true ↔ tBk σ x = true := by
    rw [tBk_iff]
    simp only [rBk, Bool.and_eq_true, rIn_iff]
    have e0 : (0 : Int32).toInt = 0 := by decide
    have e1 : (39 : Int32).toInt = 39 := by decide
    rw [e0, e1]
    constructor
    · rintro ⟨⟨h1, h2⟩, h3⟩
      obtain ⟨j, hj, rfl⟩ := nI_of (x := x) (by rw [Int32.lt_iff_toInt_lt, e0]; omega)
      rw [nI_toInt hj] at h2
      rw [xn_nI hj] at h3
      refine ⟨j, by omega, rfl, thr_iff.mpr fun h => ?_⟩
      rcases hT j (by omega) with ⟨a, -⟩ | ⟨-, -, a⟩
      · simp [a] at h3
      · exact a h
    · rintro ⟨b, hb, rfl, ht⟩
      rw [nI_toInt (by omega), xn_nI (by omega)]
      refine ⟨⟨by omega, by omega⟩, ?_⟩
      rcases hT b hb with ⟨-, a⟩ | ⟨a, -, -⟩
      · exact absurd a (thr_iff.mp ht)
      · rw [a]; decide
  cases h1 : rBk τ x <;> cases h2 : tBk σ x <;> simp_all
theorem TMr.th (hT : TMr (σ 2) (τ 20) (τ 23)) {b : Nat} (hb : b < 40) : (!(τ 20 b == 0)) = thr (σ 2) b := by
  rcases hT b hb with ⟨h1, h2⟩ | ⟨h1, h2, h3⟩
  · simp [thr, h1, h2]
  · simp [thr, h1, h3]
theorem TMr.st (hT : TMr (σ 2) (τ 20) (τ 23)) {b : Nat} (hb : b < 40) (ht : thr (σ 2) b = true) : τ 23 b = σ 2 b := by
  rcases hT b hb with ⟨h1, h2⟩ | ⟨h1, h2, h3⟩
  · exact absurd h2 (thr_iff.mp ht)
  · exact h2
theorem TI.par (h : TI (σ 2) (σ 3)) {b : Nat} (hb : b < 40) (ht : thr (σ 2) b = true) : (b = 0 ∧ σ 3 b = -1) ∨ (¬ b = 0 ∧ σ 3 b = nI (Pn (σ 3) b) ∧ Pn (σ 3) b < 40 ∧ thr (σ 2) (Pn (σ 3) b) = true) := by
  by_cases e : b = 0
  · subst e; exact Or.inl ⟨rfl, h.2.1⟩
  · exact Or.inr ⟨e, h.2.2.1 b hb ht e, h.1.2.1 b hb ht e⟩
/-- a bank that is there, or no bank -/
def aOK (s2 : Nat → Int32) (a : Int32) : Prop := a = -1 ∨ ∃ b, b < 40 ∧ a = nI b ∧ thr s2 b = true
theorem TI.aok (h : TI (σ 2) (σ 3)) {b : Nat} (hb : b < 40) (ht : thr (σ 2) b = true) : aOK (σ 2) (σ 3 b) := by
  rcases h.par hb ht with ⟨-, e⟩ | ⟨-, e, h1, h2⟩
  · exact Or.inl e
  · exact Or.inr ⟨_, h1, e, h2⟩
theorem tWi_eq (h : TI (σ 2) (σ 3)) {u : Nat} (hu : u < 40) {b : Nat} (hb : b < 40) (ht : thr (σ 2) b = true) : tWi σ (nI b) (nI u) = A (Pn (σ 3)) b u := by
  have : ∀ f b, b < 40 → thr (σ 2) b = true → ch (Pn (σ 3)) f b → tWiF σ (nI u) (f + 1) (nI b) = an (Pn (σ 3)) f b u := by
    intro f
    induction f with
    | zero =>
      intro b hb ht hc
      have : b = 0 := hc
      subst this
      simp only [tWiF, an, if_neg (nI_m1 (show 0 < 2 ^ 31 by decide))]
      by_cases e : 0 = u
      · subst e; simp
      · rw [if_neg (fun h => e ((nI_eq (by decide) (by omega)).mp h))]
        simp [e]
    | succ f ih =>
      intro b hb ht hc
      rw [tWiF, if_neg (nI_m1 (by omega))]
      by_cases e : b = u
      · subst e; simp [an_s]
      · rw [if_neg (fun h => e ((nI_eq (by omega) (by omega)).mp h)), xn_nI (by omega)]
        rcases h.par hb ht with ⟨e0, ep⟩ | ⟨e0, ep, h1, h2⟩
        · rw [ep, tWiF, if_pos rfl, an_z e0 e]
        · rw [ep, ih _ h1 h2 (ch_next hc e0), an_ne0 e0 e]
  exact this 6 b hb ht (h.1.2.2 b hb ht)
theorem rUn_eq (h : TI (σ 2) (σ 3)) (h21 : τ 21 = σ 3) {u : Nat} (hu : u < 40) {b : Nat} (hb : b < 40) (ht : thr (σ 2) b = true) : rUn τ (nI b) (nI u) = A (Pn (σ 3)) b u := by
  have hm : ∀ f, rUpF τ (nI u) f (-1) = -1 := fun f => by cases f <;> simp [rUpF]
  have hmu : (-1 == nI u) = false := by
    have := nI_m1 (show u < 2 ^ 31 by omega)
    simpa using fun h => this h.symm
  have : ∀ f b, b < 40 → thr (σ 2) b = true → ch (Pn (σ 3)) f b → (rUpF τ (nI u) (f + 1) (nI b) == nI u) = an (Pn (σ 3)) f b u := by
    intro f
    induction f with
    | zero =>
      intro b hb ht hc
      have : b = 0 := hc
      subst this
      rw [rUpF, if_neg (nI_pos (by decide)), an]
      by_cases e : 0 = u
      · subst e; simp
      · rw [if_neg (fun h => e ((nI_eq (by decide) (by omega)).mp h)), xn_nI (by decide), h21, h.2.1, hm, hmu]
        simp [e]
    | succ f ih =>
      intro b hb ht hc
      rw [rUpF, if_neg (nI_pos (by omega))]
      by_cases e : b = u
      · subst e; simp [an_s]
      · rw [if_neg (fun h => e ((nI_eq (by omega) (by omega)).mp h)), xn_nI (by omega), h21]
        rcases h.par hb ht with ⟨e0, ep⟩ | ⟨e0, ep, h1, h2⟩
        · rw [ep, hm, hmu, an_z e0 e]
        · rw [ep, ih _ h1 h2 (ch_next hc e0), an_ne0 e0 e]
  exact this 6 b hb ht (h.1.2.2 b hb ht)
theorem rTU_eq (h : TI (σ 2) (σ 3)) (hT : TMr (σ 2) (τ 20) (τ 23)) (h21 : τ 21 = σ 3) {u : Nat} (hu : u < 40) {b : Nat} (hb : b < 40) : rTU τ (nI u) b = (thr (σ 2) b && A (Pn (σ 3)) b u) := by
  rw [rTU, hT.th hb]
  cases ht : thr (σ 2) b
  · rfl
  · rw [rUn_eq h h21 hu hb ht]
theorem dep_eq (h : TI (σ 2) (σ 3)) (h21 : τ 21 = σ 3) : ∀ (f : Nat) (a : Int32) (k : Nat), aOK (σ 2) a → tDepF σ f a k = rDepF τ f a k := by
  intro f
  induction f with
  | zero => intros; rfl
  | succ f ih =>
    intro a k ha
    rcases ha with rfl | ⟨b, hb, rfl, ht⟩
    · rw [tDepF, rDepF, if_pos rfl, if_pos (by decide)]
    · rw [tDepF, rDepF, if_neg (nI_m1 (by omega)), if_neg (nI_pos (by omega)), h21, xn_nI (by omega)]
      exact ih _ _ (h.aok hb ht)
theorem rf_eq (h : TI (σ 2) (σ 3)) (h21 : τ 21 = σ 3) (h22 : τ 22 = σ 4) (hu : ∀ b, b < 40 → thr (σ 2) b = true → rUse τ (nI b) = σ 6 b) (n : Int32) : ∀ (f : Nat) (a : Int32), aOK (σ 2) a → rRfF τ n f a = tRfF σ n f a := by
  intro f
  induction f with
  | zero => intros; rfl
  | succ f ih =>
    intro a ha
    rcases ha with rfl | ⟨b, hb, rfl, ht⟩
    · rw [tRfF, rRfF, if_pos rfl, if_pos (by decide)]
    · rw [tRfF, rRfF, if_neg (nI_m1 (by omega)), if_neg (nI_pos (by omega)), h21, h22, xn_nI (by omega), hu b hb ht, ih _ (h.aok hb ht)]
theorem rCh_of (h : TI (σ 2) (σ 3)) (h21 : τ 21 = σ 3) {b : Nat} (hb : b < 40) (ht : thr (σ 2) b = true) : rCh τ 7 (nI b) := by
  have : ∀ f b, b < 40 → thr (σ 2) b = true → ch (Pn (σ 3)) f b → rCh τ (f + 1) (nI b) := by
    intro f
    induction f with
    | zero =>
      intro b hb ht hc
      have : b = 0 := hc
      subst this
      refine Or.inr ⟨vp_in_nI (by decide) (by decide), ?_⟩
      rw [xn_nI (by decide), h21, h.2.1]
      show (-1 : Int32) < 0
      decide
    | succ f ih =>
      intro b hb ht hc
      refine Or.inr ⟨vp_in_nI hb (by decide), ?_⟩
      rw [xn_nI (by omega), h21]
      rcases h.par hb ht with ⟨e0, ep⟩ | ⟨e0, ep, h1, h2⟩
      · rw [ep]; exact Or.inl (by decide)
      · rw [ep]; exact ih _ h1 h2 (ch_next hc e0)
  exact this 6 b hb ht (h.1.2.2 b hb ht)
theorem rOK_of (h : TI (σ 2) (σ 3)) (hT : TMr (σ 2) (τ 20) (τ 23)) (h21 : τ 21 = σ 3) : rOK τ := fun b hb h20 => by
  refine rCh_of h h21 hb ?_
  rw [← hT.th hb]; simp [h20]
theorem pOK_of (h : TI (σ 2) (σ 3)) : pOK σ := h.2.2.2
theorem wOK_of (h : OI (σ 2) (σ 9)) : wOK σ := fun p hp => by
  rcases h p hp with e | ⟨b, hb, e, -⟩
  · exact Or.inl e
  · rw [e]; exact Or.inr (vp_in_nI hb (by decide))
theorem rvOK_of (h : OI (σ 2) (σ 9)) (h15 : τ 15 = σ 9) : rvOK τ := fun p hp hn => by
  rw [h15] at hn ⊢
  rcases h p hp with e | ⟨b, hb, e, -⟩
  · rw [e] at hn; exact absurd (by decide) hn
  · rw [e]; exact vp_in_nI hb (by decide)
end Tr
