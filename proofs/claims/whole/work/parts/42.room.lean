/-! the least room for a run -/
theorem xcn_gap {Q : Nat → Bool} : ∀ (n a m : Nat), a + m ≤ n → (∀ q, a ≤ q → q < a + m → Q q = false) → xcn Q n + m ≤ n
  | 0, a, m, h, _ => by simp [xcn]; omega
  | n + 1, a, m, h, hq => by
    by_cases e : a + m = n + 1
    · cases m with
      | zero => have := xcn_le Q (n + 1); omega
      | succ m =>
        have h1 : Q n = false := hq n (by omega) (by omega)
        have := xcn_gap n a m (by omega) (fun q h1 h2 => hq q h1 (by omega))
        simp only [xcn, h1]
        simp
        omega
    · have := xcn_gap n a m (by omega) hq
      simp only [xcn]
      split <;> omega
section Room
variable {t : Nat} {σ τ : xS}
def Wn (σ : xS) (m a : Nat) : Prop := ∀ q, a ≤ q → q < a + m → sFr σ q = true
theorem sLf_spec {m : Nat} (hm1 : 1 ≤ m) (hm : m ≤ 192) : ∀ (f i k : Nat), i + f = 192 → k < m → k ≤ i → (∀ q, i - k ≤ q → q < i → sFr σ q = true) → (k = i ∨ (k < i ∧ sFr σ (i - k - 1) = false)) → (∀ a, a + m ≤ i → ¬ Wn σ m a) →
    (sLfF σ (nI m) f i (nI k) = -1 ∧ ∀ a, a + m ≤ 192 → ¬ Wn σ m a) ∨ ∃ a, a + m ≤ 192 ∧ sLfF σ (nI m) f i (nI k) = nI a ∧ Wn σ m a ∧ ∀ a', a' < a → ¬ Wn σ m a' := by
  intro f
  induction f with
  | zero =>
    intro i k hi hk hki hr hn hw
    have : i = 192 := by omega
    subst this
    exact Or.inl ⟨rfl, hw⟩
  | succ f ih =>
    intro i k hi hk hki hr hn hw
    rw [sLfF]
    cases hf : sFr σ i
    · have hz : ¬ nI 0 = nI m := fun e => by
        have := (nI_eq (a := 0) (by decide) (by omega : m < 2 ^ 31)).mp e
        omega
      rw [show (if false = true then nI k + 1 else 0) = nI 0 from rfl, if_neg hz]
      refine ih (i + 1) 0 (by omega) (by omega) (by omega) (fun q h1 h2 => by omega) (Or.inr ⟨by omega, by simpa using hf⟩) fun a ha hW => ?_
      by_cases e : a + m = i + 1
      · have := hW i (by omega) (by omega)
        rw [hf] at this; cases this
      · exact hw a (by omega) hW
    · rw [show (if true = true then nI k + 1 else 0) = nI k + 1 from rfl, nI_1]
      have hr' : ∀ q, i + 1 - (k + 1) ≤ q → q < i + 1 → sFr σ q = true := fun q h1 h2 => by
        by_cases e : q = i
        · rw [e]; exact hf
        · exact hr q (by omega) (by omega)
      by_cases e : k + 1 = m
      · rw [if_pos (by rw [e])]
        refine Or.inr ⟨i + 1 - m, by omega, ?_, fun q h1 h2 => hr' q (by omega) (by omega), fun a' ha' => hw a' (by omega)⟩
        have hs : nI i + 1 = nI (i + 1 - m) + nI m := by rw [nI_1, nI_add]; congr 1; omega
        rw [ti_eq]
        have e1 : (nI i - nI m).toInt = (i : Int) - m := by
          rw [tiS (by rw [nI_toInt (by omega), nI_toInt (by omega)]; omega) (by rw [nI_toInt (by omega), nI_toInt (by omega)]; omega), nI_toInt (by omega), nI_toInt (by omega)]
        have e2 : (1 : Int32).toInt = 1 := by decide
        rw [tiA (by rw [e1, e2]; omega) (by rw [e1, e2]; omega), e1, e2, nI_toInt (by omega)]
        omega
      · rw [if_neg (fun hh => e ((nI_eq (by omega) (by omega)).mp hh))]
        refine ih (i + 1) (k + 1) (by omega) (by omega) (by omega) hr' ?_ fun a ha hW => ?_
        · rcases hn with h | ⟨h1, h2⟩
          · exact Or.inl (by omega)
          · exact Or.inr ⟨by omega, by rw [show i + 1 - (k + 1) - 1 = i - k - 1 by omega]; exact h2⟩
        · by_cases e2 : a + m = i + 1
          · rcases hn with h | ⟨h1, h2⟩
            · omega
            · have := hW (i - k - 1) (by omega) (by omega)
              rw [h2] at this; cases this
          · exact hw a (by omega) hW
theorem rAll_iff (hF : ∀ p, p < 192 → rFr τ p = sFr σ p) {p : Nat} : ∀ (m : Nat), p + m ≤ 192 → (rAll τ p m = true ↔ Wn σ m p) := by
  intro m
  induction m with
  | zero => intro _; simp only [rAll, true_iff]; intro q h1 h2; omega
  | succ m ih =>
    intro hm
    rw [rAll, Bool.and_eq_true, ih (by omega), hF (p + m) (by omega)]
    constructor
    · rintro ⟨h1, h2⟩ q h3 h4
      by_cases e : q = p + m
      · rw [e]; exact h2
      · exact h1 q h3 (by omega)
    · intro h
      exact ⟨fun q h1 h2 => h q h1 (by omega), h (p + m) (by omega) (by omega)⟩
theorem rRo_spec (hF : ∀ p, p < 192 → rFr τ p = sFr σ p) {m : Nat} (hm : m ≤ 192) : ∀ (q : Nat) (v : Int32), q + m ≤ 193 → ((∀ a, a < q → ¬ Wn σ m a) ∧ rRoF τ m q v = v) ∨ ∃ a, a < q ∧ Wn σ m a ∧ (∀ a', a' < a → ¬ Wn σ m a') ∧ rRoF τ m q v = nI a := by
  intro q
  induction q with
  | zero => intro v _; exact Or.inl ⟨fun a h => by omega, rfl⟩
  | succ q ih =>
    intro v hq
    rw [rRoF]
    have hw := rAll_iff hF (p := q) m (by omega)
    rcases ih (if rAll τ q m then nI q else v) (by omega) with ⟨h1, h2⟩ | ⟨a, h1, h2, h3, h4⟩
    · by_cases e : rAll τ q m = true
      · rw [if_pos e] at h2
        exact Or.inr ⟨q, by omega, hw.mp e, fun a' ha' => h1 a' ha', by rw [if_pos e]; exact h2⟩
      · rw [if_neg e] at h2
        refine Or.inl ⟨fun a ha hW => ?_, by rw [if_neg e]; exact h2⟩
        by_cases ea : a = q
        · subst ea; exact e (hw.mpr hW)
        · exact h1 a (by omega) hW
    · exact Or.inr ⟨a, by omega, h2, h3, h4⟩
theorem rFr_eq (h : Rel t σ τ) : ∀ p, p < 192 → rFr τ p = sFr σ p := fun p hp => by
  rw [rFr, sFr, h.eq.1, h.eq.2.1]
  rcases h.oi p hp with e | ⟨b, hb, e, tb⟩
  · rw [e]; rfl
  · rw [e]
    have h1 := nI_pos' (show b < 2 ^ 31 by omega)
    have h2 := nI_m1 (show b < 2 ^ 31 by omega)
    simp [h1, h2]
/-- both find the same room -/
theorem room_eq (h : Rel t σ τ) {m : Nat} (hm1 : 1 ≤ m) (hm : m ≤ 16) : (sLf σ (nI m) = -1 ∧ rRo τ m = -1) ∨ ∃ a, a + m ≤ 192 ∧ sLf σ (nI m) = nI a ∧ rRo τ m = nI a ∧ Wn σ m a := by
  have h1 := sLf_spec (σ := σ) hm1 (by omega) 192 0 0 rfl (by omega) (Nat.le_refl _) (fun q h1 h2 => by omega) (Or.inl rfl) (fun a ha => by omega)
  have h2 := rRo_spec (rFr_eq h) (m := m) (by omega) (193 - m) (-1) (by omega)
  have e0 : sLf σ (nI m) = sLfF σ (nI m) 192 0 (nI 0) := rfl
  rcases h1 with ⟨a1, a2⟩ | ⟨a, a1, a2, a3, a4⟩
  · rcases h2 with ⟨b1, b2⟩ | ⟨a', b1, b2, b3, b4⟩
    · exact Or.inl ⟨e0.trans a1, b2⟩
    · exact absurd b2 (a2 a' (by omega))
  · rcases h2 with ⟨b1, b2⟩ | ⟨a', b1, b2, b3, b4⟩
    · exact absurd a3 (b1 a (by omega))
    · have : a = a' := by
        rcases Nat.lt_trichotomy a a' with hh | hh | hh
        · exact absurd a3 (b3 a hh)
        · exact hh
        · exact absurd b2 (a4 a' hh)
      subst this
      exact Or.inr ⟨a, a1, e0.trans a2, b4, a3⟩
theorem Wn.free {m a : Nat} (h : Wn σ m a) {q : Nat} (h1 : a ≤ q) (h2 : q < a + m) : σ 9 q = -1 ∧ (σ 8 q).toInt < 7 := by
  have := h q h1 h2
  simp only [sFr, Bool.and_eq_true, beq_iff_eq, Bool.not_eq_true', decide_eq_false_iff_not, Int32.le_iff_toInt_le] at this
  rw [show (7 : Int32).toInt = 7 by decide] at this
  exact ⟨this.1, by omega⟩
theorem room_len {L : List Nat} {s12 s18 : Nat → Int32} {n6 n7 : Int32} {B : Int} (hL : OLL L (σ 9) s12 s18 n6 n7 B) {m a : Nat} (ha : a + m ≤ 192) (hW : Wn σ m a) : L.length + m ≤ 192 := by
  have h1 := hL.cnt (fun p => decide (p ∈ L)) (fun p hp hh => ((hL.2.2.1 p).mp (by simpa using hh)).2)
  have h2 : L.countP (fun p => decide (p ∈ L)) = L.length := List.countP_eq_length.mpr fun p hp => by simpa using hp
  have := xcn_gap (Q := fun p => decide (p ∈ L)) 192 a m ha (fun q q1 q2 => by
    have : ¬ q ∈ L := fun hh => ((hL.2.2.1 q).mp hh).2 (hW.free q1 q2).1
    simpa using this)
  omega
end Room
