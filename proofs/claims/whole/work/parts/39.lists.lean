/-! the row of the pages, in the order in which they were got -/
theorem xcn_list : ∀ (L : List Nat) (Q : Nat → Bool) (n : Nat), L.Pairwise (fun a b => ¬ a = b) → (∀ p, p ∈ L → p < n) → (∀ p, p < n → Q p = true → p ∈ L) → xcn Q n = L.countP Q
  | [], Q, n, _, _, h => by
    rw [xcn_all0 fun i hi => by
      cases hh : Q i
      · rfl
      · exact absurd (h i hi hh) List.not_mem_nil]
    rfl
  | a :: l, Q, n, hn, hlt, h => by
    have hn' := List.pairwise_cons.mp hn
    have hal : a ∉ l := fun ha => hn'.1 a ha rfl
    cases hQ : Q a
    · rw [List.countP_cons_of_neg (by simp [hQ])]
      refine xcn_list l Q n hn'.2 (fun p hp => hlt p (List.mem_cons_of_mem _ hp)) fun p hp hh => ?_
      rcases List.mem_cons.mp (h p hp hh) with e | e
      · subst e; rw [hQ] at hh; cases hh
      · exact e
    · rw [List.countP_cons_of_pos hQ]
      have e1 := xcn_upd (p := Q) (q := fun i => Q i && !(i == a)) (k := a) hQ (by simp) (n := n) (hlt a List.mem_cons_self) (fun i _ hi => by simp [hi])
      have e2 := xcn_list l (fun i => Q i && !(i == a)) n hn'.2 (fun p hp => hlt p (List.mem_cons_of_mem _ hp)) fun p hp hh => by
        simp only [Bool.and_eq_true, Bool.not_eq_true', beq_eq_false_iff_ne] at hh
        rcases List.mem_cons.mp (h p hp hh.1) with e | e
        · exact absurd e hh.2
        · exact e
      have e3 : l.countP (fun i => Q i && !(i == a)) = l.countP Q := List.countP_congr fun i hi => by
        have : ¬ i = a := fun e => hal (e ▸ hi)
        simp [this]
      omega
section Lists
variable {L : List Nat} {s9 s12 s18 s9' : Nat → Int32} {n6 n7 : Int32} {B : Int}
theorem OLL.nd (h : OLL L s9 s12 s18 n6 n7 B) : L.Pairwise (fun a b => ¬ a = b) := h.2.2.2.1.imp fun {a b} hab e => by subst e; omega
theorem OLL.cnt (h : OLL L s9 s12 s18 n6 n7 B) (Q : Nat → Bool) (hQ : ∀ p, p < 192 → Q p = true → ¬ s9 p = -1) : xcn Q 192 = L.countP Q :=
  xcn_list L Q 192 h.nd (fun p hp => ((h.2.2.1 p).mp hp).1) fun p hp hh => (h.2.2.1 p).mpr ⟨hp, hQ p hp hh⟩
theorem OLL.len (h : OLL L s9 s12 s18 n6 n7 B) : L.length ≤ 192 := by
  have h1 := h.cnt (fun p => decide (p ∈ L)) (fun p hp hh => ((h.2.2.1 p).mp (by simpa using hh)).2)
  have h2 : L.countP (fun p => decide (p ∈ L)) = L.length := List.countP_eq_length.mpr fun p hp => by simpa using hp
  have := xcn_le (fun p => decide (p ∈ L)) 192
  omega
/-- the k-th of those for which Q holds -/
def plL (Q : Nat → Bool) (k : Int32) : List Nat → Nat → Int32
  | [], _ => -1
  | p :: l, n => if Q p = true then (if nI n = k then nI p else plL Q k l (n + 1)) else plL Q k l n
theorem plL_hit {Q : Nat → Bool} : ∀ (l : List Nat) (n j p : Nat), n + j < 2 ^ 31 → (l.filter Q)[j]? = some p → plL Q (nI (n + j)) l n = nI p
  | [], n, j, p, _, h => by simp at h
  | a :: l, n, j, p, hb, h => by
    rw [plL]
    by_cases hQ : Q a = true
    · rw [List.filter_cons_of_pos hQ] at h
      rw [if_pos hQ]
      cases j with
      | zero =>
        have : a = p := by simpa using h
        rw [if_pos (by rw [Nat.add_zero]), this]
      | succ j =>
        rw [if_neg (fun e => by have := (nI_eq (by omega) hb).mp e; omega)]
        have := plL_hit l (n + 1) j p (by omega) (by simpa using h)
        rw [← this]
        congr 1
        congr 1
        omega
    · rw [List.filter_cons_of_neg hQ] at h
      rw [if_neg hQ]
      exact plL_hit l n j p hb h
theorem plL_miss {Q : Nat → Bool} {k : Int32} : ∀ (l : List Nat) (n : Nat), (∀ j, j < (l.filter Q).length → ¬ nI (n + j) = k) → plL Q k l n = -1
  | [], n, _ => rfl
  | a :: l, n, h => by
    rw [plL]
    by_cases hQ : Q a = true
    · rw [List.filter_cons_of_pos hQ] at h
      rw [if_pos hQ, if_neg (by have := h 0 (by simp); rwa [Nat.add_zero] at this)]
      refine plL_miss l (n + 1) fun j hj => ?_
      have := h (j + 1) (by simpa using hj)
      rwa [show n + (j + 1) = n + 1 + j by omega] at this
    · rw [List.filter_cons_of_neg hQ] at h
      rw [if_neg hQ]
      exact plL_miss l n h
theorem sPl_list {σ : xS} {b : Nat} {k : Int32} : ∀ (l : List Nat) (i n : Nat), (∀ j p, l[j]? = some p → σ 12 (i + j) = nI p) → (∀ p, p ∈ l → p < 192) → sPlF σ (nI b) k l.length i (nI n) = plL (fun p => σ 9 p == nI b) k l n
  | [], _, _, _, _ => rfl
  | a :: l, i, n, h, hl => by
    have ha := h 0 a (by simp)
    rw [Nat.add_zero] at ha
    have ha2 := hl a List.mem_cons_self
    rw [List.length_cons, sPlF, plL, ha, xn_nI (by omega), nI_1]
    have ih := fun n => sPl_list (σ := σ) (b := b) (k := k) l (i + 1) n (fun j p hp => by
      have := h (j + 1) p (by simpa using hp)
      rwa [show i + (j + 1) = i + 1 + j by omega] at this) (fun p hp => hl p (List.mem_cons_of_mem _ hp))
    rw [ih, ih]
    by_cases e : σ 9 a = nI b
    · rw [if_pos e, if_pos (show (σ 9 a == nI b) = true by simp [e])]
    · rw [if_neg e, if_neg (show ¬ (σ 9 a == nI b) = true by simp [e])]
theorem cnt_lt {st : Nat → Int} : ∀ (F : List Nat) (j p : Nat), F.Pairwise (fun a b => st a < st b) → F[j]? = some p → F.countP (fun o => decide (st o < st p)) = j
  | [], j, p, _, h => by simp at h
  | a :: l, j, p, hp, h => by
    have hp' := List.pairwise_cons.mp hp
    cases j with
    | zero =>
      have : a = p := by simpa using h
      subst this
      rw [List.countP_cons_of_neg (by simp)]
      refine List.countP_eq_zero.mpr fun o ho => ?_
      have := hp'.1 o ho
      simp; omega
    | succ j =>
      have h' : l[j]? = some p := by simpa using h
      have := hp'.1 p (List.mem_of_getElem? h')
      rw [List.countP_cons_of_pos (by simpa using this), cnt_lt l j p hp'.2 h']
/-- the reference finds the page by the number of those that are older -/
theorem rPg_uniq {τ : xS} {b k : Int32} {p : Nat} : ∀ (f i : Nat) (v : Int32), (∀ q, i ≤ q → q < i + f → τ 15 q = b → nI (rBe τ b q) = k → q = p) → (i ≤ p ∧ p < i + f ∧ τ 15 p = b ∧ nI (rBe τ b p) = k) ∨ (v = nI p ∧ p < i) → rPgF τ b k f i v = nI p
  | 0, i, v, _, h => by
    rcases h with h | h
    · omega
    · rw [rPgF]; exact h.1
  | f + 1, i, v, hu, h => by
    rw [rPgF]
    refine rPg_uniq f (i + 1) _ (fun q h1 h2 => hu q (by omega) (by omega)) ?_
    by_cases e : i = p
    · subst e
      right
      rcases h with ⟨_, _, h3, h4⟩ | ⟨_, h2⟩
      · rw [if_pos ⟨h3, h4⟩]; exact ⟨rfl, by omega⟩
      · omega
    · have hno : ¬ (τ 15 i = b ∧ nI (rBe τ b i) = k) := fun hh => e (hu i (Nat.le_refl _) (by omega) hh.1 hh.2)
      rw [if_neg hno]
      rcases h with ⟨h1, h2, h3⟩ | ⟨h1, h2⟩
      · exact Or.inl ⟨by omega, by omega, h3⟩
      · exact Or.inr ⟨h1, by omega⟩
theorem OLL.be {τ : xS} (h : OLL L (τ 15) s12 (τ 18) n6 n7 B) {b : Nat} (hb : b < 40) {j p : Nat} (hp : (L.filter fun p => τ 15 p == nI b)[j]? = some p) : rBe τ (nI b) p = j := by
  have hmem := List.mem_of_getElem? hp
  have hm : nI b ≠ -1 := nI_m1 (by omega)
  have h15 : τ 15 p = nI b := by simpa using (List.mem_filter.mp hmem).2
  rw [rBe, h.cnt (rBeP τ (nI b) p) (fun q hq hh => by
    have : τ 15 q = nI b := by
      simp only [rBeP, Bool.and_eq_true, beq_iff_eq] at hh
      exact hh.1.2
    rw [this]; exact hm)]
  have hF := (h.2.2.2.1).filter (fun p => τ 15 p == nI b)
  have := cnt_lt (st := fun p => (τ 18 p).toInt) _ j p hF hp
  rw [List.countP_filter] at this
  rw [← this]
  refine List.countP_congr fun q _ => ?_
  simp only [rBeP, h15, Bool.and_eq_true, beq_iff_eq, Bool.not_eq_true', decide_eq_false_iff_not, decide_eq_true_eq, Int32.le_iff_toInt_le]
  constructor
  · rintro ⟨⟨-, h1⟩, h2⟩; exact ⟨by omega, h1⟩
  · rintro ⟨h1, h2⟩; exact ⟨⟨trivial, h2⟩, by omega⟩
theorem OLL.pg {τ : xS} (h : OLL L (τ 15) s12 (τ 18) n6 n7 B) {b : Nat} (hb : b < 40) {j p : Nat} (hp : (L.filter fun p => τ 15 p == nI b)[j]? = some p) : rPg τ (nI b) (nI j) = nI p := by
  have hlen := h.len
  have hmem := List.mem_of_getElem? hp
  have h15 : τ 15 p = nI b := by simpa using (List.mem_filter.mp hmem).2
  have hp192 := ((h.2.2.1 p).mp (List.mem_filter.mp hmem).1).1
  have hj : j < (L.filter fun p => τ 15 p == nI b).length := (List.getElem?_eq_some_iff.mp hp).1
  have hfl := List.length_filter_le (fun p => τ 15 p == nI b) L
  have hm : nI b ≠ -1 := nI_m1 (by omega)
  refine rPg_uniq 192 0 (-1) (fun q _ hq h1 h2 => ?_) (Or.inl ⟨Nat.zero_le _, by omega, h15, by rw [h.be hb hp]⟩)
  have hqm : q ∈ L.filter fun p => τ 15 p == nI b := List.mem_filter.mpr ⟨(h.2.2.1 q).mpr ⟨by omega, by rw [h1]; exact hm⟩, by simp [h1]⟩
  obtain ⟨i, hi⟩ := List.getElem?_of_mem hqm
  have hil : i < (L.filter fun p => τ 15 p == nI b).length := (List.getElem?_eq_some_iff.mp hi).1
  rw [h.be hb hi] at h2
  have : i = j := (nI_eq (by omega) (by omega)).mp h2
  subst this
  rw [hp] at hi
  cases hi; rfl
end Lists
