/-! sums over the first n numbers -/
def xsum (f : Nat → Int) : Nat → Int
  | 0 => 0
  | n + 1 => xsum f n + f n
theorem xsum_congr {f g : Nat → Int} : ∀ {n : Nat}, (∀ i, i < n → f i = g i) → xsum f n = xsum g n
  | 0, _ => rfl
  | n + 1, h => by
    simp only [xsum]
    rw [xsum_congr (n := n) fun i hi => h i (by omega), h n (by omega)]
theorem xsum_add (f g : Nat → Int) : ∀ n : Nat, xsum (fun i => f i + g i) n = xsum f n + xsum g n
  | 0 => rfl
  | n + 1 => by simp only [xsum]; rw [xsum_add f g n]; omega
theorem xsum_0 : ∀ n : Nat, xsum (fun _ => 0) n = 0
  | 0 => rfl
  | n + 1 => by simp only [xsum]; rw [xsum_0 n]; rfl
theorem xsum_nn {f : Nat → Int} : ∀ {n : Nat}, (∀ i, i < n → 0 ≤ f i) → 0 ≤ xsum f n
  | 0, _ => Int.le_refl _
  | n + 1, h => by
    simp only [xsum]
    have h1 := xsum_nn (f := f) (n := n) fun i hi => h i (by omega)
    have h2 := h n (by omega)
    omega
theorem xsum_le {f g : Nat → Int} : ∀ {n : Nat}, (∀ i, i < n → f i ≤ g i) → xsum f n ≤ xsum g n
  | 0, _ => Int.le_refl _
  | n + 1, h => by
    simp only [xsum]
    have h1 := xsum_le (f := f) (g := g) (n := n) fun i hi => h i (by omega)
    have h2 := h n (by omega)
    omega
theorem xsum_swap (f : Nat → Nat → Int) (m : Nat) : ∀ n : Nat, xsum (fun i => xsum (f i) m) n = xsum (fun j => xsum (fun i => f i j) n) m
  | 0 => (xsum_0 m).symm
  | n + 1 => by
    simp only [xsum]
    rw [xsum_swap f m n, ← xsum_add]
theorem xsum_at {f : Nat → Int} {k : Nat} : ∀ {n : Nat}, k < n → (∀ i, i < n → i ≠ k → f i = 0) → xsum f n = f k
  | 0, h, _ => by omega
  | n + 1, h, h0 => by
    simp only [xsum]
    by_cases e : k = n
    · subst e
      have : xsum f k = xsum (fun _ => 0) k := xsum_congr fun i hi => h0 i (by omega) (by omega)
      rw [this, xsum_0]; omega
    · rw [xsum_at (n := n) (by omega) fun i hi hk => h0 i (by omega) hk, h0 n (by omega) (by omega)]; omega
theorem xsum_upd {f g : Nat → Int} {k n : Nat} (hk : k < n) (h : ∀ i, i < n → i ≠ k → g i = f i) : xsum g n = xsum f n + (g k - f k) := by
  have h1 : xsum g n = xsum (fun i => f i + (if i = k then g k - f k else 0)) n := xsum_congr fun i hi => by
    by_cases e : i = k
    · subst e; simp; omega
    · simp [e, h i hi e]
  rw [h1, xsum_add, xsum_at (f := fun i => if i = k then g k - f k else 0) hk (fun i _ hi => by simp [hi])]
  simp
theorem xsum_zero {f : Nat → Int} : ∀ {n : Nat}, (∀ i, i < n → 0 ≤ f i) → xsum f n = 0 → ∀ i, i < n → f i = 0
  | 0, _, _, i, hi => by omega
  | n + 1, h, h0, i, hi => by
    simp only [xsum] at h0
    have h1 := xsum_nn (f := f) (n := n) fun i hi => h i (by omega)
    have h2 := h n (by omega)
    by_cases e : i = n
    · subst e; omega
    · exact xsum_zero (n := n) (fun i hi => h i (by omega)) (by omega) i (by omega)
theorem xsum_ge {f : Nat → Int} {k n : Nat} (h : ∀ i, i < n → 0 ≤ f i) (hk : k < n) : f k ≤ xsum f n := by
  have h1 := xsum_upd (f := f) (g := fun i => if i = k then 0 else f i) hk (fun i _ e => by simp [e])
  have h2 : 0 ≤ xsum (fun i => if i = k then 0 else f i) n := xsum_nn fun i hi => by
    by_cases e : i = k
    · simp [e]
    · simp [e]; exact h i hi
  simp at h1
  omega
theorem xsum_mul (f : Nat → Int) (c : Int) : ∀ n : Nat, xsum (fun i => c * f i) n = c * xsum f n
  | 0 => by simp [xsum]
  | n + 1 => by simp only [xsum]; rw [xsum_mul f c n, Int.mul_add]
/-- how many of the first n -/
def xcnt (p : Nat → Bool) (n : Nat) : Int := xsum (fun i => if p i then 1 else 0) n
theorem xcnt_nn (p : Nat → Bool) (n : Nat) : 0 ≤ xcnt p n := xsum_nn fun i _ => by split <;> omega
theorem xcnt_le (p : Nat → Bool) : ∀ n : Nat, xcnt p n ≤ n
  | 0 => Int.le_refl _
  | n + 1 => by
    have := xcnt_le p n
    unfold xcnt at this ⊢
    simp only [xsum]
    split <;> omega
theorem xcnt_congr {p q : Nat → Bool} {n : Nat} (h : ∀ i, i < n → p i = q i) : xcnt p n = xcnt q n := xsum_congr fun i hi => by rw [h i hi]
theorem xcnt_succ (p : Nat → Bool) (n : Nat) : xcnt p (n + 1) = xcnt p n + (if p n then 1 else 0) := rfl
theorem xcnt_zero {p : Nat → Bool} {n : Nat} (h : xcnt p n = 0) (i : Nat) (hi : i < n) : p i = false := by
  have := xsum_zero (f := fun i => if p i then 1 else 0) (n := n) (fun i _ => by split <;> omega) h i hi
  cases hp : p i
  · rfl
  · simp [hp] at this
theorem xcnt_upd {p q : Nat → Bool} {k n : Nat} (hk : k < n) (h : ∀ i, i < n → i ≠ k → q i = p i) : xcnt q n = xcnt p n + ((if q k then 1 else 0) - (if p k then 1 else 0)) :=
  xsum_upd hk fun i hi e => by rw [h i hi e]
theorem xcn_sum (p : Nat → Bool) : ∀ n : Nat, (xcn p n : Int) = xsum (fun i => if p i then 1 else 0) n
  | 0 => rfl
  | n + 1 => by
    simp only [xcn, xsum]
    rw [← xcn_sum p n]
    split <;> simp
theorem xcn_congr {p q : Nat → Bool} : ∀ {n : Nat}, (∀ i, i < n → p i = q i) → xcn p n = xcn q n
  | 0, _ => rfl
  | n + 1, h => by
    simp only [xcn]
    rw [xcn_congr (n := n) fun i hi => h i (by omega), h n (by omega)]
theorem xcn_zero {p : Nat → Bool} : ∀ {n : Nat}, xcn p n = 0 → ∀ i, i < n → p i = false
  | 0, _, i, hi => by omega
  | n + 1, h, i, hi => by
    simp only [xcn] at h
    by_cases e : i = n
    · subst e
      cases hp : p i
      · rfl
      · simp [hp] at h
    · exact xcn_zero (n := n) (by omega) i (by omega)
theorem xcn_all0 {p : Nat → Bool} {n : Nat} (h : ∀ i, i < n → p i = false) : xcn p n = 0 := by
  have : xcn p n = xcn (fun _ => false) n := xcn_congr h
  rw [this]
  clear this h
  induction n with
  | zero => rfl
  | succ n ih => simp [xcn, ih]
