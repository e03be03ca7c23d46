/-! numbers of 32 bits as integers -/
theorem bm32 {n : Int} (h1 : -2147483648 ≤ n) (h2 : n ≤ 2147483647) : n.bmod (2 ^ 32) = n := by
  have e : ((2 ^ 32 : Nat) : Int) = 4294967296 := by decide
  exact Int.bmod_eq_of_le (by rw [e]; omega) (by rw [e]; omega)
theorem xrg (x : Int32) : -2147483648 ≤ x.toInt ∧ x.toInt ≤ 2147483647 := by
  have h1 := Int32.le_toInt x
  have h2 := Int32.toInt_lt x
  omega
theorem tiA {x y : Int32} (h1 : -2147483648 ≤ x.toInt + y.toInt) (h2 : x.toInt + y.toInt ≤ 2147483647) : (x + y).toInt = x.toInt + y.toInt := by
  rw [Int32.toInt_add, bm32 h1 h2]
theorem tiS {x y : Int32} (h1 : -2147483648 ≤ x.toInt - y.toInt) (h2 : x.toInt - y.toInt ≤ 2147483647) : (x - y).toInt = x.toInt - y.toInt := by
  rw [Int32.toInt_sub, bm32 h1 h2]
theorem tiM {x y : Int32} (h1 : -2147483648 ≤ x.toInt * y.toInt) (h2 : x.toInt * y.toInt ≤ 2147483647) : (x * y).toInt = x.toInt * y.toInt := by
  rw [Int32.toInt_mul, bm32 h1 h2]
theorem tiN {x : Int32} (h1 : -2147483647 ≤ x.toInt) : (-x).toInt = -x.toInt := by
  have := xrg x
  rw [Int32.toInt_neg, bm32 (by omega) (by omega)]
theorem ti_eq {x y : Int32} : x = y ↔ x.toInt = y.toInt := Int32.toInt_inj.symm
theorem tdiv_pos {a : Int} (b : Int) (h : 0 ≤ a) : a.tdiv b = a / b := Int.tdiv_eq_ediv_of_nonneg h
theorem tdiv_neg {a : Int} (b : Int) (h : a ≤ 0) : a.tdiv b = -((-a) / b) := by
  have : a = -(-a) := by omega
  rw [this, Int.neg_tdiv, Int.tdiv_eq_ediv_of_nonneg (by omega)]
  simp
theorem msb_nn (x : Int32) : 0 ≤ x.toInt ↔ x.toBitVec.msb = false := by
  rw [BitVec.msb_eq_toInt]
  have : x.toInt = x.toBitVec.toInt := rfl
  rw [this]
  simp
theorem xor_nn (k : Int32) : 0 ≤ k ^^^ 1024 ↔ 0 ≤ k := by
  have h0 : (0 : Int32).toInt = 0 := by decide
  rw [Int32.le_iff_toInt_le, Int32.le_iff_toInt_le, h0, msb_nn, msb_nn, Int32.toBitVec_xor, BitVec.msb_xor]
  have : (1024 : Int32).toBitVec.msb = false := by decide
  rw [this]
  simp
theorem div1024 (k : Int32) : (k / 1024).toInt = if 0 ≤ k.toInt then k.toInt / 1024 else -((-k.toInt) / 1024) := by
  have h1 : (1024 : Int32).toInt = 1024 := by decide
  have hb := xrg k
  rw [Int32.toInt_div, h1]
  split
  · next h => rw [tdiv_pos _ h, bm32 (by omega) (by omega)]
  · next h => rw [tdiv_neg _ (by omega), bm32 (by omega) (by omega)]
theorem rem1024 (k : Int32) : (k - k / 1024 * 1024).toInt = if 0 ≤ k.toInt then k.toInt % 1024 else -((-k.toInt) % 1024) := by
  have h1 : (1024 : Int32).toInt = 1024 := by decide
  have hb := xrg k
  have hd := div1024 k
  by_cases h : 0 ≤ k.toInt
  · rw [if_pos h] at hd ⊢
    have e1 : (k / 1024 * 1024).toInt = k.toInt / 1024 * 1024 := by rw [tiM (by rw [hd, h1]; omega) (by rw [hd, h1]; omega), hd, h1]
    rw [tiS (by rw [e1]; omega) (by rw [e1]; omega), e1]
    omega
  · rw [if_neg h] at hd ⊢
    have e1 : (k / 1024 * 1024).toInt = -((-k.toInt) / 1024) * 1024 := by rw [tiM (by rw [hd, h1]; omega) (by rw [hd, h1]; omega), hd, h1]
    rw [tiS (by rw [e1]; omega) (by rw [e1]; omega), e1]
    omega
