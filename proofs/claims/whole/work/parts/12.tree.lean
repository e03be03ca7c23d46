/-! the tree of banks: what its methods do -/
def xcn (p : Nat → Bool) : Nat → Nat
  | 0 => 0
  | n + 1 => xcn p n + (if p n then 1 else 0)
theorem xcn_le (p : Nat → Bool) : ∀ n : Nat, xcn p n ≤ n
  | 0 => Nat.le_refl _
  | n + 1 => by have := xcn_le p n; simp only [xcn]; split <;> omega
theorem bz_z (b : Bool) : (bz b = 0) = (b = false) := by cases b <;> decide
theorem vp_in_xn {x : Int32} {n : Nat} (h : vp_in x n) : xn x < n := by
  obtain ⟨h1, h2⟩ := vp_in_iff.mp h
  show x.toInt.toNat < n
  omega
theorem nn_le {i n : Nat} (h : i < n) (hn : n < 2 ^ 31) : ¬ nI n ≤ nI i := nI_ge h hn
theorem xu_same (σ : xS) (q i : Nat) (v : Int32) : xu σ q i v q i = v := by simp [xu, xup]
theorem xu_other {σ : xS} {q i k : Nat} {v : Int32} (h : k ≠ q) : xu σ q i v k = σ k := by simp [xu, xup, h]
theorem xu_at {σ : xS} {q i j : Nat} {v : Int32} : xu σ q i v q j = if j = i then v else σ q j := by simp [xu, xup]
def tBk (σ : xS) (x : Int32) : Bool := !decide (x < 0) && !decide (40 ≤ x) && !(σ 2 (xn x) == 3)
def tDy (σ : xS) (x : Int32) : Bool := σ 2 (xn x) == 2
def tLunF (σ : xS) : Nat → Nat → Int32
  | 0, _ => -1
  | f + 1, i => if σ 2 i = 3 then nI i else tLunF σ f (i + 1)
def tLun (σ : xS) : Int32 := tLunF σ 39 1
def tDepF (σ : xS) : Nat → Int32 → Nat → Nat
  | 0, _, k => k
  | f + 1, a, k => if a = -1 then k else tDepF σ f (σ 3 (xn a)) (k + 1)
def tDep (σ : xS) (x : Int32) : Nat := tDepF σ 7 (σ 3 (xn x)) 0
def tWiF (σ : xS) (top : Int32) : Nat → Int32 → Bool
  | 0, _ => false
  | f + 1, a => if a = -1 then false else if a = top then true else tWiF σ top f (σ 3 (xn a))
def tWi (σ : xS) (x top : Int32) : Bool := tWiF σ top 7 x
def tSz (σ : xS) (top : Int32) : Nat := xcn (fun b => tBk σ (nI b) && tWi σ (nI b) top) 40
def tRfF (σ : xS) (n : Int32) : Nat → Int32 → Int32
  | 0, _ => -1
  | f + 1, a => if a = -1 then -1 else if σ 6 (xn a) + n ≤ σ 4 (xn a) then tRfF σ n f (σ 3 (xn a)) else a
def tRf (σ : xS) (x n : Int32) : Int32 := tRfF σ n 7 x
def tAuF (n : Int32) : Nat → Int32 → xS → xS
  | 0, _, σ => σ
  | f + 1, a, σ => if a = -1 then σ else tAuF n f (σ 3 (xn a)) (xu σ 6 (xn a) (σ 6 (xn a) + n))
def tAu (σ : xS) (x n : Int32) : xS := tAuF n 7 x σ
def tOpen (σ : xS) (x above limit : Int32) : xS := xu (xu (xu (xu (xu σ 2 (xn x) 0) 3 (xn x) above) 4 (xn x) limit) 5 (xn x) 0) 6 (xn x) 0
/-- every parent is none or a bank's number -/
def pOK (σ : xS) : Prop := ∀ b, b < 40 → σ 3 b = -1 ∨ vp_in (σ 3 b) 40
section XTree
variable {E : xE} {σ : xS} {x top n : Int32}
theorem c_T_isBank : XC E i_T_isBank 1 0 0 [.ref (xB E + 1), .int x] (xm σ) (xok (some (.int (bz (tBk σ x)))) (xm σ)) := by
  refine XC.ofF (by decide +kernel) cd_T_isBank rfl (xle rfl) ?_
  refine XR.iload_n d_T_isBank_0 rfl ?_
  refine XR.if_lt d_T_isBank_1 (tgt := 24) (by decide) (fun h1 => ?_) (fun h1 => ?_)
  · refine XR.iconst d_T_isBank_24 (v := 0) (by decide) ?_
    refine XR.zret0 d_T_isBank_25 rfl ?_
    exact xok_0 (by simp_all [tBk])
  refine XR.iload_n d_T_isBank_4 rfl ?_
  refine XR.bipush d_T_isBank_5 (v := 40) (by decide) ?_
  refine XR.icmp_ge d_T_isBank_7 (tgt := 24) (by decide) (fun h7 => ?_) (fun h7 => ?_)
  · refine XR.iconst d_T_isBank_24 (v := 0) (by decide) ?_
    refine XR.zret0 d_T_isBank_25 rfl ?_
    exact xok_0 (by simp_all [tBk])
  refine XR.aload_n d_T_isBank_10 rfl ?_
  refine XR.getref d_T_isBank_11 (xle rfl) rfl rfl uin_T (fk := 0) (xle rfl) f_T_9 rfl (xle rfl) ?_
  refine XR.iload_n d_T_isBank_14 rfl ?_
  refine XR.iaload d_T_isBank_15 (xle rfl) (fun _ => rfl) (vp_in_lt h1 h7 (by decide)) ?_
  refine XR.iconst d_T_isBank_16 (v := 3) (by decide) ?_
  refine XR.icmp_eq d_T_isBank_17 (tgt := 24) (by decide) (fun h17 => ?_) (fun h17 => ?_)
  · refine XR.iconst d_T_isBank_24 (v := 0) (by decide) ?_
    refine XR.zret0 d_T_isBank_25 rfl ?_
    exact xok_0 (by simp_all [tBk])
  refine XR.iconst d_T_isBank_20 (v := 1) (by decide) ?_
  refine XR.goto d_T_isBank_21 (tgt := 25) (by decide) ?_
  refine XR.zret1 d_T_isBank_25 rfl ?_
  exact xok_1 (by simp_all [tBk])
theorem c_T_isDying (hx : vp_in x 40) : XC E i_T_isDying 1 0 0 [.ref (xB E + 1), .int x] (xm σ) (xok (some (.int (bz (tDy σ x)))) (xm σ)) := by
  refine XC.ofF (by decide +kernel) cd_T_isDying rfl (xle rfl) ?_
  refine XR.aload_n d_T_isDying_0 rfl ?_
  refine XR.getref d_T_isDying_1 (xle rfl) rfl rfl uin_T (fk := 0) (xle rfl) f_T_9 rfl (xle rfl) ?_
  refine XR.iload_n d_T_isDying_4 rfl ?_
  refine XR.iaload d_T_isDying_5 (xle rfl) (fun _ => rfl) hx ?_
  refine XR.iconst d_T_isDying_6 (v := 2) (by decide) ?_
  refine XR.icmp_ne d_T_isDying_7 (tgt := 14) (by decide) (fun h7 => ?_) (fun h7 => ?_)
  · refine XR.iconst d_T_isDying_14 (v := 0) (by decide) ?_
    refine XR.zret0 d_T_isDying_15 rfl ?_
    exact xok_0 (by simp_all [tDy])
  refine XR.iconst d_T_isDying_10 (v := 1) (by decide) ?_
  refine XR.goto d_T_isDying_11 (tgt := 15) (by decide) ?_
  refine XR.zret1 d_T_isDying_15 rfl ?_
  exact xok_1 (by simp_all [tDy])
theorem c_T_stateOf (hx : vp_in x 40) : XC E i_T_stateOf 1 0 0 [.ref (xB E + 1), .int x] (xm σ) (xok (some (.int (σ 2 (xn x)))) (xm σ)) := by
  refine XC.ofF (by decide +kernel) cd_T_stateOf rfl (xle rfl) ?_
  refine XR.aload_n d_T_stateOf_0 rfl ?_
  refine XR.getref d_T_stateOf_1 (xle rfl) rfl rfl uin_T (fk := 0) (xle rfl) f_T_9 rfl (xle rfl) ?_
  refine XR.iload_n d_T_stateOf_4 rfl ?_
  refine XR.iaload d_T_stateOf_5 (xle rfl) (fun _ => rfl) hx ?_
  refine XR.xreturn d_T_stateOf_6 rfl ?_
  exact ⟨rfl, rfl⟩
theorem c_T_parentOf (hx : vp_in x 40) : XC E i_T_parentOf 1 0 0 [.ref (xB E + 1), .int x] (xm σ) (xok (some (.int (σ 3 (xn x)))) (xm σ)) := by
  refine XC.ofF (by decide +kernel) cd_T_parentOf rfl (xle rfl) ?_
  refine XR.aload_n d_T_parentOf_0 rfl ?_
  refine XR.getref d_T_parentOf_1 (xle rfl) rfl rfl uin_T (fk := 1) (xle rfl) f_T_15 rfl (xle rfl) ?_
  refine XR.iload_n d_T_parentOf_4 rfl ?_
  refine XR.iaload d_T_parentOf_5 (xle rfl) (fun _ => rfl) hx ?_
  refine XR.xreturn d_T_parentOf_6 rfl ?_
  exact ⟨rfl, rfl⟩
theorem c_T_limitOf (hx : vp_in x 40) : XC E i_T_limitOf 1 0 0 [.ref (xB E + 1), .int x] (xm σ) (xok (some (.int (σ 4 (xn x)))) (xm σ)) := by
  refine XC.ofF (by decide +kernel) cd_T_limitOf rfl (xle rfl) ?_
  refine XR.aload_n d_T_limitOf_0 rfl ?_
  refine XR.getref d_T_limitOf_1 (xle rfl) rfl rfl uin_T (fk := 2) (xle rfl) f_T_18 rfl (xle rfl) ?_
  refine XR.iload_n d_T_limitOf_4 rfl ?_
  refine XR.iaload d_T_limitOf_5 (xle rfl) (fun _ => rfl) hx ?_
  refine XR.xreturn d_T_limitOf_6 rfl ?_
  exact ⟨rfl, rfl⟩
theorem c_T_reservedBy (hx : vp_in x 40) : XC E i_T_reservedBy 1 0 0 [.ref (xB E + 1), .int x] (xm σ) (xok (some (.int (σ 5 (xn x)))) (xm σ)) := by
  refine XC.ofF (by decide +kernel) cd_T_reservedBy rfl (xle rfl) ?_
  refine XR.aload_n d_T_reservedBy_0 rfl ?_
  refine XR.getref d_T_reservedBy_1 (xle rfl) rfl rfl uin_T (fk := 3) (xle rfl) f_T_21 rfl (xle rfl) ?_
  refine XR.iload_n d_T_reservedBy_4 rfl ?_
  refine XR.iaload d_T_reservedBy_5 (xle rfl) (fun _ => rfl) hx ?_
  refine XR.xreturn d_T_reservedBy_6 rfl ?_
  exact ⟨rfl, rfl⟩
theorem c_T_useOf (hx : vp_in x 40) : XC E i_T_useOf 1 0 0 [.ref (xB E + 1), .int x] (xm σ) (xok (some (.int (σ 6 (xn x)))) (xm σ)) := by
  refine XC.ofF (by decide +kernel) cd_T_useOf rfl (xle rfl) ?_
  refine XR.aload_n d_T_useOf_0 rfl ?_
  refine XR.getref d_T_useOf_1 (xle rfl) rfl rfl uin_T (fk := 4) (xle rfl) f_T_24 rfl (xle rfl) ?_
  refine XR.iload_n d_T_useOf_4 rfl ?_
  refine XR.iaload d_T_useOf_5 (xle rfl) (fun _ => rfl) hx ?_
  refine XR.xreturn d_T_useOf_6 rfl ?_
  exact ⟨rfl, rfl⟩
theorem c_T_leastUnusedNumber : XC E i_T_leastUnusedNumber 1 0 0 [.ref (xB E + 1)] (xm σ) (xok (some (.int (tLun σ))) (xm σ)) := by
  refine XC.ofF (by decide +kernel) cd_T_leastUnusedNumber rfl (xle rfl) ?_
  have loop : ∀ (f i : Nat), i + f = 40 → XR E i_T_leastUnusedNumber 1 0 0 (xok (some (.int (tLunF σ f i))) (xm σ)) 2 [.ref (xB E + 1), .int (nI i)] [] (xm σ) := by
    intro f
    induction f with
    | zero =>
      intro i hi
      have : i = 40 := by omega
      subst this
      refine XR.iload_n d_T_leastUnusedNumber_2 rfl ?_
      refine XR.bipush d_T_leastUnusedNumber_3 (v := 40) (by decide) ?_
      refine XR.icmp_ge d_T_leastUnusedNumber_5 (tgt := 26) (by decide) (fun _ => ?_) (fun h => absurd (by decide) h)
      refine XR.iconst d_T_leastUnusedNumber_26 (v := -1) (by decide) ?_
      refine XR.xreturn d_T_leastUnusedNumber_27 rfl ?_
      exact ⟨rfl, rfl⟩
    | succ f ih =>
      intro i hi
      refine XR.iload_n d_T_leastUnusedNumber_2 rfl ?_
      refine XR.bipush d_T_leastUnusedNumber_3 (v := 40) (by decide) ?_
      refine XR.icmp_ge d_T_leastUnusedNumber_5 (tgt := 26) (by decide) (fun h => absurd h (nn_le (n := 40) (by omega) (by decide))) (fun _ => ?_)
      refine XR.aload_n d_T_leastUnusedNumber_8 rfl ?_
      refine XR.getref d_T_leastUnusedNumber_9 (xle rfl) rfl rfl uin_T (fk := 0) (xle rfl) f_T_9 rfl (xle rfl) ?_
      refine XR.iload_n d_T_leastUnusedNumber_12 rfl ?_
      refine XR.ialoadN d_T_leastUnusedNumber_13 (xle rfl) (fun _ => rfl) (by omega) (xle rfl) ?_
      refine XR.iconst d_T_leastUnusedNumber_14 (v := 3) (by decide) ?_
      refine XR.icmp_ne d_T_leastUnusedNumber_15 (tgt := 20) (by decide) (fun h15 => ?_) (fun h15 => ?_)
      · refine XR.iincN d_T_leastUnusedNumber_20 rfl (xle rfl) rfl ?_
        refine XR.goto d_T_leastUnusedNumber_23 (tgt := 2) (by decide) ?_
        have e : tLunF σ (f + 1) i = tLunF σ f (i + 1) := by simp_all [tLunF]
        rw [e]
        exact ih (i + 1) (by omega)
      refine XR.iload_n d_T_leastUnusedNumber_18 rfl ?_
      refine XR.xreturn d_T_leastUnusedNumber_19 rfl ?_
      simp_all [xok, tLunF]
  refine XR.iconst d_T_leastUnusedNumber_0 (v := nI 1) (by decide) ?_
  refine XR.istore_n d_T_leastUnusedNumber_1 (xle rfl) rfl ?_
  exact loop 39 1 rfl
theorem c_T_depthOf (hp : pOK σ) (hx : vp_in x 40) : XC E i_T_depthOf 1 0 0 [.ref (xB E + 1), .int x] (xm σ) (xok (some (.int (nI (tDep σ x)))) (xm σ)) := by
  refine XC.ofF (by decide +kernel) cd_T_depthOf rfl (xle rfl) ?_
  have loop : ∀ (f k : Nat) (a : Int32), k + f = 7 → (a = -1 ∨ vp_in a 40) → XR E i_T_depthOf 1 0 0 (xok (some (.int (nI (tDepF σ f a k)))) (xm σ)) 9 [.ref (xB E + 1), .int x, .int (nI k), .int a] [] (xm σ) := by
    intro f
    induction f with
    | zero =>
      intro k a hk ha
      have : k = 7 := by omega
      subst this
      refine XR.iload_n d_T_depthOf_9 rfl ?_
      refine XR.iconst d_T_depthOf_10 (v := -1) (by decide) ?_
      refine XR.icmp_eq d_T_depthOf_11 (tgt := 33) (by decide) (fun h11 => ?_) (fun h11 => ?_)
      · refine XR.iload_n d_T_depthOf_33 rfl ?_
        refine XR.xreturn d_T_depthOf_34 rfl ?_
        exact ⟨rfl, rfl⟩
      refine XR.iload_n d_T_depthOf_14 rfl ?_
      refine XR.bipush d_T_depthOf_15 (v := 6) (by decide) ?_
      refine XR.icmp_gt d_T_depthOf_17 (tgt := 33) (by decide) (fun _ => ?_) (fun h => absurd (by decide) h)
      refine XR.iload_n d_T_depthOf_33 rfl ?_
      refine XR.xreturn d_T_depthOf_34 rfl ?_
      exact ⟨rfl, rfl⟩
    | succ f ih =>
      intro k a hk ha
      refine XR.iload_n d_T_depthOf_9 rfl ?_
      refine XR.iconst d_T_depthOf_10 (v := -1) (by decide) ?_
      refine XR.icmp_eq d_T_depthOf_11 (tgt := 33) (by decide) (fun h11 => ?_) (fun h11 => ?_)
      · refine XR.iload_n d_T_depthOf_33 rfl ?_
        refine XR.xreturn d_T_depthOf_34 rfl ?_
        simp_all [xok, tDepF]
      refine XR.iload_n d_T_depthOf_14 rfl ?_
      refine XR.bipush d_T_depthOf_15 (v := 6) (by decide) ?_
      refine XR.icmp_gt d_T_depthOf_17 (tgt := 33) (by decide) (fun h => absurd h (nI_nlt (a := 6) (b := k) (by omega) (by decide))) (fun _ => ?_)
      refine XR.iincN d_T_depthOf_20 rfl (xle rfl) rfl ?_
      refine XR.aload_n d_T_depthOf_23 rfl ?_
      refine XR.getref d_T_depthOf_24 (xle rfl) rfl rfl uin_T (fk := 1) (xle rfl) f_T_15 rfl (xle rfl) ?_
      refine XR.iload_n d_T_depthOf_27 rfl ?_
      refine XR.iaload d_T_depthOf_28 (xle rfl) (fun _ => rfl) (ha.resolve_left h11) ?_
      refine XR.istore_n d_T_depthOf_29 (xle rfl) rfl ?_
      refine XR.goto d_T_depthOf_30 (tgt := 9) (by decide) ?_
      have e : tDepF σ (f + 1) a k = tDepF σ f (σ 3 (xn a)) (k + 1) := by simp_all [tDepF]
      rw [e]
      exact ih (k + 1) _ (by omega) (hp _ (vp_in_xn (ha.resolve_left h11)))
  refine XR.iconst d_T_depthOf_0 (v := nI 0) (by decide) ?_
  refine XR.istore_n d_T_depthOf_1 (xle rfl) rfl ?_
  refine XR.aload_n d_T_depthOf_2 rfl ?_
  refine XR.getref d_T_depthOf_3 (xle rfl) rfl rfl uin_T (fk := 1) (xle rfl) f_T_15 rfl (xle rfl) ?_
  refine XR.iload_n d_T_depthOf_6 rfl ?_
  refine XR.iaload d_T_depthOf_7 (xle rfl) (fun _ => rfl) hx ?_
  refine XR.istore_n d_T_depthOf_8 (xle rfl) rfl ?_
  exact loop 7 0 _ rfl (hp _ (vp_in_xn hx))
theorem c_T_isWithin (hp : pOK σ) (hx : x = -1 ∨ vp_in x 40) : XC E i_T_isWithin 1 0 0 [.ref (xB E + 1), .int x, .int top] (xm σ) (xok (some (.int (bz (tWi σ x top)))) (xm σ)) := by
  refine XC.ofF (by decide +kernel) cd_T_isWithin rfl (xle rfl) ?_
  have loop : ∀ (f k : Nat) (a : Int32), k + f = 7 → (a = -1 ∨ vp_in a 40) → XR E i_T_isWithin 1 0 0 (xok (some (.int (bz (tWiF σ top f a)))) (xm σ)) 5 [.ref (xB E + 1), .int x, .int top, .int a, .int (nI k)] [] (xm σ) := by
    intro f
    induction f with
    | zero =>
      intro k a hk ha
      have : k = 7 := by omega
      subst this
      refine XR.iload d_T_isWithin_5 rfl ?_
      refine XR.bipush d_T_isWithin_7 (v := 6) (by decide) ?_
      refine XR.icmp_gt d_T_isWithin_9 (tgt := 37) (by decide) (fun _ => ?_) (fun h => absurd (by decide) h)
      refine XR.iconst d_T_isWithin_37 (v := 0) (by decide) ?_
      refine XR.zret0 d_T_isWithin_38 rfl ?_
      exact xok_0 rfl
    | succ f ih =>
      intro k a hk ha
      refine XR.iload d_T_isWithin_5 rfl ?_
      refine XR.bipush d_T_isWithin_7 (v := 6) (by decide) ?_
      refine XR.icmp_gt d_T_isWithin_9 (tgt := 37) (by decide) (fun h => absurd h (nI_nlt (a := 6) (b := k) (by omega) (by decide))) (fun _ => ?_)
      refine XR.iload_n d_T_isWithin_12 rfl ?_
      refine XR.iconst d_T_isWithin_13 (v := -1) (by decide) ?_
      refine XR.icmp_eq d_T_isWithin_14 (tgt := 37) (by decide) (fun h14 => ?_) (fun h14 => ?_)
      · refine XR.iconst d_T_isWithin_37 (v := 0) (by decide) ?_
        refine XR.zret0 d_T_isWithin_38 rfl ?_
        exact xok_0 (by simp_all [tWiF])
      refine XR.iload_n d_T_isWithin_17 rfl ?_
      refine XR.iload_n d_T_isWithin_18 rfl ?_
      refine XR.icmp_ne d_T_isWithin_19 (tgt := 24) (by decide) (fun h19 => ?_) (fun h19 => ?_)
      · refine XR.aload_n d_T_isWithin_24 rfl ?_
        refine XR.getref d_T_isWithin_25 (xle rfl) rfl rfl uin_T (fk := 1) (xle rfl) f_T_15 rfl (xle rfl) ?_
        refine XR.iload_n d_T_isWithin_28 rfl ?_
        refine XR.iaload d_T_isWithin_29 (xle rfl) (fun _ => rfl) (ha.resolve_left h14) ?_
        refine XR.istore_n d_T_isWithin_30 (xle rfl) rfl ?_
        refine XR.iincN d_T_isWithin_31 rfl (xle rfl) rfl ?_
        refine XR.goto d_T_isWithin_34 (tgt := 5) (by decide) ?_
        have e : tWiF σ top (f + 1) a = tWiF σ top f (σ 3 (xn a)) := by simp_all [tWiF]
        rw [e]
        exact ih (k + 1) _ (by omega) (hp _ (vp_in_xn (ha.resolve_left h14)))
      refine XR.iconst d_T_isWithin_22 (v := 1) (by decide) ?_
      refine XR.zret1 d_T_isWithin_23 rfl ?_
      exact xok_1 (by simp_all [tWiF])
  refine XR.iload_n d_T_isWithin_0 rfl ?_
  refine XR.istore_n d_T_isWithin_1 (xle rfl) rfl ?_
  refine XR.iconst d_T_isWithin_2 (v := nI 0) (by decide) ?_
  refine XR.istore d_T_isWithin_3 (xle rfl) rfl ?_
  exact loop 7 0 _ rfl hx
theorem c_T_subtreeSize (hp : pOK σ) : XC E i_T_subtreeSize 2 0 0 [.ref (xB E + 1), .int top] (xm σ) (xok (some (.int (nI (tSz σ top)))) (xm σ)) := by
  refine XC.ofF (by decide +kernel) cd_T_subtreeSize rfl (xle rfl) ?_
  have loop : ∀ (f i k : Nat), i + f = 40 → k = xcn (fun b => tBk σ (nI b) && tWi σ (nI b) top) i → XR E i_T_subtreeSize 2 0 0 (xok (some (.int (nI (tSz σ top)))) (xm σ)) 4 [.ref (xB E + 1), .int top, .int (nI k), .int (nI i)] [] (xm σ) := by
    intro f
    induction f with
    | zero =>
      intro i k hi hk
      have : i = 40 := by omega
      subst this; subst hk
      refine XR.iload_n d_T_subtreeSize_4 rfl ?_
      refine XR.bipush d_T_subtreeSize_5 (v := 40) (by decide) ?_
      refine XR.icmp_ge d_T_subtreeSize_7 (tgt := 36) (by decide) (fun _ => ?_) (fun h => absurd (by decide) h)
      refine XR.iload_n d_T_subtreeSize_36 rfl ?_
      refine XR.xreturn d_T_subtreeSize_37 rfl ?_
      exact ⟨rfl, rfl⟩
    | succ f ih =>
      intro i k hi hk
      refine XR.iload_n d_T_subtreeSize_4 rfl ?_
      refine XR.bipush d_T_subtreeSize_5 (v := 40) (by decide) ?_
      refine XR.icmp_ge d_T_subtreeSize_7 (tgt := 36) (by decide) (fun h => absurd h (nn_le (n := 40) (by omega) (by decide))) (fun _ => ?_)
      refine XR.aload_n d_T_subtreeSize_10 rfl ?_
      refine XR.iload_n d_T_subtreeSize_11 rfl ?_
      refine XR.cV d_T_subtreeSize_12 l_T_33 kv_T_isBank (c_T_isBank) rfl (xle rfl) rfl rfl (xle rfl) (xle rfl) ?_
      refine XR.if_eq d_T_subtreeSize_15 (tgt := 30) (by decide) (fun h15 => ?_) (fun h15 => ?_)
      · refine XR.iincN d_T_subtreeSize_30 rfl (xle rfl) rfl ?_
        refine XR.goto d_T_subtreeSize_33 (tgt := 4) (by decide) ?_
        exact ih (i + 1) _ (by omega) (by simp_all [xcn, bz_z])
      refine XR.aload_n d_T_subtreeSize_18 rfl ?_
      refine XR.iload_n d_T_subtreeSize_19 rfl ?_
      refine XR.iload_n d_T_subtreeSize_20 rfl ?_
      refine XR.cV d_T_subtreeSize_21 l_T_37 kv_T_isWithin (c_T_isWithin hp (Or.inr (vp_in_nI (by omega) (by decide)))) rfl (xle rfl) rfl rfl (xle rfl) (xle rfl) ?_
      refine XR.if_eq d_T_subtreeSize_24 (tgt := 30) (by decide) (fun h24 => ?_) (fun h24 => ?_)
      · refine XR.iincN d_T_subtreeSize_30 rfl (xle rfl) rfl ?_
        refine XR.goto d_T_subtreeSize_33 (tgt := 4) (by decide) ?_
        exact ih (i + 1) _ (by omega) (by simp_all [xcn, bz_z])
      refine XR.iincN d_T_subtreeSize_27 rfl (xle rfl) rfl ?_
      refine XR.iincN d_T_subtreeSize_30 rfl (xle rfl) rfl ?_
      refine XR.goto d_T_subtreeSize_33 (tgt := 4) (by decide) ?_
      exact ih (i + 1) _ (by omega) (by simp_all [xcn, bz_z])
  refine XR.iconst d_T_subtreeSize_0 (v := nI 0) (by decide) ?_
  refine XR.istore_n d_T_subtreeSize_1 (xle rfl) rfl ?_
  refine XR.iconst d_T_subtreeSize_2 (v := nI 0) (by decide) ?_
  refine XR.istore_n d_T_subtreeSize_3 (xle rfl) rfl ?_
  exact loop 40 0 0 rfl rfl
theorem c_T_refuserOf (hp : pOK σ) (hx : x = -1 ∨ vp_in x 40) : XC E i_T_refuserOf 1 0 0 [.ref (xB E + 1), .int x, .int n] (xm σ) (xok (some (.int (tRf σ x n))) (xm σ)) := by
  refine XC.ofF (by decide +kernel) cd_T_refuserOf rfl (xle rfl) ?_
  have loop : ∀ (f k : Nat) (a : Int32), k + f = 7 → (a = -1 ∨ vp_in a 40) → XR E i_T_refuserOf 1 0 0 (xok (some (.int (tRfF σ n f a))) (xm σ)) 5 [.ref (xB E + 1), .int x, .int n, .int a, .int (nI k)] [] (xm σ) := by
    intro f
    induction f with
    | zero =>
      intro k a hk ha
      have : k = 7 := by omega
      subst this
      refine XR.iload d_T_refuserOf_5 rfl ?_
      refine XR.bipush d_T_refuserOf_7 (v := 6) (by decide) ?_
      refine XR.icmp_gt d_T_refuserOf_9 (tgt := 49) (by decide) (fun _ => ?_) (fun h => absurd (by decide) h)
      refine XR.iconst d_T_refuserOf_49 (v := -1) (by decide) ?_
      refine XR.xreturn d_T_refuserOf_50 rfl ?_
      exact ⟨rfl, rfl⟩
    | succ f ih =>
      intro k a hk ha
      refine XR.iload d_T_refuserOf_5 rfl ?_
      refine XR.bipush d_T_refuserOf_7 (v := 6) (by decide) ?_
      refine XR.icmp_gt d_T_refuserOf_9 (tgt := 49) (by decide) (fun h => absurd h (nI_nlt (a := 6) (b := k) (by omega) (by decide))) (fun _ => ?_)
      refine XR.iload_n d_T_refuserOf_12 rfl ?_
      refine XR.iconst d_T_refuserOf_13 (v := -1) (by decide) ?_
      refine XR.icmp_eq d_T_refuserOf_14 (tgt := 49) (by decide) (fun h14 => ?_) (fun h14 => ?_)
      · refine XR.iconst d_T_refuserOf_49 (v := -1) (by decide) ?_
        refine XR.xreturn d_T_refuserOf_50 rfl ?_
        exact ⟨by simp only [tRfF, if_pos h14], rfl⟩
      refine XR.aload_n d_T_refuserOf_17 rfl ?_
      refine XR.getref d_T_refuserOf_18 (xle rfl) rfl rfl uin_T (fk := 4) (xle rfl) f_T_24 rfl (xle rfl) ?_
      refine XR.iload_n d_T_refuserOf_21 rfl ?_
      refine XR.iaload d_T_refuserOf_22 (xle rfl) (fun _ => rfl) (ha.resolve_left h14) ?_
      refine XR.iload_n d_T_refuserOf_23 rfl ?_
      refine XR.iadd d_T_refuserOf_24 ?_
      refine XR.aload_n d_T_refuserOf_25 rfl ?_
      refine XR.getref d_T_refuserOf_26 (xle rfl) rfl rfl uin_T (fk := 2) (xle rfl) f_T_18 rfl (xle rfl) ?_
      refine XR.iload_n d_T_refuserOf_29 rfl ?_
      refine XR.iaload d_T_refuserOf_30 (xle rfl) (fun _ => rfl) (ha.resolve_left h14) ?_
      refine XR.icmp_le d_T_refuserOf_31 (tgt := 36) (by decide) (fun h31 => ?_) (fun h31 => ?_)
      · refine XR.aload_n d_T_refuserOf_36 rfl ?_
        refine XR.getref d_T_refuserOf_37 (xle rfl) rfl rfl uin_T (fk := 1) (xle rfl) f_T_15 rfl (xle rfl) ?_
        refine XR.iload_n d_T_refuserOf_40 rfl ?_
        refine XR.iaload d_T_refuserOf_41 (xle rfl) (fun _ => rfl) (ha.resolve_left h14) ?_
        refine XR.istore_n d_T_refuserOf_42 (xle rfl) rfl ?_
        refine XR.iincN d_T_refuserOf_43 rfl (xle rfl) rfl ?_
        refine XR.goto d_T_refuserOf_46 (tgt := 5) (by decide) ?_
        have e : tRfF σ n (f + 1) a = tRfF σ n f (σ 3 (xn a)) := by simp_all [tRfF]
        rw [e]
        exact ih (k + 1) _ (by omega) (hp _ (vp_in_xn (ha.resolve_left h14)))
      refine XR.iload_n d_T_refuserOf_34 rfl ?_
      refine XR.xreturn d_T_refuserOf_35 rfl ?_
      exact ⟨by simp only [tRfF, if_neg h14, if_neg h31], rfl⟩
  refine XR.iload_n d_T_refuserOf_0 rfl ?_
  refine XR.istore_n d_T_refuserOf_1 (xle rfl) rfl ?_
  refine XR.iconst d_T_refuserOf_2 (v := nI 0) (by decide) ?_
  refine XR.istore d_T_refuserOf_3 (xle rfl) rfl ?_
  exact loop 7 0 _ rfl hx
theorem c_T_addUse (hp : pOK σ) (hx : x = -1 ∨ vp_in x 40) : XC E i_T_addUse 1 0 0 [.ref (xB E + 1), .int x, .int n] (xm σ) (xok none (xm (tAu σ x n))) := by
  refine XC.ofF (by decide +kernel) cd_T_addUse rfl (xle rfl) ?_
  have loop : ∀ (f k : Nat) (a : Int32) (τ : xS), k + f = 7 → pOK τ → (a = -1 ∨ vp_in a 40) → XR E i_T_addUse 1 0 0 (xok none (xm (tAuF n f a τ))) 5 [.ref (xB E + 1), .int x, .int n, .int a, .int (nI k)] [] (xm τ) := by
    intro f
    induction f with
    | zero =>
      intro k a τ hk hp ha
      have : k = 7 := by omega
      subst this
      refine XR.iload d_T_addUse_5 rfl ?_
      refine XR.bipush d_T_addUse_7 (v := 6) (by decide) ?_
      refine XR.icmp_gt d_T_addUse_9 (tgt := 40) (by decide) (fun _ => ?_) (fun h => absurd (by decide) h)
      refine XR.return_ d_T_addUse_40 rfl ?_
      exact ⟨rfl, rfl⟩
    | succ f ih =>
      intro k a τ hk hp ha
      refine XR.iload d_T_addUse_5 rfl ?_
      refine XR.bipush d_T_addUse_7 (v := 6) (by decide) ?_
      refine XR.icmp_gt d_T_addUse_9 (tgt := 40) (by decide) (fun h => absurd h (nI_nlt (a := 6) (b := k) (by omega) (by decide))) (fun _ => ?_)
      refine XR.iload_n d_T_addUse_12 rfl ?_
      refine XR.iconst d_T_addUse_13 (v := -1) (by decide) ?_
      refine XR.icmp_eq d_T_addUse_14 (tgt := 40) (by decide) (fun h14 => ?_) (fun h14 => ?_)
      · refine XR.return_ d_T_addUse_40 rfl ?_
        simp_all [xok, tAuF]
      refine XR.aload_n d_T_addUse_17 rfl ?_
      refine XR.getref d_T_addUse_18 (xle rfl) rfl rfl uin_T (fk := 4) (xle rfl) f_T_24 rfl (xle rfl) ?_
      refine XR.iload_n d_T_addUse_21 rfl ?_
      refine XR.dup2 d_T_addUse_22 rfl rfl ?_
      refine XR.iaload d_T_addUse_23 (xle rfl) (fun _ => rfl) (ha.resolve_left h14) ?_
      refine XR.iload_n d_T_addUse_24 rfl ?_
      refine XR.iadd d_T_addUse_25 ?_
      refine XR.iastore d_T_addUse_26 (xle rfl) (fun _ => rfl) (ha.resolve_left h14) ?_
      refine XR.aload_n d_T_addUse_27 rfl ?_
      refine XR.getref d_T_addUse_28 (xle rfl) rfl rfl uin_T (fk := 1) (xle rfl) f_T_15 rfl (xle rfl) ?_
      refine XR.iload_n d_T_addUse_31 rfl ?_
      refine XR.iaload d_T_addUse_32 (xle rfl) (fun _ => rfl) (ha.resolve_left h14) ?_
      refine XR.istore_n d_T_addUse_33 (xle rfl) rfl ?_
      refine XR.iincN d_T_addUse_34 rfl (xle rfl) rfl ?_
      refine XR.goto d_T_addUse_37 (tgt := 5) (by decide) ?_
      have e : tAuF n (f + 1) a τ = tAuF n f (τ 3 (xn a)) (xu τ 6 (xn a) (τ 6 (xn a) + n)) := by simp_all [tAuF]
      rw [e]
      exact ih (k + 1) _ _ (by omega) hp (hp _ (vp_in_xn (ha.resolve_left h14)))
  refine XR.iload_n d_T_addUse_0 rfl ?_
  refine XR.istore_n d_T_addUse_1 (xle rfl) rfl ?_
  refine XR.iconst d_T_addUse_2 (v := nI 0) (by decide) ?_
  refine XR.istore d_T_addUse_3 (xle rfl) rfl ?_
  exact loop 7 0 _ _ rfl hp hx
theorem c_T_addReserved (hx : vp_in x 40) : XC E i_T_addReserved 1 0 0 [.ref (xB E + 1), .int x, .int n] (xm σ) (xok none (xm (xu σ 5 (xn x) (σ 5 (xn x) + n)))) := by
  refine XC.ofF (by decide +kernel) cd_T_addReserved rfl (xle rfl) ?_
  refine XR.aload_n d_T_addReserved_0 rfl ?_
  refine XR.getref d_T_addReserved_1 (xle rfl) rfl rfl uin_T (fk := 3) (xle rfl) f_T_21 rfl (xle rfl) ?_
  refine XR.iload_n d_T_addReserved_4 rfl ?_
  refine XR.dup2 d_T_addReserved_5 rfl rfl ?_
  refine XR.iaload d_T_addReserved_6 (xle rfl) (fun _ => rfl) hx ?_
  refine XR.iload_n d_T_addReserved_7 rfl ?_
  refine XR.iadd d_T_addReserved_8 ?_
  refine XR.iastore d_T_addReserved_9 (xle rfl) (fun _ => rfl) hx ?_
  refine XR.return_ d_T_addReserved_10 rfl ?_
  exact ⟨rfl, rfl⟩
theorem c_T_replaceLimit (hx : vp_in x 40) : XC E i_T_replaceLimit 1 0 0 [.ref (xB E + 1), .int x, .int n] (xm σ) (xok (some (.int (σ 4 (xn x)))) (xm (xu σ 4 (xn x) n))) := by
  refine XC.ofF (by decide +kernel) cd_T_replaceLimit rfl (xle rfl) ?_
  refine XR.aload_n d_T_replaceLimit_0 rfl ?_
  refine XR.getref d_T_replaceLimit_1 (xle rfl) rfl rfl uin_T (fk := 2) (xle rfl) f_T_18 rfl (xle rfl) ?_
  refine XR.iload_n d_T_replaceLimit_4 rfl ?_
  refine XR.iaload d_T_replaceLimit_5 (xle rfl) (fun _ => rfl) hx ?_
  refine XR.istore_n d_T_replaceLimit_6 (xle rfl) rfl ?_
  refine XR.aload_n d_T_replaceLimit_7 rfl ?_
  refine XR.getref d_T_replaceLimit_8 (xle rfl) rfl rfl uin_T (fk := 2) (xle rfl) f_T_18 rfl (xle rfl) ?_
  refine XR.iload_n d_T_replaceLimit_11 rfl ?_
  refine XR.iload_n d_T_replaceLimit_12 rfl ?_
  refine XR.iastore d_T_replaceLimit_13 (xle rfl) (fun _ => rfl) hx ?_
  refine XR.iload_n d_T_replaceLimit_14 rfl ?_
  refine XR.xreturn d_T_replaceLimit_15 rfl ?_
  exact ⟨rfl, rfl⟩
theorem c_T_replaceState (hx : vp_in x 40) : XC E i_T_replaceState 1 0 0 [.ref (xB E + 1), .int x, .int n] (xm σ) (xok (some (.int (σ 2 (xn x)))) (xm (xu σ 2 (xn x) n))) := by
  refine XC.ofF (by decide +kernel) cd_T_replaceState rfl (xle rfl) ?_
  refine XR.aload_n d_T_replaceState_0 rfl ?_
  refine XR.getref d_T_replaceState_1 (xle rfl) rfl rfl uin_T (fk := 0) (xle rfl) f_T_9 rfl (xle rfl) ?_
  refine XR.iload_n d_T_replaceState_4 rfl ?_
  refine XR.iaload d_T_replaceState_5 (xle rfl) (fun _ => rfl) hx ?_
  refine XR.istore_n d_T_replaceState_6 (xle rfl) rfl ?_
  refine XR.aload_n d_T_replaceState_7 rfl ?_
  refine XR.getref d_T_replaceState_8 (xle rfl) rfl rfl uin_T (fk := 0) (xle rfl) f_T_9 rfl (xle rfl) ?_
  refine XR.iload_n d_T_replaceState_11 rfl ?_
  refine XR.iload_n d_T_replaceState_12 rfl ?_
  refine XR.iastore d_T_replaceState_13 (xle rfl) (fun _ => rfl) hx ?_
  refine XR.iload_n d_T_replaceState_14 rfl ?_
  refine XR.xreturn d_T_replaceState_15 rfl ?_
  exact ⟨rfl, rfl⟩
theorem c_T_open {above limit : Int32} (hx : vp_in x 40) : XC E i_T_open 1 0 0 [.ref (xB E + 1), .int x, .int above, .int limit] (xm σ) (xok none (xm (tOpen σ x above limit))) := by
  refine XC.ofF (by decide +kernel) cd_T_open rfl (xle rfl) ?_
  refine XR.aload_n d_T_open_0 rfl ?_
  refine XR.getref d_T_open_1 (xle rfl) rfl rfl uin_T (fk := 0) (xle rfl) f_T_9 rfl (xle rfl) ?_
  refine XR.iload_n d_T_open_4 rfl ?_
  refine XR.iconst d_T_open_5 (v := 0) (by decide) ?_
  refine XR.iastore d_T_open_6 (xle rfl) (fun _ => rfl) hx ?_
  refine XR.aload_n d_T_open_7 rfl ?_
  refine XR.getref d_T_open_8 (xle rfl) rfl rfl uin_T (fk := 1) (xle rfl) f_T_15 rfl (xle rfl) ?_
  refine XR.iload_n d_T_open_11 rfl ?_
  refine XR.iload_n d_T_open_12 rfl ?_
  refine XR.iastore d_T_open_13 (xle rfl) (fun _ => rfl) hx ?_
  refine XR.aload_n d_T_open_14 rfl ?_
  refine XR.getref d_T_open_15 (xle rfl) rfl rfl uin_T (fk := 2) (xle rfl) f_T_18 rfl (xle rfl) ?_
  refine XR.iload_n d_T_open_18 rfl ?_
  refine XR.iload_n d_T_open_19 rfl ?_
  refine XR.iastore d_T_open_20 (xle rfl) (fun _ => rfl) hx ?_
  refine XR.aload_n d_T_open_21 rfl ?_
  refine XR.getref d_T_open_22 (xle rfl) rfl rfl uin_T (fk := 3) (xle rfl) f_T_21 rfl (xle rfl) ?_
  refine XR.iload_n d_T_open_25 rfl ?_
  refine XR.iconst d_T_open_26 (v := 0) (by decide) ?_
  refine XR.iastore d_T_open_27 (xle rfl) (fun _ => rfl) hx ?_
  refine XR.aload_n d_T_open_28 rfl ?_
  refine XR.getref d_T_open_29 (xle rfl) rfl rfl uin_T (fk := 4) (xle rfl) f_T_24 rfl (xle rfl) ?_
  refine XR.iload_n d_T_open_32 rfl ?_
  refine XR.iconst d_T_open_33 (v := 0) (by decide) ?_
  refine XR.iastore d_T_open_34 (xle rfl) (fun _ => rfl) hx ?_
  refine XR.return_ d_T_open_35 rfl ?_
  exact ⟨rfl, rfl⟩
end XTree
