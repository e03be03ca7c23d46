/-! the reference: loops that look or change -/
abbrev xrn (r : Int32 × xS) : xO → xWd → Prop := fun o w => o = .inl (some (.int r.1)) ∧ w = xm r.2
def rAll (σ : xS) (p : Nat) : Nat → Bool
  | 0 => true
  | k + 1 => rAll σ p k && rFr σ (p + k)
def rRoF (σ : xS) (m : Nat) : Nat → Int32 → Int32
  | 0, found => found
  | p + 1, found => rRoF σ m p (if rAll σ p m then nI p else found)
def rRo (σ : xS) (m : Nat) : Int32 := rRoF σ m (193 - m) (-1)
def rPr (σ : xS) (b : Int32) (i : Nat) : Bool := !(σ 20 i == 0) && (σ 21 i == b)
def rPaF (σ : xS) (b : Int32) : Nat → Nat → Bool → Bool
  | 0, _, r => r
  | f + 1, i, r => rPaF σ b f (i + 1) (r || rPr σ b i)
def rPar (σ : xS) (b : Int32) : Bool := rPaF σ b 40 0 false
def rGo (σ : xS) (i : Nat) : Bool := !(σ 20 i == 0) && (σ 23 i == 2) && (nI (rOwn σ (nI i)) == 0) && !rPar σ (nI i)
def rPsF : Nat → Nat → Bool → xS → Bool × xS
  | 0, _, m, σ => (m, σ)
  | f + 1, i, m, σ => if rGo σ i = true then rPsF f (i + 1) true (xu σ 20 i 0) else rPsF f (i + 1) m σ
def rPass (σ : xS) : Bool × xS := rPsF 39 1 false σ
def rClN : Nat → xS → xS
  | 0, σ => σ
  | n + 1, σ => if (rPass σ).1 = true then rClN n (rPass σ).2 else (rPass σ).2
def rClear (σ : xS) : xS := rClN 41 σ
def rTh (σ : xS) : Nat := xcn (fun b => !(σ 20 b == 0)) 40
def rBeP (σ : xS) (b : Int32) (p o : Nat) : Bool := (σ 15 p == b) && (σ 15 o == b) && !decide (σ 18 p ≤ σ 18 o)
def rBe (σ : xS) (b : Int32) (p : Nat) : Nat := xcn (rBeP σ b p) 192
def rPgF (σ : xS) (b k : Int32) : Nat → Nat → Int32 → Int32
  | 0, _, found => found
  | f + 1, i, found => rPgF σ b k f (i + 1) (if σ 15 i = b ∧ nI (rBe σ b i) = k then nI i else found)
def rPg (σ : xS) (b k : Int32) : Int32 := rPgF σ b k 192 0 (-1)
theorem xcn_upd {p q : Nat → Bool} {k : Nat} (hk : p k = true) (hq : q k = false) : ∀ {n : Nat}, k < n → (∀ i, i < n → i ≠ k → q i = p i) → xcn q n + 1 = xcn p n
  | 0, h, _ => by omega
  | n + 1, h, he => by
    by_cases e : k = n
    · subst e
      have : ∀ m, m ≤ k → xcn q m = xcn p m := by
        intro m
        induction m with
        | zero => intro _; rfl
        | succ m ih => intro hm; simp only [xcn]; rw [ih (by omega), he m (by omega) (by omega)]
      rw [xcn_t hk, xcn_f hq, this k (Nat.le_refl _)]
    · have := xcn_upd (p := p) (q := q) hk hq (n := n) (by omega) (fun i hi => he i (by omega))
      simp only [xcn, he n (by omega) (fun h => e h.symm)]
      omega
theorem rPsF_th : ∀ (f i : Nat) (m : Bool) (σ : xS), i + f ≤ 40 → ((rPsF f i m σ).1 = m ∧ rTh (rPsF f i m σ).2 ≤ rTh σ) ∨ ((rPsF f i m σ).1 = true ∧ rTh (rPsF f i m σ).2 < rTh σ)
  | 0, _, _, _, _ => Or.inl ⟨rfl, Nat.le_refl _⟩
  | f + 1, i, m, σ, hi => by
    simp only [rPsF]
    split
    · next h =>
      have h20 : (!(σ 20 i == 0)) = true := by simp only [rGo, Bool.and_eq_true] at h; exact h.1.1.1
      have : rTh (xu σ 20 i 0) + 1 = rTh σ := xcn_upd (k := i) (p := fun b => !(σ 20 b == 0)) (q := fun b => !(xu σ 20 i 0 20 b == 0)) h20 (by simp [xu_same]) (by omega) (fun j _ hj => by simp only [xu_at, if_neg hj])
      rcases rPsF_th f (i + 1) true (xu σ 20 i 0) (by omega) with ⟨a, b⟩ | ⟨a, b⟩
      · exact Or.inr ⟨a, by omega⟩
      · exact Or.inr ⟨a, by omega⟩
    · exact rPsF_th f (i + 1) m σ (by omega)
section XModel2
variable {E : xE} {σ : xS} {x y z n top : Int32}
theorem c_M_room {m : Nat} (hm : m ≤ 192) (hn : n = nI m) : XC E i_M_room 2 0 0 [.ref (xB E + 14), .int n] (xm σ) (xok (some (.int (rRo σ m))) (xm σ)) := by
  refine XC.ofF (by decide +kernel) cd_M_room rfl (xle rfl) ?_
  subst hn
  have inner : ∀ (P : Prop) (p : Nat) (found : Int32), p + m ≤ 192 → (XR E i_M_room 2 0 0 (xok (some (.int (rRo σ m))) (xm σ)) 53 [.ref (xB E + 14), .int (nI m), .int found, .int (nI p), .int (bz (rAll σ p m)), .int (nI m)] [] (xm σ)) →
      ∀ (f k : Nat), k + f = m → XR E i_M_room 2 0 0 (xok (some (.int (rRo σ m))) (xm σ)) 18 [.ref (xB E + 14), .int (nI m), .int found, .int (nI p), .int (bz (rAll σ p k)), .int (nI k)] [] (xm σ) := by
    intro P p found hp hk f
    induction f with
    | zero =>
      intro k hkm
      have : k = m := by omega
      subst this
      refine XR.iload d_M_room_18 rfl ?_
      refine XR.iload_n d_M_room_20 rfl ?_
      refine XR.icmp_ge d_M_room_21 (tgt := 53) (by decide) (fun _ => ?_) (fun h => absurd (Int32.le_refl _) h)
      exact hk
    | succ f ih =>
      intro k hkm
      have ei : xn (nI (p + k)) = p + k := nI_clamp (by omega)
      have e1 : nI p + nI k = nI (p + k) := nI_add p k
      have q1 : bz (rAll σ p k) = 0 → bz false = bz (rAll σ p (k + 1)) := fun h => by rw [bz_z] at h; simp [rAll, h]
      have q2 : bz (rFr σ (xn (nI (p + k)))) = 0 → bz false = bz (rAll σ p (k + 1)) := fun h => by rw [ei, bz_z] at h; simp [rAll, h]
      have q3 : ¬ bz (rAll σ p k) = 0 → ¬ bz (rFr σ (xn (nI (p + k)))) = 0 → bz true = bz (rAll σ p (k + 1)) := fun h h2 => by
        rw [bz_z] at h; rw [ei, bz_z] at h2
        have h' : rAll σ p k = true := by simpa using h
        have h2' : rFr σ (p + k) = true := by simpa using h2
        simp [rAll, h', h2']
      refine XR.iload d_M_room_18 rfl ?_
      refine XR.iload_n d_M_room_20 rfl ?_
      refine XR.icmp_ge d_M_room_21 (tgt := 53) (by decide) (fun h => absurd h (nI_ge (by omega) (by omega))) (fun _ => ?_)
      refine XR.iload d_M_room_24 rfl ?_
      refine XR.if_eq d_M_room_26 (tgt := 44) (by decide) (fun h26 => ?_) (fun h26 => ?_)
      · refine XR.iconst d_M_room_44 (v := bz false) (by decide) ?_
        refine XR.istore d_M_room_45 (xle rfl) rfl ?_
        refine XR.iincN d_M_room_47 rfl (xle rfl) rfl ?_
        refine XR.goto d_M_room_50 (tgt := 18) (by decide) ?_
        first | (rw [q1 h26]; exact ih (k + 1) (by omega)) | (rw [q2 h37]; exact ih (k + 1) (by omega)) | (rw [q3 h26 h37]; exact ih (k + 1) (by omega))
      refine XR.aload_n d_M_room_29 rfl ?_
      refine XR.iload_n d_M_room_30 rfl ?_
      refine XR.iload d_M_room_31 rfl ?_
      refine XR.iadd d_M_room_33 ?_
      rw [e1]
      refine XR.cV (as := [_]) d_M_room_34 l_M_77 kv_M_isFree (c_M_isFree (vp_in_nI (by omega) (by decide))) rfl (xle rfl) rfl rfl (xle rfl) (xle rfl) ?_
      refine XR.if_eq d_M_room_37 (tgt := 44) (by decide) (fun h37 => ?_) (fun h37 => ?_)
      · refine XR.iconst d_M_room_44 (v := bz false) (by decide) ?_
        refine XR.istore d_M_room_45 (xle rfl) rfl ?_
        refine XR.iincN d_M_room_47 rfl (xle rfl) rfl ?_
        refine XR.goto d_M_room_50 (tgt := 18) (by decide) ?_
        first | (rw [q1 h26]; exact ih (k + 1) (by omega)) | (rw [q2 h37]; exact ih (k + 1) (by omega)) | (rw [q3 h26 h37]; exact ih (k + 1) (by omega))
      refine XR.iconst d_M_room_40 (v := bz true) (by decide) ?_
      refine XR.goto d_M_room_41 (tgt := 45) (by decide) ?_
      refine XR.istore d_M_room_45 (xle rfl) rfl ?_
      refine XR.iincN d_M_room_47 rfl (xle rfl) rfl ?_
      refine XR.goto d_M_room_50 (tgt := 18) (by decide) ?_
      first | (rw [q1 h26]; exact ih (k + 1) (by omega)) | (rw [q2 h37]; exact ih (k + 1) (by omega)) | (rw [q3 h26 h37]; exact ih (k + 1) (by omega))
  have loop : ∀ (f : Nat) (found : Int32) (z : List Value), f + m ≤ 193 → rRoF σ m f found = rRo σ m → XR E i_M_room 2 0 0 (xok (some (.int (rRo σ m))) (xm σ)) 8 ([.ref (xB E + 14), .int (nI m), .int found, .int (nI f - 1)] ++ z) [] (xm σ) := by
    intro f
    induction f with
    | zero =>
      intro found z hf he
      refine XR.locals (L' := [.ref (xB E + 14), .int (nI m), .int found, .int (nI 0 - 1)]) (fun j v hj => by rw [List.getElem?_append_left (List.getElem?_eq_some_iff.mp hj).1]; exact hj) ?_
      refine XR.iload_n d_M_room_8 rfl ?_
      refine XR.if_lt d_M_room_9 (tgt := 70) (by decide) (fun _ => ?_) (fun h => absurd (by decide) h)
      refine XR.iload_n d_M_room_70 rfl ?_
      refine XR.xreturn d_M_room_71 rfl ?_
      exact ⟨by rw [← he]; rfl, rfl⟩
    | succ f ih =>
      intro found z hf he
      refine XR.locals (L' := [.ref (xB E + 14), .int (nI m), .int found, .int (nI (f + 1) - 1)]) (fun j v hj => by rw [List.getElem?_append_left (List.getElem?_eq_some_iff.mp hj).1]; exact hj) ?_
      rw [nI_pred]
      have q1 : bz (rAll σ f m) = 0 → rRoF σ m (f + 1) found = rRoF σ m f found := fun h => by rw [bz_z] at h; simp [rRoF, h]
      have q2 : ¬ bz (rAll σ f m) = 0 → rRoF σ m (f + 1) found = rRoF σ m f (nI f) := fun h => by
        rw [bz_z] at h
        have h' : rAll σ f m = true := by simpa using h
        simp [rRoF, h']
      have h53 : XR E i_M_room 2 0 0 (xok (some (.int (rRo σ m))) (xm σ)) 53 [.ref (xB E + 14), .int (nI m), .int found, .int (nI f), .int (bz (rAll σ f m)), .int (nI m)] [] (xm σ) := by
        refine XR.iload d_M_room_53 rfl ?_
        refine XR.if_eq d_M_room_55 (tgt := 62) (by decide) (fun h55 => ?_) (fun h55 => ?_)
        · refine XR.iload_n d_M_room_62 rfl ?_
          refine XR.istore_n d_M_room_63 (xle rfl) rfl ?_
          refine XR.iincm d_M_room_64 rfl (xle rfl) rfl ?_
          refine XR.goto d_M_room_67 (tgt := 8) (by decide) ?_
          first | exact ih _ [_, _] (by omega) (by rw [← he, q1 h55]) | exact ih _ [_, _] (by omega) (by rw [← he, q2 h55])
        refine XR.iload_n d_M_room_58 rfl ?_
        refine XR.goto d_M_room_59 (tgt := 63) (by decide) ?_
        refine XR.istore_n d_M_room_63 (xle rfl) rfl ?_
        refine XR.iincm d_M_room_64 rfl (xle rfl) rfl ?_
        refine XR.goto d_M_room_67 (tgt := 8) (by decide) ?_
        first | exact ih _ [_, _] (by omega) (by rw [← he, q1 h55]) | exact ih _ [_, _] (by omega) (by rw [← he, q2 h55])
      refine XR.iload_n d_M_room_8 rfl ?_
      refine XR.if_lt d_M_room_9 (tgt := 70) (by decide) (fun h => absurd h (nI_pos (by omega))) (fun _ => ?_)
      refine XR.iconst d_M_room_12 (v := bz true) (by decide) ?_
      refine XR.istore d_M_room_13 (xle rfl) rfl ?_
      refine XR.iconst d_M_room_15 (v := nI 0) (by decide) ?_
      refine XR.istore d_M_room_16 (xle rfl) rfl ?_
      exact inner True f found (by omega) h53 m 0 (by omega)
  have e0 : (192 : Int32) - nI m = nI (193 - m) - 1 := by
    rw [show 193 - m = (192 - m) + 1 by omega, nI_pred, show (192 : Int32) = nI 192 from rfl, pk_sub hm]
  refine XR.iconst d_M_room_0 (v := -1) (by decide) ?_
  refine XR.istore_n d_M_room_1 (xle rfl) rfl ?_
  refine XR.sipush d_M_room_2 (v := 192) (by decide) ?_
  refine XR.iload_n d_M_room_5 rfl ?_
  refine XR.isub d_M_room_6 ?_
  rw [e0]
  refine XR.istore_n d_M_room_7 (xle rfl) rfl ?_
  exact loop (193 - m) (-1) [] (by omega) rfl
theorem c_M_isParent : XC E i_M_isParent 1 0 0 [.ref (xB E + 14), .int x] (xm σ) (xok (some (.int (bz (rPar σ x)))) (xm σ)) := by
  refine XC.ofF (by decide +kernel) cd_M_isParent rfl (xle rfl) ?_
  have loop : ∀ (f i : Nat) (r : Bool), i + f = 40 → rPaF σ x f i r = rPar σ x → XR E i_M_isParent 1 0 0 (xok (some (.int (bz (rPar σ x)))) (xm σ)) 4 [.ref (xB E + 14), .int x, .int (bz r), .int (nI i)] [] (xm σ) := by
    intro f
    induction f with
    | zero =>
      intro i r hi he
      have : i = 40 := by omega
      subst this
      refine XR.iload_n d_M_isParent_4 rfl ?_
      refine XR.bipush d_M_isParent_5 (v := 40) (by decide) ?_
      refine XR.icmp_ge d_M_isParent_7 (tgt := 45) (by decide) (fun _ => ?_) (fun h => absurd (by decide) h)
      refine XR.iload_n d_M_isParent_45 rfl ?_
      refine XR.zreturn d_M_isParent_46 rfl ?_
      exact ⟨by rw [← he]; rfl, rfl⟩
    | succ f ih =>
      intro i r hi he
      have e : rPaF σ x (f + 1) i r = rPaF σ x f (i + 1) (r || rPr σ x i) := rfl
      have q1 : ¬ bz r = 0 → true = (r || rPr σ x i) := fun h => by rw [bz_z, Bool.not_eq_false] at h; simp [h]
      have q2 : bz r = 0 → σ 20 i = 0 → false = (r || rPr σ x i) := fun h h2 => by rw [bz_z] at h; simp [h, rPr, h2]
      have q3 : bz r = 0 → ¬ σ 21 i = x → false = (r || rPr σ x i) := fun h h2 => by rw [bz_z] at h; simp [h, rPr, h2]
      have q4 : ¬ σ 20 i = 0 → σ 21 i = x → true = (r || rPr σ x i) := fun h h2 => by simp [rPr, h, h2]
      refine XR.iload_n d_M_isParent_4 rfl ?_
      refine XR.bipush d_M_isParent_5 (v := 40) (by decide) ?_
      refine XR.icmp_ge d_M_isParent_7 (tgt := 45) (by decide) (fun h => absurd h (nn_le (n := 40) (by omega) (by decide))) (fun _ => ?_)
      refine XR.iload_n d_M_isParent_10 rfl ?_
      refine XR.if_ne d_M_isParent_11 (tgt := 33) (by decide) (fun h11 => ?_) (fun h11 => ?_)
      · refine XR.iconst d_M_isParent_33 (v := bz true) (by decide) ?_
        refine XR.goto d_M_isParent_34 (tgt := 38) (by decide) ?_
        refine XR.istore_n d_M_isParent_38 (xle rfl) rfl ?_
        refine XR.iincN d_M_isParent_39 rfl (xle rfl) rfl ?_
        refine XR.goto d_M_isParent_42 (tgt := 4) (by decide) ?_
        first | exact ih (i + 1) _ (by omega) (by rw [← he, e, ← q1 h11]) | exact ih (i + 1) _ (by omega) (by rw [← he, e, ← q2 h11 h20]) | exact ih (i + 1) _ (by omega) (by rw [← he, e, ← q3 h11 h30]) | exact ih (i + 1) _ (by omega) (by rw [← he, e, ← q4 h20 h30])
      refine XR.aload_n d_M_isParent_14 rfl ?_
      refine XR.getref d_M_isParent_15 (xle rfl) rfl rfl uin_M (fk := 8) (xle rfl) f_M_25 rfl (xle rfl) ?_
      refine XR.iload_n d_M_isParent_18 rfl ?_
      refine XR.baloadN d_M_isParent_19 (xle rfl) (fun _ => rfl) (by omega) (xle rfl) ?_
      refine XR.if_eq d_M_isParent_20 (tgt := 37) (by decide) (fun h20 => ?_) (fun h20 => ?_)
      · refine XR.iconst d_M_isParent_37 (v := bz false) (by decide) ?_
        refine XR.istore_n d_M_isParent_38 (xle rfl) rfl ?_
        refine XR.iincN d_M_isParent_39 rfl (xle rfl) rfl ?_
        refine XR.goto d_M_isParent_42 (tgt := 4) (by decide) ?_
        first | exact ih (i + 1) _ (by omega) (by rw [← he, e, ← q1 h11]) | exact ih (i + 1) _ (by omega) (by rw [← he, e, ← q2 h11 h20]) | exact ih (i + 1) _ (by omega) (by rw [← he, e, ← q3 h11 h30]) | exact ih (i + 1) _ (by omega) (by rw [← he, e, ← q4 h20 h30])
      refine XR.aload_n d_M_isParent_23 rfl ?_
      refine XR.getref d_M_isParent_24 (xle rfl) rfl rfl uin_M (fk := 9) (xle rfl) f_M_29 rfl (xle rfl) ?_
      refine XR.iload_n d_M_isParent_27 rfl ?_
      refine XR.ialoadN d_M_isParent_28 (xle rfl) (fun _ => rfl) (by omega) (xle rfl) ?_
      refine XR.iload_n d_M_isParent_29 rfl ?_
      refine XR.icmp_ne d_M_isParent_30 (tgt := 37) (by decide) (fun h30 => ?_) (fun h30 => ?_)
      · refine XR.iconst d_M_isParent_37 (v := bz false) (by decide) ?_
        refine XR.istore_n d_M_isParent_38 (xle rfl) rfl ?_
        refine XR.iincN d_M_isParent_39 rfl (xle rfl) rfl ?_
        refine XR.goto d_M_isParent_42 (tgt := 4) (by decide) ?_
        first | exact ih (i + 1) _ (by omega) (by rw [← he, e, ← q1 h11]) | exact ih (i + 1) _ (by omega) (by rw [← he, e, ← q2 h11 h20]) | exact ih (i + 1) _ (by omega) (by rw [← he, e, ← q3 h11 h30]) | exact ih (i + 1) _ (by omega) (by rw [← he, e, ← q4 h20 h30])
      refine XR.iconst d_M_isParent_33 (v := bz true) (by decide) ?_
      refine XR.goto d_M_isParent_34 (tgt := 38) (by decide) ?_
      refine XR.istore_n d_M_isParent_38 (xle rfl) rfl ?_
      refine XR.iincN d_M_isParent_39 rfl (xle rfl) rfl ?_
      refine XR.goto d_M_isParent_42 (tgt := 4) (by decide) ?_
      first | exact ih (i + 1) _ (by omega) (by rw [← he, e, ← q1 h11]) | exact ih (i + 1) _ (by omega) (by rw [← he, e, ← q2 h11 h20]) | exact ih (i + 1) _ (by omega) (by rw [← he, e, ← q3 h11 h30]) | exact ih (i + 1) _ (by omega) (by rw [← he, e, ← q4 h20 h30])
  refine XR.iconst d_M_isParent_0 (v := bz false) (by decide) ?_
  refine XR.istore_n d_M_isParent_1 (xle rfl) rfl ?_
  refine XR.iconst d_M_isParent_2 (v := nI 0) (by decide) ?_
  refine XR.istore_n d_M_isParent_3 (xle rfl) rfl ?_
  exact loop 40 0 false rfl rfl
theorem c_M_clear : XC E i_M_clear 2 0 0 [.ref (xB E + 14)] (xm σ) (xok none (xm (rClear σ))) := by
  refine XC.ofF (by decide +kernel) cd_M_clear rfl (xle rfl) ?_
  have inner : ∀ (fin : xS) (t : Bool × xS), XR E i_M_clear 2 0 0 (xok none (xm fin)) 2 [.ref (xB E + 14), .int (bz t.1), .int (nI 40)] [] (xm t.2) → ∀ (f i : Nat) (m : Bool) (τ : xS), i + f = 40 → rPsF f i m τ = t → XR E i_M_clear 2 0 0 (xok none (xm fin)) 10 [.ref (xB E + 14), .int (bz m), .int (nI i)] [] (xm τ) := by
    intro fin t hend f
    induction f with
    | zero =>
      intro i m τ hi he
      have : i = 40 := by omega
      subst this
      have h' := hend
      rw [← he] at h'
      refine XR.iload_n d_M_clear_10 rfl ?_
      refine XR.bipush d_M_clear_11 (v := 40) (by decide) ?_
      refine XR.icmp_ge d_M_clear_13 (tgt := 66) (by decide) (fun _ => ?_) (fun h => absurd (by decide) h)
      refine XR.goto d_M_clear_66 (tgt := 2) (by decide) ?_
      exact h'
    | succ f ih =>
      intro i m τ hi he
      have q1 : ¬ rGo τ i = true → rPsF (f + 1) i m τ = rPsF f (i + 1) m τ := fun h => by simp only [rPsF, if_neg h]
      have q2 : rGo τ i = true → rPsF (f + 1) i m τ = rPsF f (i + 1) true (xu τ 20 i 0) := fun h => by simp only [rPsF, if_pos h]
      have z1 : τ 20 i = 0 → ¬ rGo τ i = true := fun h => by simp [rGo, h]
      have z2 : ¬ τ 23 i = 2 → ¬ rGo τ i = true := fun h => by simp [rGo, h]
      have z3 : ¬ nI (rOwn τ (nI i)) = 0 → ¬ rGo τ i = true := fun h => by simp [rGo, h]
      have z4 : ¬ bz (rPar τ (nI i)) = 0 → ¬ rGo τ i = true := fun h => by
        rw [bz_z] at h
        have h' : rPar τ (nI i) = true := by simpa using h
        simp [rGo, h']
      have z5 : ¬ τ 20 i = 0 → τ 23 i = 2 → nI (rOwn τ (nI i)) = 0 → bz (rPar τ (nI i)) = 0 → rGo τ i = true := fun a b c d => by
        rw [bz_z] at d
        simp [rGo, a, b, c, d]
      refine XR.iload_n d_M_clear_10 rfl ?_
      refine XR.bipush d_M_clear_11 (v := 40) (by decide) ?_
      refine XR.icmp_ge d_M_clear_13 (tgt := 66) (by decide) (fun h => absurd h (nn_le (n := 40) (by omega) (by decide))) (fun _ => ?_)
      refine XR.aload_n d_M_clear_16 rfl ?_
      refine XR.getref d_M_clear_17 (xle rfl) rfl rfl uin_M (fk := 8) (xle rfl) f_M_25 rfl (xle rfl) ?_
      refine XR.iload_n d_M_clear_20 rfl ?_
      refine XR.baloadN d_M_clear_21 (xle rfl) (fun _ => rfl) (by omega) (xle rfl) ?_
      refine XR.if_eq d_M_clear_22 (tgt := 60) (by decide) (fun h22 => ?_) (fun h22 => ?_)
      · refine XR.iincN d_M_clear_60 rfl (xle rfl) rfl ?_
        refine XR.goto d_M_clear_63 (tgt := 10) (by decide) ?_
        first | exact ih (i + 1) _ _ (by omega) (by rw [← he, q1 (z1 h22)]) | exact ih (i + 1) _ _ (by omega) (by rw [← he, q1 (z2 h32)]) | exact ih (i + 1) _ _ (by omega) (by rw [← he, q1 (z3 h40)]) | exact ih (i + 1) _ _ (by omega) (by rw [← he, q1 (z4 h48)]) | exact ih (i + 1) _ _ (by omega) (by rw [← he, q2 (z5 h22 h32 h40 h48)])
      refine XR.aload_n d_M_clear_25 rfl ?_
      refine XR.getref d_M_clear_26 (xle rfl) rfl rfl uin_M (fk := 11) (xle rfl) f_M_35 rfl (xle rfl) ?_
      refine XR.iload_n d_M_clear_29 rfl ?_
      refine XR.ialoadN d_M_clear_30 (xle rfl) (fun _ => rfl) (by omega) (xle rfl) ?_
      refine XR.iconst d_M_clear_31 (v := 2) (by decide) ?_
      refine XR.icmp_ne d_M_clear_32 (tgt := 60) (by decide) (fun h32 => ?_) (fun h32 => ?_)
      · refine XR.iincN d_M_clear_60 rfl (xle rfl) rfl ?_
        refine XR.goto d_M_clear_63 (tgt := 10) (by decide) ?_
        first | exact ih (i + 1) _ _ (by omega) (by rw [← he, q1 (z1 h22)]) | exact ih (i + 1) _ _ (by omega) (by rw [← he, q1 (z2 h32)]) | exact ih (i + 1) _ _ (by omega) (by rw [← he, q1 (z3 h40)]) | exact ih (i + 1) _ _ (by omega) (by rw [← he, q1 (z4 h48)]) | exact ih (i + 1) _ _ (by omega) (by rw [← he, q2 (z5 h22 h32 h40 h48)])
      refine XR.aload_n d_M_clear_35 rfl ?_
      refine XR.iload_n d_M_clear_36 rfl ?_
      refine XR.cV (as := [_]) d_M_clear_37 l_M_56 kv_M_owned (c_M_owned) rfl (xle rfl) rfl rfl (xle rfl) (xle rfl) ?_
      refine XR.if_ne d_M_clear_40 (tgt := 60) (by decide) (fun h40 => ?_) (fun h40 => ?_)
      · refine XR.iincN d_M_clear_60 rfl (xle rfl) rfl ?_
        refine XR.goto d_M_clear_63 (tgt := 10) (by decide) ?_
        first | exact ih (i + 1) _ _ (by omega) (by rw [← he, q1 (z1 h22)]) | exact ih (i + 1) _ _ (by omega) (by rw [← he, q1 (z2 h32)]) | exact ih (i + 1) _ _ (by omega) (by rw [← he, q1 (z3 h40)]) | exact ih (i + 1) _ _ (by omega) (by rw [← he, q1 (z4 h48)]) | exact ih (i + 1) _ _ (by omega) (by rw [← he, q2 (z5 h22 h32 h40 h48)])
      refine XR.aload_n d_M_clear_43 rfl ?_
      refine XR.iload_n d_M_clear_44 rfl ?_
      refine XR.cV (as := [_]) d_M_clear_45 l_M_115 kv_M_isParent (c_M_isParent) rfl (xle rfl) rfl rfl (xle rfl) (xle rfl) ?_
      refine XR.if_ne d_M_clear_48 (tgt := 60) (by decide) (fun h48 => ?_) (fun h48 => ?_)
      · refine XR.iincN d_M_clear_60 rfl (xle rfl) rfl ?_
        refine XR.goto d_M_clear_63 (tgt := 10) (by decide) ?_
        first | exact ih (i + 1) _ _ (by omega) (by rw [← he, q1 (z1 h22)]) | exact ih (i + 1) _ _ (by omega) (by rw [← he, q1 (z2 h32)]) | exact ih (i + 1) _ _ (by omega) (by rw [← he, q1 (z3 h40)]) | exact ih (i + 1) _ _ (by omega) (by rw [← he, q1 (z4 h48)]) | exact ih (i + 1) _ _ (by omega) (by rw [← he, q2 (z5 h22 h32 h40 h48)])
      refine XR.aload_n d_M_clear_51 rfl ?_
      refine XR.getref d_M_clear_52 (xle rfl) rfl rfl uin_M (fk := 8) (xle rfl) f_M_25 rfl (xle rfl) ?_
      refine XR.iload_n d_M_clear_55 rfl ?_
      refine XR.iconst d_M_clear_56 (v := 0) (by decide) ?_
      refine XR.bastoreN d_M_clear_57 (xle rfl) (fun _ => rfl) (by omega) (xle rfl) rfl ?_
      refine XR.iconst d_M_clear_58 (v := bz true) (by decide) ?_
      refine XR.istore_n d_M_clear_59 (xle rfl) rfl ?_
      refine XR.iincN d_M_clear_60 rfl (xle rfl) rfl ?_
      refine XR.goto d_M_clear_63 (tgt := 10) (by decide) ?_
      first | exact ih (i + 1) _ _ (by omega) (by rw [← he, q1 (z1 h22)]) | exact ih (i + 1) _ _ (by omega) (by rw [← he, q1 (z2 h32)]) | exact ih (i + 1) _ _ (by omega) (by rw [← he, q1 (z3 h40)]) | exact ih (i + 1) _ _ (by omega) (by rw [← he, q1 (z4 h48)]) | exact ih (i + 1) _ _ (by omega) (by rw [← he, q2 (z5 h22 h32 h40 h48)])
  have outer : ∀ (n : Nat) (τ : xS) (z : List Value), rTh τ < n → rClN n τ = rClear σ → XR E i_M_clear 2 0 0 (xok none (xm (rClear σ))) 2 ([.ref (xB E + 14), .int (bz true)] ++ z) [] (xm τ) := by
    intro n
    induction n with
    | zero => intro τ z h; omega
    | succ n ih =>
      intro τ z hn he
      refine XR.locals (L' := [.ref (xB E + 14), .int (bz true)]) (fun j v hj => by rw [List.getElem?_append_left (List.getElem?_eq_some_iff.mp hj).1]; exact hj) ?_
      have hend : XR E i_M_clear 2 0 0 (xok none (xm (rClear σ))) 2 [.ref (xB E + 14), .int (bz (rPass τ).1), .int (nI 40)] [] (xm (rPass τ).2) := by
        by_cases hm : (rPass τ).1 = true
        · rw [hm]
          have hlt : rTh (rPass τ).2 < rTh τ := by
            rcases rPsF_th 39 1 false τ (by decide) with ⟨a, -⟩ | ⟨-, b⟩
            · exact absurd (a.symm.trans hm) (by decide)
            · exact b
          exact ih (rPass τ).2 [_] (by omega) (by rw [← he]; simp only [rClN, if_pos hm])
        · have hm' : (rPass τ).1 = false := by simpa using hm
          have e2 : rClear σ = (rPass τ).2 := by rw [← he]; simp only [rClN, if_neg hm]
          rw [hm', e2]
          refine XR.iload_n d_M_clear_2 rfl ?_
          refine XR.if_eq d_M_clear_3 (tgt := 69) (by decide) (fun _ => ?_) (fun h => absurd (by decide) h)
          refine XR.return_ d_M_clear_69 rfl ?_
          exact ⟨rfl, rfl⟩
      refine XR.iload_n d_M_clear_2 rfl ?_
      refine XR.if_eq d_M_clear_3 (tgt := 69) (by decide) (fun h => absurd h (by decide)) (fun _ => ?_)
      refine XR.iconst d_M_clear_6 (v := bz false) (by decide) ?_
      refine XR.istore_n d_M_clear_7 (xle rfl) rfl ?_
      refine XR.iconst d_M_clear_8 (v := nI 1) (by decide) ?_
      refine XR.istore_n d_M_clear_9 (xle rfl) rfl ?_
      exact inner (rClear σ) (rPass τ) hend 39 1 false τ rfl rfl
  refine XR.iconst d_M_clear_0 (v := bz true) (by decide) ?_
  refine XR.istore_n d_M_clear_1 (xle rfl) rfl ?_
  exact outer 41 σ [] (by have := xcn_le (fun b => !(σ 20 b == 0)) 40; unfold rTh; omega) rfl
theorem c_M_placeOfPage : XC E i_M_placeOfPage 1 0 0 [.ref (xB E + 14), .int x, .int y] (xm σ) (xok (some (.int (rPg σ x y))) (xm σ)) := by
  refine XC.ofF (by decide +kernel) cd_M_placeOfPage rfl (xle rfl) ?_
  have inner : ∀ (p : Nat) (found : Int32), p < 192 → (XR E i_M_placeOfPage 1 0 0 (xok (some (.int (rPg σ x y))) (xm σ)) 82 [.ref (xB E + 14), .int x, .int y, .int found, .int (nI p), .int (nI (rBe σ x p)), .int (nI 192)] [] (xm σ)) →
      ∀ (f o k : Nat), o + f = 192 → k = xcn (rBeP σ x p) o → XR E i_M_placeOfPage 1 0 0 (xok (some (.int (rPg σ x y))) (xm σ)) 19 [.ref (xB E + 14), .int x, .int y, .int found, .int (nI p), .int (nI k), .int (nI o)] [] (xm σ) := by
    intro p found hp hend f
    induction f with
    | zero =>
      intro o k ho hk
      have : o = 192 := by omega
      subst this; subst hk
      refine XR.iload d_M_placeOfPage_19 rfl ?_
      refine XR.sipush d_M_placeOfPage_21 (v := 192) (by decide) ?_
      refine XR.icmp_ge d_M_placeOfPage_24 (tgt := 82) (by decide) (fun _ => ?_) (fun h => absurd (by decide) h)
      exact hend
    | succ f ih =>
      intro o k ho hk
      have q1 : ¬ σ 15 p = x → k + 0 = xcn (rBeP σ x p) (o + 1) := fun h => by rw [xcn_f (by simp [rBeP, h]), hk]; rfl
      have q2 : ¬ σ 15 o = x → k + 0 = xcn (rBeP σ x p) (o + 1) := fun h => by rw [xcn_f (by simp [rBeP, h]), hk]; rfl
      have q3 : σ 18 p ≤ σ 18 o → k + 0 = xcn (rBeP σ x p) (o + 1) := fun h => by rw [xcn_f (by simp [rBeP, h]), hk]; rfl
      have q4 : σ 15 p = x → σ 15 o = x → ¬ σ 18 p ≤ σ 18 o → k + 1 = xcn (rBeP σ x p) (o + 1) := fun a b c => by
        rw [xcn_t (by simp only [rBeP, a, b]; simp only [decide_eq_false c]; simp), hk]
      refine XR.iload d_M_placeOfPage_19 rfl ?_
      refine XR.sipush d_M_placeOfPage_21 (v := 192) (by decide) ?_
      refine XR.icmp_ge d_M_placeOfPage_24 (tgt := 82) (by decide) (fun h => absurd h (nn_le (n := 192) (by omega) (by decide))) (fun _ => ?_)
      refine XR.iload d_M_placeOfPage_27 rfl ?_
      refine XR.aload_n d_M_placeOfPage_29 rfl ?_
      refine XR.getref d_M_placeOfPage_30 (xle rfl) rfl rfl uin_M (fk := 1) (xle rfl) f_M_7 rfl (xle rfl) ?_
      refine XR.iload d_M_placeOfPage_33 rfl ?_
      refine XR.ialoadN d_M_placeOfPage_35 (xle rfl) (fun _ => rfl) (by omega) (xle rfl) ?_
      refine XR.iload_n d_M_placeOfPage_36 rfl ?_
      refine XR.icmp_ne d_M_placeOfPage_37 (tgt := 72) (by decide) (fun h37 => ?_) (fun h37 => ?_)
      · refine XR.iconst d_M_placeOfPage_72 (v := nI 0) (by decide) ?_
        refine XR.iadd d_M_placeOfPage_73 ?_
        rw [nI_add]
        refine XR.istore d_M_placeOfPage_74 (xle rfl) rfl ?_
        refine XR.iincN d_M_placeOfPage_76 rfl (xle rfl) rfl ?_
        refine XR.goto d_M_placeOfPage_79 (tgt := 19) (by decide) ?_
        first | exact ih (o + 1) _ (by omega) (q1 h37) | exact ih (o + 1) _ (by omega) (q2 h48) | exact ih (o + 1) _ (by omega) (q3 h65) | exact ih (o + 1) _ (by omega) (q4 h37 h48 h65)
      refine XR.aload_n d_M_placeOfPage_40 rfl ?_
      refine XR.getref d_M_placeOfPage_41 (xle rfl) rfl rfl uin_M (fk := 1) (xle rfl) f_M_7 rfl (xle rfl) ?_
      refine XR.iload d_M_placeOfPage_44 rfl ?_
      refine XR.ialoadN d_M_placeOfPage_46 (xle rfl) (fun _ => rfl) (by omega) (xle rfl) ?_
      refine XR.iload_n d_M_placeOfPage_47 rfl ?_
      refine XR.icmp_ne d_M_placeOfPage_48 (tgt := 72) (by decide) (fun h48 => ?_) (fun h48 => ?_)
      · refine XR.iconst d_M_placeOfPage_72 (v := nI 0) (by decide) ?_
        refine XR.iadd d_M_placeOfPage_73 ?_
        rw [nI_add]
        refine XR.istore d_M_placeOfPage_74 (xle rfl) rfl ?_
        refine XR.iincN d_M_placeOfPage_76 rfl (xle rfl) rfl ?_
        refine XR.goto d_M_placeOfPage_79 (tgt := 19) (by decide) ?_
        first | exact ih (o + 1) _ (by omega) (q1 h37) | exact ih (o + 1) _ (by omega) (q2 h48) | exact ih (o + 1) _ (by omega) (q3 h65) | exact ih (o + 1) _ (by omega) (q4 h37 h48 h65)
      refine XR.aload_n d_M_placeOfPage_51 rfl ?_
      refine XR.getref d_M_placeOfPage_52 (xle rfl) rfl rfl uin_M (fk := 4) (xle rfl) f_M_19 rfl (xle rfl) ?_
      refine XR.iload d_M_placeOfPage_55 rfl ?_
      refine XR.ialoadN d_M_placeOfPage_57 (xle rfl) (fun _ => rfl) (by omega) (xle rfl) ?_
      refine XR.aload_n d_M_placeOfPage_58 rfl ?_
      refine XR.getref d_M_placeOfPage_59 (xle rfl) rfl rfl uin_M (fk := 4) (xle rfl) f_M_19 rfl (xle rfl) ?_
      refine XR.iload d_M_placeOfPage_62 rfl ?_
      refine XR.ialoadN d_M_placeOfPage_64 (xle rfl) (fun _ => rfl) (by omega) (xle rfl) ?_
      refine XR.icmp_ge d_M_placeOfPage_65 (tgt := 72) (by decide) (fun h65 => ?_) (fun h65 => ?_)
      · refine XR.iconst d_M_placeOfPage_72 (v := nI 0) (by decide) ?_
        refine XR.iadd d_M_placeOfPage_73 ?_
        rw [nI_add]
        refine XR.istore d_M_placeOfPage_74 (xle rfl) rfl ?_
        refine XR.iincN d_M_placeOfPage_76 rfl (xle rfl) rfl ?_
        refine XR.goto d_M_placeOfPage_79 (tgt := 19) (by decide) ?_
        first | exact ih (o + 1) _ (by omega) (q1 h37) | exact ih (o + 1) _ (by omega) (q2 h48) | exact ih (o + 1) _ (by omega) (q3 h65) | exact ih (o + 1) _ (by omega) (q4 h37 h48 h65)
      refine XR.iconst d_M_placeOfPage_68 (v := nI 1) (by decide) ?_
      refine XR.goto d_M_placeOfPage_69 (tgt := 73) (by decide) ?_
      refine XR.iadd d_M_placeOfPage_73 ?_
      rw [nI_add]
      refine XR.istore d_M_placeOfPage_74 (xle rfl) rfl ?_
      refine XR.iincN d_M_placeOfPage_76 rfl (xle rfl) rfl ?_
      refine XR.goto d_M_placeOfPage_79 (tgt := 19) (by decide) ?_
      first | exact ih (o + 1) _ (by omega) (q1 h37) | exact ih (o + 1) _ (by omega) (q2 h48) | exact ih (o + 1) _ (by omega) (q3 h65) | exact ih (o + 1) _ (by omega) (q4 h37 h48 h65)
  have loop : ∀ (f i : Nat) (found : Int32) (z : List Value), i + f = 192 → rPgF σ x y f i found = rPg σ x y → XR E i_M_placeOfPage 1 0 0 (xok (some (.int (rPg σ x y))) (xm σ)) 5 ([.ref (xB E + 14), .int x, .int y, .int found, .int (nI i)] ++ z) [] (xm σ) := by
    intro f
    induction f with
    | zero =>
      intro i found z hi he
      have : i = 192 := by omega
      subst this
      refine XR.locals (L' := [.ref (xB E + 14), .int x, .int y, .int found, .int (nI 192)]) (fun j v hj => by rw [List.getElem?_append_left (List.getElem?_eq_some_iff.mp hj).1]; exact hj) ?_
      refine XR.iload d_M_placeOfPage_5 rfl ?_
      refine XR.sipush d_M_placeOfPage_7 (v := 192) (by decide) ?_
      refine XR.icmp_ge d_M_placeOfPage_10 (tgt := 112) (by decide) (fun _ => ?_) (fun h => absurd (by decide) h)
      refine XR.iload_n d_M_placeOfPage_112 rfl ?_
      refine XR.xreturn d_M_placeOfPage_113 rfl ?_
      exact ⟨by rw [← he]; rfl, rfl⟩
    | succ f ih =>
      intro i found z hi he
      refine XR.locals (L' := [.ref (xB E + 14), .int x, .int y, .int found, .int (nI i)]) (fun j v hj => by rw [List.getElem?_append_left (List.getElem?_eq_some_iff.mp hj).1]; exact hj) ?_
      have q1 : ¬ σ 15 i = x → rPgF σ x y (f + 1) i found = rPgF σ x y f (i + 1) found := fun h => by simp only [rPgF, if_neg (fun q : σ 15 i = x ∧ nI (rBe σ x i) = y => h q.1)]
      have q2 : ¬ nI (rBe σ x i) = y → rPgF σ x y (f + 1) i found = rPgF σ x y f (i + 1) found := fun h => by simp only [rPgF, if_neg (fun q : σ 15 i = x ∧ nI (rBe σ x i) = y => h q.2)]
      have q3 : σ 15 i = x → nI (rBe σ x i) = y → rPgF σ x y (f + 1) i found = rPgF σ x y f (i + 1) (nI i) := fun a b => by simp only [rPgF, if_pos (And.intro a b)]
      have h82 : XR E i_M_placeOfPage 1 0 0 (xok (some (.int (rPg σ x y))) (xm σ)) 82 [.ref (xB E + 14), .int x, .int y, .int found, .int (nI i), .int (nI (rBe σ x i)), .int (nI 192)] [] (xm σ) := by
        refine XR.aload_n d_M_placeOfPage_82 rfl ?_
        refine XR.getref d_M_placeOfPage_83 (xle rfl) rfl rfl uin_M (fk := 1) (xle rfl) f_M_7 rfl (xle rfl) ?_
        refine XR.iload d_M_placeOfPage_86 rfl ?_
        refine XR.ialoadN d_M_placeOfPage_88 (xle rfl) (fun _ => rfl) (by omega) (xle rfl) ?_
        refine XR.iload_n d_M_placeOfPage_89 rfl ?_
        refine XR.icmp_ne d_M_placeOfPage_90 (tgt := 104) (by decide) (fun h90 => ?_) (fun h90 => ?_)
        · refine XR.iload_n d_M_placeOfPage_104 rfl ?_
          refine XR.istore_n d_M_placeOfPage_105 (xle rfl) rfl ?_
          refine XR.iincN d_M_placeOfPage_106 rfl (xle rfl) rfl ?_
          refine XR.goto d_M_placeOfPage_109 (tgt := 5) (by decide) ?_
          first | exact ih (i + 1) _ [_, _] (by omega) (by rw [← he, q1 h90]) | exact ih (i + 1) _ [_, _] (by omega) (by rw [← he, q2 h96]) | exact ih (i + 1) _ [_, _] (by omega) (by rw [← he, q3 h90 h96])
        refine XR.iload d_M_placeOfPage_93 rfl ?_
        refine XR.iload_n d_M_placeOfPage_95 rfl ?_
        refine XR.icmp_ne d_M_placeOfPage_96 (tgt := 104) (by decide) (fun h96 => ?_) (fun h96 => ?_)
        · refine XR.iload_n d_M_placeOfPage_104 rfl ?_
          refine XR.istore_n d_M_placeOfPage_105 (xle rfl) rfl ?_
          refine XR.iincN d_M_placeOfPage_106 rfl (xle rfl) rfl ?_
          refine XR.goto d_M_placeOfPage_109 (tgt := 5) (by decide) ?_
          first | exact ih (i + 1) _ [_, _] (by omega) (by rw [← he, q1 h90]) | exact ih (i + 1) _ [_, _] (by omega) (by rw [← he, q2 h96]) | exact ih (i + 1) _ [_, _] (by omega) (by rw [← he, q3 h90 h96])
        refine XR.iload d_M_placeOfPage_99 rfl ?_
        refine XR.goto d_M_placeOfPage_101 (tgt := 105) (by decide) ?_
        refine XR.istore_n d_M_placeOfPage_105 (xle rfl) rfl ?_
        refine XR.iincN d_M_placeOfPage_106 rfl (xle rfl) rfl ?_
        refine XR.goto d_M_placeOfPage_109 (tgt := 5) (by decide) ?_
        first | exact ih (i + 1) _ [_, _] (by omega) (by rw [← he, q1 h90]) | exact ih (i + 1) _ [_, _] (by omega) (by rw [← he, q2 h96]) | exact ih (i + 1) _ [_, _] (by omega) (by rw [← he, q3 h90 h96])
      refine XR.iload d_M_placeOfPage_5 rfl ?_
      refine XR.sipush d_M_placeOfPage_7 (v := 192) (by decide) ?_
      refine XR.icmp_ge d_M_placeOfPage_10 (tgt := 112) (by decide) (fun h => absurd h (nn_le (n := 192) (by omega) (by decide))) (fun _ => ?_)
      refine XR.iconst d_M_placeOfPage_13 (v := nI 0) (by decide) ?_
      refine XR.istore d_M_placeOfPage_14 (xle rfl) rfl ?_
      refine XR.iconst d_M_placeOfPage_16 (v := nI 0) (by decide) ?_
      refine XR.istore d_M_placeOfPage_17 (xle rfl) rfl ?_
      exact inner i found (by omega) h82 192 0 0 (by omega) rfl
  refine XR.iconst d_M_placeOfPage_0 (v := -1) (by decide) ?_
  refine XR.istore_n d_M_placeOfPage_1 (xle rfl) rfl ?_
  refine XR.iconst d_M_placeOfPage_2 (v := nI 0) (by decide) ?_
  refine XR.istore d_M_placeOfPage_3 (xle rfl) rfl ?_
  exact loop 192 0 (-1) [] rfl rfl
end XModel2
