/-! handUp: the pages -/
section GiveAll
variable {σ : xS}
theorem x3_9 {o f s : Nat → Int32} : (xup (xup (xup σ 9 o) 12 f) 13 s) 9 = o := rfl
theorem x3_set9 {o f s : Nat → Int32} {p : Nat} {v : Int32} : xu (xup (xup (xup σ 9 o) 12 f) 13 s) 9 p v = xup (xup (xup σ 9 (fun j => if j = p then v else o j)) 12 f) 13 s := by
  funext k
  by_cases e9 : k = 9
  · subst e9; rfl
  · rw [xu_other e9]
    by_cases e13 : k = 13
    · subst e13; rfl
    · rw [xup_ne e13, xup_ne e13]
      by_cases e12 : k = 12
      · subst e12; rfl
      · rw [xup_ne e12, xup_ne e12, xup_ne e9, xup_ne e9]
theorem x3_set12 {o f s : Nat → Int32} {p : Nat} {v : Int32} : xu (xup (xup (xup σ 9 o) 12 f) 13 s) 12 p v = xup (xup (xup σ 9 o) 12 (fun j => if j = p then v else f j)) 13 s := by
  funext k
  by_cases e9 : k = 12
  · subst e9; rfl
  · rw [xu_other e9]
    by_cases e13 : k = 13
    · subst e13; rfl
    · rw [xup_ne e13, xup_ne e13, xup_ne e9, xup_ne e9]
theorem x3_set13 {o f s : Nat → Int32} {p : Nat} {v : Int32} : xu (xup (xup (xup σ 9 o) 12 f) 13 s) 13 p v = xup (xup (xup σ 9 o) 12 f) 13 (fun j => if j = p then v else s j) := by
  rw [xu_xup, xup2]; rfl
theorem set_app {K : List Nat} {a : Nat} {g : Nat → Int32} (h1 : ∀ j p, K[j]? = some p → g j = nI p) : ∀ j p, (K ++ [a])[j]? = some p → (if j = K.length then nI a else g j) = nI p := fun j p hp => by
  rcases Nat.lt_or_ge j K.length with hj | hj
  · rw [List.getElem?_append_left hj] at hp
    rw [if_neg (by omega)]; exact h1 j p hp
  · have hj2 : j = K.length := by
      have := (List.getElem?_eq_some_iff.mp hp).1
      simp at this; omega
    subst hj2
    have : a = p := by simpa using hp
    rw [if_pos rfl, this]
theorem gaF {x y : Int32} : ∀ (l K G : List Nat) (i : Nat) (o f s : Nat → Int32), K.length ≤ i → (∀ j p, K[j]? = some p → f j = nI p) → (∀ j p, G[j]? = some p → s j = nI p) → (∀ j p, l[j]? = some p → f (i + j) = nI p) → (∀ p, p ∈ l → p < 192 ∧ o p = σ 9 p) → l.Pairwise (fun a b => ¬ a = b) →
    ∃ o' f' s', sGaF x y l.length i K.length G.length (xup (xup (xup σ 9 o) 12 f) 13 s) = ((K ++ l.filter fun p => !(σ 9 p == x)).length, (G ++ l.filter fun p => σ 9 p == x).length, xup (xup (xup σ 9 o') 12 f') 13 s') ∧
      (∀ j p, (K ++ l.filter fun p => !(σ 9 p == x))[j]? = some p → f' j = nI p) ∧ (∀ j p, (G ++ l.filter fun p => σ 9 p == x)[j]? = some p → s' j = nI p) ∧ (∀ p, o' p = if p ∈ (l.filter fun p => σ 9 p == x) then y else o p)
  | [], K, G, i, o, f, s, _, h1, h2, _, _, _ => ⟨o, f, s, by rw [List.filter_nil, List.append_nil, List.filter_nil, List.append_nil]; rfl, by rw [List.filter_nil, List.append_nil]; exact h1, by rw [List.filter_nil, List.append_nil]; exact h2, fun p => by simp⟩
  | a :: l, K, G, i, o, f, s, hK, h1, h2, h3, h4, h5 => by
    have ha := h3 0 a (by simp)
    rw [Nat.add_zero] at ha
    obtain ⟨ha2, hao⟩ := h4 a List.mem_cons_self
    have e1 : (xup (xup (xup σ 9 o) 12 f) 13 s) 12 i = nI a := ha
    have e2 : (xup (xup (xup σ 9 o) 12 f) 13 s) 9 (xn (nI a)) = σ 9 a := by rw [xn_nI (by omega)]; exact hao
    have h3' : ∀ j p, l[j]? = some p → f (i + 1 + j) = nI p := fun j p hp => by
      have := h3 (j + 1) p (by simpa using hp)
      rwa [show i + (j + 1) = i + 1 + j by omega] at this
    have h5' := List.pairwise_cons.mp h5
    have hal : ∀ p, p ∈ l → ¬ p = a := fun p hp e => h5'.1 p hp e.symm
    rw [List.length_cons, sGaF, e1, e2]
    by_cases hQ : σ 9 a = x
    · rw [if_pos hQ, xn_nI (show a < 2 ^ 31 by omega), x3_set9, x3_set13]
      have hQ' : (σ 9 a == x) = true := by simp [hQ]
      rw [List.filter_cons_of_pos (p := fun p => σ 9 p == x) (a := a) (l := l) hQ', List.filter_cons_of_neg (p := fun p => !(σ 9 p == x)) (a := a) (l := l) (by simp [hQ])]
      obtain ⟨o', f', s', q1, q2, q3, q4⟩ := gaF (x := x) (y := y) l K (G ++ [a]) (i + 1) (fun j => if j = a then y else o j) f (fun j => if j = G.length then nI a else s j) (by omega) h1 (set_app h2) h3' (fun p hp => by
        refine ⟨(h4 p (List.mem_cons_of_mem _ hp)).1, ?_⟩
        show (if p = a then y else o p) = _
        rw [if_neg (hal p hp)]; exact (h4 p (List.mem_cons_of_mem _ hp)).2) h5'.2
      rw [List.length_append, List.append_assoc] at q1
      refine ⟨o', f', s', q1, q2, by rw [List.append_assoc] at q3; exact q3, fun p => ?_⟩
      rw [q4 p]
      show (if p ∈ _ then y else (if p = a then y else o p)) = _
      by_cases ep : p = a
      · rw [if_pos ep]
        simp [ep]
      · rw [if_neg ep]
        simp [ep]
    · rw [if_neg hQ, x3_set12]
      rw [List.filter_cons_of_neg (p := fun p => σ 9 p == x) (a := a) (l := l) (by simp [hQ]), List.filter_cons_of_pos (p := fun p => !(σ 9 p == x)) (a := a) (l := l) (by simp [hQ])]
      obtain ⟨o', f', s', q1, q2, q3, q4⟩ := gaF (x := x) (y := y) l (K ++ [a]) G (i + 1) o (fun j => if j = K.length then nI a else f j) s (by simp; omega) (set_app h1) h2 (fun j p hp => by
        show (if i + 1 + j = K.length then nI a else f (i + 1 + j)) = _
        rw [if_neg (by omega)]; exact h3' j p hp) (fun p hp => h4 p (List.mem_cons_of_mem _ hp)) h5'.2
      rw [List.length_append, List.append_assoc] at q1
      exact ⟨o', f', s', q1, by rw [List.append_assoc] at q2; exact q2, q3, q4⟩
/-- the pages of x go to y, behind all others, in their order -/
theorem ga_list {L : List Nat} {x y : Int32} (h1 : ∀ j p, L[j]? = some p → σ 12 j = nI p) (h2 : ∀ p, p ∈ L → p < 192) (h3 : L.Pairwise (fun a b => ¬ a = b)) :
    ∃ o f s, sGa σ L.length x y = xup (xup (xup σ 9 o) 12 f) 13 s ∧ (∀ j p, ((L.filter fun p => !(σ 9 p == x)) ++ L.filter fun p => σ 9 p == x)[j]? = some p → f j = nI p) ∧ ∀ p, o p = if p ∈ (L.filter fun p => σ 9 p == x) then y else σ 9 p := by
  have e0 : xup (xup (xup σ 9 (σ 9)) 12 (σ 12)) 13 (σ 13) = σ := by
    rw [xup_id]
    rw [xup_id, xup_id]
  obtain ⟨o, f, s, q1, q2, q3, q4⟩ := gaF (σ := σ) (x := x) (y := y) L [] [] 0 (σ 9) (σ 12) (σ 13) (by simp) (fun j p hp => by simp at hp) (fun j p hp => by simp at hp) (fun j p hp => by rw [Nat.zero_add]; exact h1 j p hp) (fun p hp => ⟨h2 p hp, rfl⟩) h3
  rw [e0] at q1
  simp only [List.nil_append] at q1 q2 q3
  refine ⟨o, va_cpy s f 0 (L.filter fun p => !(σ 9 p == x)).length (L.filter fun p => σ 9 p == x).length, s, ?_, fun j p hp => ?_, q4⟩
  · rw [sGa, show sGaF x y L.length 0 0 0 σ = _ from q1, sGaE]
    funext k
    by_cases e13 : k = 13
    · subst e13; rfl
    · by_cases e12 : k = 12
      · subst e12; rfl
      · rw [xup_ne e12]
        show (xup (xup (xup σ 9 o) 12 f) 13 s) k = _
        rw [xup_ne e13, xup_ne e12, xup_ne e13, xup_ne e12]
  · show (if _ ≤ j ∧ j < _ + _ then s (0 + (j - _)) else f j) = _
    rcases Nat.lt_or_ge j (L.filter fun p => !(σ 9 p == x)).length with hj | hj
    · rw [if_neg (by omega)]
      rw [List.getElem?_append_left hj] at hp
      exact q2 j p hp
    · rw [List.getElem?_append_right hj] at hp
      have hl := (List.getElem?_eq_some_iff.mp hp).1
      rw [if_pos (by omega), Nat.zero_add]
      exact q3 _ p hp
end GiveAll
section HuModel
/-- the reference's own list of the pages, by their stamps -/
def OLm (L : List Nat) (ρ : xS) (B : Int) : Prop := OLL L (ρ 15) (fun i => nI (L.getD i 0)) (ρ 18) (nI L.length) (ρ 14 7) B
theorem OLm.of {L : List Nat} {ρ : xS} {s12 : Nat → Int32} {n6 : Int32} {B : Int} (h : OLL L (ρ 15) s12 (ρ 18) n6 (ρ 14 7) B) : OLm L ρ B :=
  ⟨rfl, fun i p hp => by simp [List.getD, hp], h.2.2⟩
/-- handUp's loop over the pages -/
theorem hu_sim {x y : Nat} (hx : x < 40) (hy : y < 40) (hxy : ¬ y = x) : ∀ (l : List Nat) (Lc : List Nat) (ρ : xS) (B : Int), OLm Lc ρ B → (Lc.filter fun p => ρ 15 p == nI x) = l → B + l.length < 2000000000 →
    (∀ k, k < l.length → vp_in (rPg (rHuF (nI x) (nI y) k ρ) (nI x) (nI 0)) 192) ∧ OLm ((Lc.filter fun p => !(ρ 15 p == nI x)) ++ l) (rHuF (nI x) (nI y) l.length ρ) (B + l.length) ∧
    (∀ p, rHuF (nI x) (nI y) l.length ρ 15 p = if p ∈ l then nI y else ρ 15 p) ∧ (∀ k, ¬ k = 14 → ¬ k = 15 → ¬ k = 18 → rHuF (nI x) (nI y) l.length ρ k = ρ k) ∧ ∀ i, ¬ i = 7 → rHuF (nI x) (nI y) l.length ρ 14 i = ρ 14 i := by
  intro l
  induction l with
  | nil =>
    intro Lc ρ B h hl hB
    refine ⟨fun k hk => by simp at hk, ?_, fun p => by simp [rHuF], fun _ _ _ _ => rfl, fun _ _ => rfl⟩
    have e : (Lc.filter fun p => !(ρ 15 p == nI x)) = Lc := List.filter_eq_self.mpr fun p hp => by
      have : ¬ (ρ 15 p == nI x) = true := fun hh => by
        have hm : p ∈ Lc.filter fun p => ρ 15 p == nI x := List.mem_filter.mpr ⟨hp, hh⟩
        rw [hl] at hm; exact absurd hm List.not_mem_nil
      simpa using this
    rw [e, List.append_nil, show B + (([] : List Nat).length : Int) = B by simp]
    exact h
  | cons p l ih =>
    intro Lc ρ B h hl hB
    have hp0 : (Lc.filter fun p => ρ 15 p == nI x)[0]? = some p := by rw [hl]; rfl
    have hpg : rPg ρ (nI x) (nI 0) = nI p := h.pg hx hp0
    have hpm : p ∈ Lc.filter fun p => ρ 15 p == nI x := by rw [hl]; exact List.mem_cons_self
    obtain ⟨hpL, hpx⟩ := List.mem_filter.mp hpm
    have h15 : ρ 15 p = nI x := by simpa using hpx
    have hp192 := ((h.2.2.1 p).mp hpL).1
    have xp : xn (nI p) = p := xn_nI (by omega)
    have hnd : (p :: l).Pairwise (fun a b => ¬ a = b) := by rw [← hl]; exact h.nd.filter _
    have hpl : p ∉ l := fun hh => (List.pairwise_cons.mp hnd).1 p hh rfl
    have hyx : ¬ nI y = nI x := fun e => hxy ((nI_eq (by omega) (by omega)).mp e)
    obtain ⟨ρ1, e1⟩ : ∃ ρ1, ρ1 = rGive ρ (nI p) (nI y) := ⟨_, rfl⟩
    have r15 : ρ1 15 = fun j => if j = p then nI y else ρ 15 j := by rw [e1, rGive, xp]; rfl
    have r18 : ρ1 18 = fun j => if j = p then ρ 14 7 else ρ 18 j := by rw [e1, rGive, xp]; rfl
    have r147 : ρ1 14 7 = ρ 14 7 + 1 := by rw [e1]; rfl
    have r14 : ∀ i, ¬ i = 7 → ρ1 14 i = ρ 14 i := fun i hi => by
      rw [e1, rGive, xu_at, if_neg hi, xu_other (by decide), xu_other (by decide)]
    have rk : ∀ k, ¬ k = 14 → ¬ k = 15 → ¬ k = 18 → ρ1 k = ρ k := fun k a b c => by rw [e1, rGive, xu_other a, xu_other c, xu_other b]
    have es : rHuF (nI x) (nI y) (l.length + 1) ρ = rHuF (nI x) (nI y) l.length ρ1 := by
      rw [rHuF, e1, show rPg ρ (nI x) 0 = nI p from hpg]
    -- the list behind this step
    have hq : (fun q => !((fun j => if j = p then (-1 : Int32) else ρ 15 j) q == -1)) = fun q => !(if q = p then (-1 : Int32) else ρ 15 q) == -1 := rfl
    have f1 := OLL.filter (s9' := fun j => if j = p then (-1 : Int32) else ρ 15 j) (f := fun i => nI ((Lc.filter fun q => !((fun j => if j = p then (-1 : Int32) else ρ 15 j) q == -1)).getD i 0)) h (fun q hq hh => by
      have hh' : ¬ (if q = p then (-1 : Int32) else ρ 15 q) = -1 := hh
      by_cases e : q = p
      · rw [if_pos e] at hh'; exact absurd rfl hh'
      · rw [if_neg e] at hh'; exact hh') (fun j q hq => by simp [List.getD, hq])
    have f2 := f1.push hp192 (show (if p = p then (-1 : Int32) else ρ 15 p) = -1 from if_pos rfl) (v := nI y) (nI_m1 (by omega)) (by simp at hB; omega)
    have eL : (Lc.filter fun q => !((if q = p then (-1 : Int32) else ρ 15 q) == -1)) = Lc.filter fun q => !(q == p) := List.filter_congr fun q hq => by
      by_cases e : q = p
      · rw [if_pos e, e]; simp
      · rw [if_neg e]
        have := ((h.2.2.1 q).mp hq).2
        rw [show (ρ 15 q == -1) = false by simpa using this, show (q == p) = false by simpa using e]
    rw [eL] at f2
    have er15 : (fun j => if j = p then nI y else (fun j => if j = p then (-1 : Int32) else ρ 15 j) j) = ρ1 15 := by
      rw [r15]; funext j
      by_cases e : j = p
      · rw [if_pos e, if_pos e]
      · rw [if_neg e, if_neg e]; exact if_neg e
    rw [er15, ← r18, ← r147] at f2
    have h1 : OLm ((Lc.filter fun q => !(q == p)) ++ [p]) ρ1 (B + 1) := OLm.of f2
    have hfx : (((Lc.filter fun q => !(q == p)) ++ [p]).filter fun q => ρ1 15 q == nI x) = l := by
      rw [List.filter_append, List.filter_filter]
      have e2 : ([p].filter fun q => ρ1 15 q == nI x) = [] := by
        rw [List.filter_cons_of_neg (by rw [r15]; simp [hyx])]; rfl
      rw [e2, List.append_nil]
      have e3 : (Lc.filter fun q => (ρ1 15 q == nI x) && !(q == p)) = (Lc.filter fun q => ρ 15 q == nI x).filter fun q => !(q == p) := by
        rw [List.filter_filter]
        refine List.filter_congr fun q hq => ?_
        rw [r15]
        show ((if q = p then nI y else ρ 15 q) == nI x && !(q == p)) = (!(q == p) && (ρ 15 q == nI x))
        by_cases e : q = p
        · simp [e]
        · rw [if_neg e, Bool.and_comm]
      rw [e3, hl, List.filter_cons_of_neg (by simp)]
      exact List.filter_eq_self.mpr fun q hq => by
        have : ¬ q = p := fun e => hpl (e ▸ hq)
        simp [this]
    have hfn : (((Lc.filter fun q => !(q == p)) ++ [p]).filter fun q => !(ρ1 15 q == nI x)) = (Lc.filter fun q => !(ρ 15 q == nI x)) ++ [p] := by
      rw [List.filter_append, List.filter_filter]
      have e2 : ([p].filter fun q => !(ρ1 15 q == nI x)) = [p] := by
        rw [List.filter_cons_of_pos (by rw [r15]; simp [hyx])]; rfl
      rw [e2]
      congr 1
      refine List.filter_congr fun q hq => ?_
      rw [r15]
      show (!((if q = p then nI y else ρ 15 q) == nI x) && !(q == p)) = !(ρ 15 q == nI x)
      by_cases e : q = p
      · rw [e, h15]; simp
      · rw [if_neg e]; simp [e]
    obtain ⟨a1, a2, a3, a4, a5⟩ := ih _ ρ1 (B + 1) h1 hfx (by simp at hB; omega)
    rw [hfn, List.append_assoc] at a2
    rw [List.length_cons, es]
    refine ⟨fun k hk => ?_, ?_, fun q => ?_, fun k b1 b2 b3 => (a4 k b1 b2 b3).trans (rk k b1 b2 b3), fun i hi => (a5 i hi).trans (r14 i hi)⟩
    · cases k with
      | zero =>
        show vp_in (rPg ρ (nI x) (nI 0)) 192
        rw [hpg]; exact vp_in_nI hp192 (by decide)
      | succ k =>
        have : rHuF (nI x) (nI y) (k + 1) ρ = rHuF (nI x) (nI y) k ρ1 := by rw [rHuF, e1, show rPg ρ (nI x) 0 = nI p from hpg]
        rw [this]
        exact a1 k (by omega)
    · rw [show B + ((l.length + 1 : Nat) : Int) = B + 1 + (l.length : Int) by omega]
      exact a2
    · rw [a3 q, r15]
      show (if q ∈ l then nI y else (if q = p then nI y else ρ 15 q)) = _
      by_cases e : q = p
      · rw [if_pos e]; simp [e]
      · rw [if_neg e]; simp [e]
end HuModel
