/-! sell, move -/
section Gap
variable {σ : xS}
theorem xup_self (σ : xS) (q : Nat) : xup σ q (σ q) = σ := xup_id σ q
theorem gapF : ∀ (l K : List Nat) (i : Nat) (g : Nat → Int32), K.length ≤ i → (∀ j p, K[j]? = some p → g j = nI p) → (∀ j p, l[j]? = some p → g (i + j) = nI p) → (∀ p, p ∈ l → p < 192) →
    ∃ g', sGapF l.length i K.length (xup σ 12 g) = ((K ++ l.filter fun p => !(σ 9 p == -1)).length, xup σ 12 g') ∧ ∀ j p, (K ++ l.filter fun p => !(σ 9 p == -1))[j]? = some p → g' j = nI p
  | [], K, i, g, _, h1, _, _ => ⟨g, by rw [List.filter_nil, List.append_nil]; rfl, by rw [List.filter_nil, List.append_nil]; exact h1⟩
  | a :: l, K, i, g, hK, h1, h2, h3 => by
    have ha := h2 0 a (by simp)
    rw [Nat.add_zero] at ha
    have ha2 := h3 a List.mem_cons_self
    have e1 : (xup σ 12 g) 12 i = nI a := ha
    have e2 : sTk (xup σ 12 g) (xn (nI a)) = !(σ 9 a == -1) := by rw [xn_nI (by omega)]; rfl
    have h2' : ∀ j p, l[j]? = some p → g (i + 1 + j) = nI p := fun j p hp => by
      have := h2 (j + 1) p (by simpa using hp)
      rwa [show i + (j + 1) = i + 1 + j by omega] at this
    rw [List.length_cons, sGapF, e1, e2]
    by_cases hQ : (!(σ 9 a == -1)) = true
    · rw [if_pos hQ, List.filter_cons_of_pos (p := fun p => !(σ 9 p == -1)) (a := a) (l := l) hQ, xu_xup, xup2, xup_same]
      have := gapF l (K ++ [a]) (i + 1) (fun j => if j = K.length then nI a else g j) (by simp; omega) (fun j p hp => by
        rcases Nat.lt_or_ge j K.length with hj | hj
        · rw [List.getElem?_append_left hj] at hp
          show (if j = K.length then nI a else g j) = _
          rw [if_neg (by omega)]; exact h1 j p hp
        · have hj2 : j = K.length := by
            have := (List.getElem?_eq_some_iff.mp hp).1
            simp at this; omega
          subst hj2
          have : a = p := by simpa using hp
          show (if K.length = K.length then nI a else g K.length) = _
          rw [if_pos rfl, this]) (fun j p hp => by
        show (if i + 1 + j = K.length then nI a else g (i + 1 + j)) = _
        rw [if_neg (by omega)]; exact h2' j p hp) (fun p hp => h3 p (List.mem_cons_of_mem _ hp))
      rw [List.length_append, List.append_assoc] at this
      exact this
    · rw [if_neg hQ, List.filter_cons_of_neg (p := fun p => !(σ 9 p == -1)) (a := a) (l := l) hQ]
      exact gapF l K (i + 1) g (by omega) h1 h2' (fun p hp => h3 p (List.mem_cons_of_mem _ hp))
theorem gap_list {L : List Nat} (h1 : ∀ j p, L[j]? = some p → σ 12 j = nI p) (h2 : ∀ p, p ∈ L → p < 192) :
    ∃ f, sGap σ L.length = xu (xup σ 12 f) 7 6 (nI (L.filter fun p => !(σ 9 p == -1)).length) ∧ ∀ j p, (L.filter fun p => !(σ 9 p == -1))[j]? = some p → f j = nI p := by
  obtain ⟨f, e, hf⟩ := gapF (σ := σ) L [] 0 (σ 12) (by simp) (fun j p hp => by simp at hp) (fun j p hp => by rw [Nat.zero_add]; exact h1 j p hp) h2
  rw [xup_self] at e
  refine ⟨f, ?_, by simpa using hf⟩
  rw [sGap]
  have e' : sGapF L.length 0 0 σ = ((L.filter fun p => !(σ 9 p == -1)).length, xup σ 12 f) := by simpa using e
  rw [e']
end Gap
section Pages
variable {L : List Nat} {s2 s5 s9 s12 s18 s9' f : Nat → Int32} {n6 n7 : Int32} {B : Int}
/-- some pages leave -/
theorem OLL.filter (h : OLL L s9 s12 s18 n6 n7 B) (hs : ∀ p, p < 192 → ¬ s9' p = -1 → ¬ s9 p = -1) (hf : ∀ j p, (L.filter fun p => !(s9' p == -1))[j]? = some p → f j = nI p) : OLL (L.filter fun p => !(s9' p == -1)) s9' f s18 (nI (L.filter fun p => !(s9' p == -1)).length) n7 B := by
  refine ⟨rfl, hf, fun p => ?_, h.2.2.2.1.filter _, fun p hp => h.2.2.2.2.1 p (List.mem_filter.mp hp).1, h.2.2.2.2.2⟩
  rw [List.mem_filter, h.2.2.1]
  constructor
  · rintro ⟨⟨h1, h2⟩, h3⟩; exact ⟨h1, by simpa using h3⟩
  · rintro ⟨h1, h2⟩; exact ⟨⟨h1, hs p h1 h2⟩, by simpa using h2⟩
/-- a page comes, as the last -/
theorem OLL.push (h : OLL L s9 s12 s18 n6 n7 B) {p : Nat} (hp : p < 192) (hfree : s9 p = -1) {v : Int32} (hv : ¬ v = -1) (hB : B < 2000000000) : OLL (L ++ [p]) (fun j => if j = p then v else s9 j) (fun j => if j = xn n6 then nI p else s12 j) (fun j => if j = p then n7 else s18 j) (n6 + 1) (n7 + 1) (B + 1) := by
  obtain ⟨h1, h2, h3, h4, h5, h6, h7⟩ := h
  have hlen : L.length ≤ 192 := OLL.len ⟨h1, h2, h3, h4, h5, h6, h7⟩
  have hpL : p ∉ L := fun hh => ((h3 p).mp hh).2 hfree
  have e1 : (n7 + 1).toInt = n7.toInt + 1 := by
    have : (1 : Int32).toInt = 1 := by decide
    rw [tiA (by rw [this]; omega) (by rw [this]; omega), this]
  have hx : xn n6 = L.length := by rw [h1, xn_nI (by omega)]
  refine ⟨by rw [h1, nI_1, List.length_append]; rfl, fun j q hq => ?_, fun q => ?_, ?_, fun q hq => ?_, by omega, by omega⟩
  · show (if j = xn n6 then nI p else s12 j) = _
    rw [hx]
    rcases Nat.lt_or_ge j L.length with hj | hj
    · rw [List.getElem?_append_left hj] at hq
      rw [if_neg (by omega)]; exact h2 j q hq
    · have hj2 : j = L.length := by
        have := (List.getElem?_eq_some_iff.mp hq).1
        simp at this; omega
      subst hj2
      have : p = q := by simpa using hq
      rw [if_pos rfl, this]
  · rw [List.mem_append, h3]
    show _ ↔ q < 192 ∧ ¬ (if q = p then v else s9 q) = -1
    by_cases e : q = p
    · subst e; rw [if_pos rfl]; simp [hp, hv]
    · rw [if_neg e]; simp [e]
  · refine List.pairwise_append.mpr ⟨?_, List.pairwise_singleton _ _, fun a ha b hb => ?_⟩
    · refine h4.imp_of_mem fun {a b} ha hb hab => ?_
      show (if a = p then n7 else s18 a).toInt < (if b = p then n7 else s18 b).toInt
      rw [if_neg (show ¬ a = p from fun e => hpL (e ▸ ha)), if_neg (show ¬ b = p from fun e => hpL (e ▸ hb))]; exact hab
    · have : b = p := by simpa using hb
      subst this
      show (if a = b then n7 else s18 a).toInt < (if b = b then n7 else s18 b).toInt
      rw [if_neg (show ¬ a = b from fun e => hpL (e ▸ ha)), if_pos rfl]; exact h5 a ha
  · show (if q = p then n7 else s18 q).toInt < _
    by_cases e : q = p
    · rw [if_pos e]; omega
    · rw [if_neg e]
      have := h5 q (by
        rcases List.mem_append.mp hq with h | h
        · exact h
        · exact absurd (by simpa using h) e)
      omega
theorem ow_set {p : Nat} (hp : p < 192) {v : Int32} (c : Nat) : (ow (fun j => if j = p then v else s9 j) c : Int) = ow s9 c + ((if v = nI c then 1 else 0) - (if s9 p = nI c then 1 else 0)) := by
  have h1 := xcnt_upd (p := fun q => s9 q == nI c) (q := fun q => (fun j => if j = p then v else s9 j) q == nI c) (k := p) (n := 192) hp (fun i _ e => by show ((if i = p then v else s9 i) == nI c) = _; rw [if_neg e])
  rw [xcnt, xcnt, ← xcn_sum, ← xcn_sum] at h1
  rw [ow, ow, h1]
  simp
end Pages
/-- all but the order of the pages and the dying -/
def RC (σ τ : xS) : Prop := EQ σ τ ∧ TMr (σ 2) (τ 20) (τ 23) ∧ TI (σ 2) (σ 3) ∧ SI (σ 2) ∧ LI (σ 2) (σ 4) (σ 5) (σ 6) ∧ UI (σ 2) (σ 3) (σ 5) (σ 6) (σ 9) ∧ OI (σ 2) (σ 9) ∧ VI (σ 8) (σ 9) ∧ RI (σ 9) (σ 10) (τ 17)
section Core
variable {t : Nat} {σ τ ρ : xS}
theorem Rel.rc (h : Rel t σ τ) : RC σ τ := ⟨h.eq, h.tm, h.ti, h.si, h.li, h.ui, h.oi, h.vi, h.ri⟩
theorem RC.rel (h : RC σ τ) (hd : DI (σ 2) (σ 3) (σ 5)) (ho : OL (σ 9) (σ 12) (τ 18) (σ 7 6) (τ 14 7) t) : Rel t σ τ := by
  obtain ⟨h1, h2, h3, h4, h5, h6, h7, h8, h9⟩ := h
  exact ⟨h1, h2, h3, h4, h5, h6, hd, h7, h8, h9, ho⟩
theorem RC.use (h : RC σ τ) {b : Nat} (hb : b < 40) (tb : thr (σ 2) b = true) : rUse τ (nI b) = σ 6 b := by
  obtain ⟨h1, h2, h3, h4, h5, h6, h7, h8, h9⟩ := h
  exact rUse_eq h3 h2 h1.2.2.2.1 (s4 := σ 4) (by rw [h1.2.2.2.2.2.1]; exact h5) (by rw [h1.2.2.2.2.2.1, h1.1]; exact h6) hb tb
theorem RC.rf (h : RC σ τ) {b : Nat} (hb : b < 40) (tb : thr (σ 2) b = true) (n : Int32) : rRf τ (nI b) n = tRf σ (nI b) n :=
  rf_eq h.2.2.1 h.1.2.2.2.1 h.1.2.2.2.2.1 (fun c hc tc => h.use hc tc) n 7 (nI b) (Or.inr ⟨b, hb, rfl, tb⟩)
theorem tRf_cong (h3 : ρ 3 = σ 3) (h4 : ρ 4 = σ 4) (h6 : ρ 6 = σ 6) (n : Int32) : ∀ (f : Nat) (a : Int32), tRfF ρ n f a = tRfF σ n f a := by
  intro f
  induction f with
  | zero => intros; rfl
  | succ f ih => intro a; rw [tRfF, tRfF, h3, h4, h6, ih]
/-- a page leaves its bank -/
theorem RC.vac (h : RC σ τ) {p b : Nat} (hp : p < 192) (hb : b < 40) (e9 : σ 9 p = nI b) (tb : thr (σ 2) b = true) : RC (xup (xu σ 9 p (-1)) 6 (fun c => if A (Pn (σ 3)) b c then σ 6 c + -1 else σ 6 c)) (xu τ 15 p (-1)) := by
  obtain ⟨⟨e1, e2, e3, e4, e5, e6, e7, e8⟩, h2, h3, h4, h5, h6, h7, h8, h9⟩ := h
  have em : (-1 : Int32).toInt = -1 := by decide
  have hu := uadd h3 h5 h6 hb tb (n := -1) ⟨by rw [em]; omega, by rw [em]; omega⟩ (Or.inl (by rw [em]; omega)) (s5' := σ 5) (s9' := fun j => if j = p then -1 else σ 9 j) (fun c hc tc => by
    unfold wt
    rw [ow_set hp c, e9, em, if_neg (show ¬ (-1 : Int32) = nI c from fun e => nI_m1 (show c < 2 ^ 31 by omega) e.symm)]
    by_cases e : c = b
    · subst e; rw [if_pos rfl, if_pos rfl]; omega
    · rw [if_neg (show ¬ nI b = nI c from fun hh => e ((nI_eq (by omega) (by omega)).mp hh).symm), if_neg e]; omega) (fun c hc tc => (h5 c hc tc).1)
  have n9 : ∀ q, ¬ (if q = p then (-1 : Int32) else σ 9 q) = -1 → ¬ q = p ∧ ¬ σ 9 q = -1 := fun q hh => by
    by_cases e : q = p
    · rw [if_pos e] at hh; exact absurd rfl hh
    · rw [if_neg e] at hh; exact ⟨e, hh⟩
  refine ⟨⟨?_, e2, e3, e4, e5, e6, e7, e8⟩, h2, h3, h4, hu.2, hu.1, fun q hq => ?_, fun q hq => ?_, fun q hq hh => ?_⟩
  · show (fun j => if j = p then -1 else τ 15 j) = (fun j => if j = p then -1 else σ 9 j)
    rw [e1]
  · show (if q = p then (-1 : Int32) else σ 9 q) = -1 ∨ ∃ b, b < 40 ∧ (if q = p then (-1 : Int32) else σ 9 q) = nI b ∧ _
    by_cases e : q = p
    · rw [if_pos e]; exact Or.inl rfl
    · rw [if_neg e]; exact h7 q hq
  · exact ⟨(h8 q hq).1, (h8 q hq).2.1, fun hh => (h8 q hq).2.2 (n9 q hh).2⟩
  · exact h9 q hq (n9 q hh).2
/-- a page comes to a bank, whose use is raised -/
theorem RC.give (h : RC σ τ) {p b : Nat} (hp : p < 192) (hb : b < 40) (e9 : σ 9 p = -1) (tb : thr (σ 2) b = true) (hv : 1 ≤ (σ 8 p).toInt) (hr : σ 10 p = τ 17 p + 1) (hrf : tRf σ (nI b) 1 = -1) : RC (xup (xu σ 9 p (nI b)) 6 (fun c => if A (Pn (σ 3)) b c then σ 6 c + 1 else σ 6 c)) (xu τ 15 p (nI b)) := by
  obtain ⟨⟨e1, e2, e3, e4, e5, e6, e7, e8⟩, h2, h3, h4, h5, h6, h7, h8, h9⟩ := h
  have em : (1 : Int32).toInt = 1 := by decide
  have hu := uadd h3 h5 h6 hb tb (n := 1) ⟨by rw [em]; omega, by rw [em]; omega⟩ (Or.inr hrf) (s5' := σ 5) (s9' := fun j => if j = p then nI b else σ 9 j) (fun c hc tc => by
    unfold wt
    rw [ow_set hp c, e9, em, if_neg (show ¬ (-1 : Int32) = nI c from fun e => nI_m1 (show c < 2 ^ 31 by omega) e.symm)]
    by_cases e : c = b
    · subst e; rw [if_pos rfl, if_pos rfl]; omega
    · rw [if_neg (show ¬ nI b = nI c from fun hh => e ((nI_eq (by omega) (by omega)).mp hh).symm), if_neg e]; omega) (fun c hc tc => (h5 c hc tc).1)
  refine ⟨⟨?_, e2, e3, e4, e5, e6, e7, e8⟩, h2, h3, h4, hu.2, hu.1, fun q hq => ?_, fun q hq => ?_, fun q hq hh => ?_⟩
  · show (fun j => if j = p then nI b else τ 15 j) = (fun j => if j = p then nI b else σ 9 j)
    rw [e1]
  · show (if q = p then nI b else σ 9 q) = -1 ∨ ∃ b', b' < 40 ∧ (if q = p then nI b else σ 9 q) = nI b' ∧ _
    by_cases e : q = p
    · rw [if_pos e]; exact Or.inr ⟨b, hb, rfl, tb⟩
    · rw [if_neg e]; exact h7 q hq
  · refine ⟨(h8 q hq).1, (h8 q hq).2.1, fun hh => ?_⟩
    by_cases e : q = p
    · subst e; exact hv
    · have hh' : ¬ (if q = p then nI b else σ 9 q) = -1 := hh
      rw [if_neg e] at hh'
      exact (h8 q hq).2.2 hh'
  · by_cases e : q = p
    · subst e; exact hr
    · have hh' : ¬ (if q = p then nI b else σ 9 q) = -1 := hh
      rw [if_neg e] at hh'
      exact h9 q hq hh'
end Core
section Ops5
variable {E : xE} {t : Nat} {σ : xS}
theorem s_sell (x : Int32) (h : Inv t σ) : xStp E (Inv (t + 1)) i_B_sell 7 i_M_sell 3 [eN, eA] xV1 [.int x] σ := by
  obtain ⟨L, hL, ho⟩ := OLL.ok (Rel.ol h)
  by_cases hA : bAl σ x = false
  · exact stp_thr (c_B_sell h.pok h.wok ho) (by rw [cSell, if_pos hA]) (c_M_sell (Rel.rvok h)) (by rw [rSell, if_pos (bz0 ((Rel.lv h x).trans hA))]) (by simp) (show (1 : Int32) = hf [eN, eA] 1 eN by decide) (by decide) trivial (h.c 1)
  have hA' := bf hA
  by_cases hs : bStrong x = false
  · exact stp_thr (c_B_sell h.pok h.wok ho) (by rw [cSell, if_neg hA, if_pos (bz0 hs)]) (c_M_sell (Rel.rvok h)) (by rw [rSell, if_neg (bz1 ((Rel.lv h x).trans hA')), if_neg (bz1 (by rw [wk_eq, hs]; rfl))]) (by simp) (show (2 : Int32) = hf [eN, eA] 1 eA by decide) (by decide) trivial (h.c 2)
  have hs' := bf hs
  obtain ⟨p, b, hp, ep, exp_, hb, e9, tb, -, -⟩ := h.alive hA'
  have hTI : TI (σ 2) (σ 3) := Rel.ti h
  obtain ⟨f, hg, hf⟩ := gap_list (σ := xu σ 9 p (-1)) (L := L) hL.2.1 (fun q hq => ((hL.2.2.1 q).mp hq).1)
  obtain ⟨F, hF⟩ : ∃ F, F = L.filter fun q => !(xu σ 9 p (-1) 9 q == -1) := ⟨_, rfl⟩
  rw [← hF] at hg hf
  obtain ⟨σ1, hσ1⟩ : ∃ σ1, σ1 = xup (xu (xup (xu σ 9 p (-1)) 12 f) 7 6 (nI F.length)) 6 (fun c => if A (Pn (σ 3)) b c then σ 6 c + -1 else σ 6 c) := ⟨_, rfl⟩
  have hS : cSellS σ L.length x = σ1 := by
    rw [cSellS, exp_, e9, hg, hσ1]
    exact tAu_eq (σ := xu (xup (xu σ 9 p (-1)) 12 f) 7 6 (nI F.length)) hTI hb tb (-1)
  have hτ : Rel t σ (xu σ1 25 0 (nI b)) := by rw [hσ1]; exact h
  refine stp_ok (v := nI b) (σ1 := σ1) (ρ := xu (xu (xu σ1 25 0 (nI b)) 14 0 0) 15 p (-1)) (c_B_sell h.pok h.wok ho) (by rw [cSell, if_neg hA, if_neg (bz1 hs'), hS, exp_, e9]) (c_M_sell (Rel.rvok hτ)) ?_ rfl rfl trivial ?_
  · rw [rSell, if_neg (bz1 ((Rel.lv hτ x).trans hA')), if_pos (bz0 (by rw [wk_eq, hs']; rfl)), hτ.eq.1, rPl_eq, exp_, e9]
  · have hDI : DI (σ 2) (σ 3) (σ 5) := Rel.di h
    have hc := (Rel.rc hτ).vac hp hb e9 tb
    have hol : OLL F (xu σ 9 p (-1) 9) f (σ 18) (nI F.length) (σ 14 7) (192 * (t : Int)) := by
      rw [hF] at hf ⊢
      refine OLL.filter (s9' := xu σ 9 p (-1) 9) hL (fun q hq hh => ?_) hf
      have hh' : ¬ (if q = p then (-1 : Int32) else σ 9 q) = -1 := hh
      by_cases e : q = p
      · rw [if_pos e] at hh'; exact absurd rfl hh'
      · rw [if_neg e] at hh'; exact hh'
    have hr : Rel t (xup (xu (xup (xu σ 9 p (-1)) 12 f) 7 6 (nI F.length)) 6 (fun c => if A (Pn (σ 3)) b c then σ 6 c + -1 else σ 6 c)) (xu (xu (xu σ1 25 0 (nI b)) 14 0 0) 15 p (-1)) :=
      RC.rel hc hDI ⟨F, by rw [hσ1]; exact hol⟩
    have hr' := Rel.up hr
    rw [← hσ1] at hr'
    exact hr'
theorem xu_undo (τ : xS) (q p : Nat) (v : Int32) : xu (xu τ q p v) q p (τ q p) = τ := by
  rw [xu_xup, xu_xup, xup2]
  rw [show (fun j => if j = p then τ q p else xup τ q (fun j => if j = p then v else τ q j) q j) = τ q from funext fun j => by
    rw [xup_same]
    by_cases e : j = p
    · rw [if_pos e, e]
    · rw [if_neg e, if_neg e]]
  exact xup_id τ q
theorem s_move (x y : Int32) (ht : t < 512) (h : Inv t σ) : xStp E (Inv (t + 1)) i_B_move 8 i_M_move 4 [eN, eA, eI, eS, eU] xV1 [.int x, .int y] σ := by
  obtain ⟨L, hL, ho⟩ := OLL.ok (Rel.ol h)
  have hlen := hL.len
  have hB0 : XC E i_B_move 8 0 0 [.ref (xB E + 0), .int x, .int y] (xm σ) (xfn (cMove σ L.length x y)) := by
    refine c_B_move h.pok h.wok ho fun ρ h7 h12 h9 h9p hal => ?_
    obtain ⟨p, b, hp, ep, exp_, hb, e9, tb, -, -⟩ := h.alive (bf hal)
    rw [exp_] at h9 h9p
    obtain ⟨f, hg, hf⟩ := gap_list (σ := ρ) (L := L) (by rw [h12]; exact hL.2.1) (fun q hq => ((hL.2.2.1 q).mp hq).1)
    rw [hg]
    have hpL : p ∈ L := (hL.2.2.1 p).mpr ⟨hp, by rw [e9]; exact nI_m1 (by omega)⟩
    have : (L.filter fun q => !(ρ 9 q == -1)).length < L.length := by
      rcases Nat.lt_or_ge (L.filter fun q => !(ρ 9 q == -1)).length L.length with hh | hh
      · exact hh
      · exfalso
        have h1 := List.length_filter_le (fun q => !(ρ 9 q == -1)) L
        have h2 := List.length_filter_eq_length_iff.mp (Nat.le_antisymm h1 hh) p hpL
        simp [h9p] at h2
    show vp_in (nI _) 192
    exact vp_in_nI (by omega) (by decide)
  by_cases hA : bAl σ x = false
  · exact stp_thr hB0 (by rw [cMove, if_pos hA]) (c_M_move (Rel.rok h) (Rel.rvok h)) (by rw [rMove, if_pos (bz0 ((Rel.lv h x).trans hA))]) (by simp) (show (1 : Int32) = hf [eN, eA, eI, eS, eU] 1 eN by decide) (by decide) trivial (h.c 1)
  have hA' := bf hA
  by_cases hs : bStrong x = false
  · exact stp_thr hB0 (by rw [cMove, if_neg hA, if_pos (bz0 hs)]) (c_M_move (Rel.rok h) (Rel.rvok h)) (by rw [rMove, if_neg (bz1 ((Rel.lv h x).trans hA')), if_neg (bz1 (by rw [wk_eq, hs]; rfl))]) (by simp) (show (2 : Int32) = hf [eN, eA, eI, eS, eU] 1 eA by decide) (by decide) trivial (h.c 2)
  have hs' := bf hs
  have hwk : bz (rWk x) = 0 := bz0 (by rw [wk_eq, hs']; rfl)
  by_cases hB : tBk σ y = false
  · exact stp_thr hB0 (by rw [cMove, if_neg hA, if_neg (bz1 hs'), if_pos hB]) (c_M_move (Rel.rok h) (Rel.rvok h)) (by rw [rMove, if_neg (bz1 ((Rel.lv h x).trans hA')), if_pos hwk, if_pos (bz0 ((Rel.bk h y).trans hB))]) (by simp) (show (3 : Int32) = hf [eN, eA, eI, eS, eU] 1 eI by decide) (by decide) trivial (h.c 3)
  have hB' := bf hB
  obtain ⟨a, ha, rfl, ta⟩ := tBk_iff.mp hB'
  have xa : xn (nI a) = a := xn_nI (by omega)
  by_cases hl : ¬ σ 2 a = 0
  · exact stp_thr hB0 (by rw [cMove, if_neg hA, if_neg (bz1 hs'), if_neg hB, xa, if_pos hl]) (c_M_move (Rel.rok h) (Rel.rvok h)) (by rw [rMove, if_neg (bz1 ((Rel.lv h x).trans hA')), if_pos hwk, if_neg (bz1 ((Rel.bk h _).trans hB')), xa, (Rel.tm h).st ha ta, if_pos (bz0 (by simpa using hl))]) (by simp) (show (4 : Int32) = hf [eN, eA, eI, eS, eU] 1 eS by decide) (by decide) trivial (h.c 4)
  have hl' : σ 2 a = 0 := Classical.not_not.mp hl
  obtain ⟨p, b, hp, ep, exp_, hb, e9, tb, -, -⟩ := h.alive hA'
  have hTI : TI (σ 2) (σ 3) := Rel.ti h
  obtain ⟨f1, hf1⟩ : ∃ f1 : Nat → Int32, f1 = fun c => if A (Pn (σ 3)) b c then σ 6 c + -1 else σ 6 c := ⟨_, rfl⟩
  have hT1 : tAu σ (nI b) (-1) = xup σ 6 f1 := by rw [hf1]; exact tAu_eq hTI hb tb (-1)
  obtain ⟨V, hV⟩ : ∃ V, V = tRf (xup σ 6 f1) (nI a) 1 := ⟨_, rfl⟩
  have hrf : ∀ τ : xS, Rel t σ τ → rRf (xu (xu τ 14 0 0) 15 p (-1)) (nI a) 1 = V := fun τ hτ => by
    have hc := (Rel.rc (σ := σ) (τ := xu τ 14 0 0) hτ).vac hp hb e9 tb
    rw [← hf1] at hc
    rw [hc.rf ha ta 1, hV]
    exact tRf_cong rfl rfl rfl 1 7 (nI a)
  have hval : V = -1 ∨ ∃ c, c < 40 ∧ V = nI c := by
    rw [hV]
    exact rf_val (σ := xup σ 6 f1) hTI 1 7 (nI a) (Or.inr ⟨a, ha, rfl, ta⟩)
  have hrm : ∀ τ : xS, Rel t σ τ → rMove τ x (nI a) = if V < 0 then (nI b, rGive (xu (xu (xu τ 14 0 0) 15 p (-1)) 15 p (nI b)) (nI p) (nI a)) else (0, xu (xu (xu (xu (xu τ 14 0 0) 15 p (-1)) 15 p (nI b)) 14 13 V) 14 0 5) := fun τ hτ => by
    have e15 : τ 15 p = nI b := by rw [hτ.eq.1]; exact e9
    rw [rMove, if_neg (bz1 ((Rel.lv hτ x).trans hA')), if_pos hwk, if_neg (bz1 ((Rel.bk hτ _).trans hB')), xa, hτ.tm.st ha ta, if_neg (bz1 (by rw [hl']; rfl)), rPl_eq, exp_, hrf τ hτ, e15, ep]
  by_cases hV1 : V = -1
  · obtain ⟨f2, hf2⟩ : ∃ f2 : Nat → Int32, f2 = fun c => if A (Pn (σ 3)) a c then f1 c + 1 else f1 c := ⟨_, rfl⟩
    have hT2 : tAu (xup σ 6 f1) (nI a) 1 = xup σ 6 f2 := by
      rw [tAu_eq (σ := xup σ 6 f1) hTI ha ta 1, xup2, hf2]; rfl
    obtain ⟨g, hg, hgf⟩ := gap_list (σ := xu (xup σ 6 f2) 9 p (-1)) (L := L) hL.2.1 (fun q hq => ((hL.2.2.1 q).mp hq).1)
    obtain ⟨F, hF⟩ : ∃ F, F = L.filter fun q => !(xu σ 9 p (-1) 9 q == -1) := ⟨_, rfl⟩
    have hg' : sGap (xu (xup σ 6 f2) 9 p (-1)) L.length = xu (xup (xu (xup σ 6 f2) 9 p (-1)) 12 g) 7 6 (nI F.length) := by rw [hF]; exact hg
    have hgf' : ∀ j q, F[j]? = some q → g j = nI q := by rw [hF]; exact hgf
    obtain ⟨σ1, hσ1⟩ : ∃ σ1, σ1 = sGive (xu (xup (xu (xup σ 6 f2) 9 p (-1)) 12 g) 7 6 (nI F.length)) (nI p) (nI a) := ⟨_, rfl⟩
    have hτ : Rel t σ (xu σ1 25 0 (nI b)) := by rw [hσ1]; exact h
    refine stp_ok (v := nI b) (σ1 := σ1) (ρ := rGive (xu (xu (xu (xu σ1 25 0 (nI b)) 14 0 0) 15 p (-1)) 15 p (nI b)) (nI p) (nI a)) hB0 (by rw [cMove, if_neg hA, if_neg (bz1 hs'), if_neg hB, xa, if_neg hl, exp_, e9, hT1, ← hV, if_pos hV1, hT2, hg', ep, ← hσ1]) (c_M_move (Rel.rok hτ) (Rel.rvok hτ)) (by rw [hrm _ hτ, if_pos (by rw [hV1]; decide)]) rfl rfl trivial ?_
    have hc1 := (Rel.rc (σ := σ) (τ := σ) h).vac hp hb e9 tb
    rw [← hf1] at hc1
    have hc2 := hc1.give (p := p) (b := a) hp ha (show (if p = p then (-1 : Int32) else σ 9 p) = -1 from if_pos rfl) ta ((Rel.vi h p hp).2.2 (by rw [e9]; exact nI_m1 (by omega))) (Rel.ri h p hp (by rw [e9]; exact nI_m1 (by omega))) (by
      refine Eq.trans ?_ hV1
      rw [hV]
      exact tRf_cong rfl rfl rfl 1 7 (nI a))
    have hol : OLL F (xu σ 9 p (-1) 9) g (σ 18) (nI F.length) (σ 14 7) (192 * (t : Int)) := by
      rw [hF] at hgf' ⊢
      refine OLL.filter (s9' := xu σ 9 p (-1) 9) hL (fun q hq hh => ?_) hgf'
      have hh' : ¬ (if q = p then (-1 : Int32) else σ 9 q) = -1 := hh
      by_cases e : q = p
      · rw [if_pos e] at hh'; exact absurd rfl hh'
      · rw [if_neg e] at hh'; exact hh'
    have hol2 := hol.push hp (show (if p = p then (-1 : Int32) else σ 9 p) = -1 from if_pos rfl) (v := nI a) (nI_m1 (by omega)) (by omega)
    have xp : xn (nI p) = p := xn_nI (by omega)
    obtain ⟨⟨q1, q2, q3, q4, q5, q6, q7, q8⟩, r2, r3, r4, r5, r6, r7, r8, r9⟩ := hc2
    have hfin : Rel (t + 1) (xup (xu (xu (xu σ 9 p (-1)) 9 p (nI a)) 12 0 0) 6 f2) σ → True := fun _ => trivial
    have e9' : σ1 9 = fun j => if j = p then nI a else (if j = p then (-1 : Int32) else σ 9 j) := by rw [hσ1, sGive, xp]; rfl
    have e12' : σ1 12 = fun j => if j = xn (nI F.length) then nI p else g j := by rw [hσ1, sGive]; rfl
    have e6' : σ1 6 = f2 := by rw [hσ1]; rfl
    have e76' : σ1 7 6 = nI F.length + 1 := by rw [hσ1]; rfl
    have er : ∀ k, ¬ k = 6 → ¬ k = 7 → ¬ k = 9 → ¬ k = 12 → σ1 k = σ k := fun k k1 k2 k3 k4 => by
      rw [hσ1, sGive, xu_other k2, xu_other k4, xu_other k3, xu_other k2, xup_ne k4, xu_other k3, xup_ne k1]
    have e77 : σ1 7 7 = σ 7 7 := by rw [hσ1]; rfl
    obtain ⟨ρ, hρ⟩ : ∃ ρ, ρ = rGive (xu (xu (xu (xu σ1 25 0 (nI b)) 14 0 0) 15 p (-1)) 15 p (nI b)) (nI p) (nI a) := ⟨_, rfl⟩
    have p15 : ρ 15 = σ1 9 := by
      rw [e9', hρ, rGive, xp]
      funext j
      show (if j = p then nI a else (if j = p then nI b else (if j = p then (-1 : Int32) else σ1 15 j))) = _
      by_cases e : j = p
      · rw [if_pos e, if_pos e]
      · rw [if_neg e, if_neg e, if_neg e, if_neg e, if_neg e, er 15 (by decide) (by decide) (by decide) (by decide), (Rel.eq h).1]
    have p18 : ρ 18 = fun j => if j = p then σ 14 7 else σ 18 j := by
      rw [hρ, rGive, xp]
      show (fun j => if j = p then σ1 14 7 else σ1 18 j) = _
      rw [er 14 (by decide) (by decide) (by decide) (by decide), er 18 (by decide) (by decide) (by decide) (by decide)]
    have p147 : ρ 14 7 = σ 14 7 + 1 := by
      rw [hρ, rGive]
      show σ1 14 7 + 1 = _
      rw [er 14 (by decide) (by decide) (by decide) (by decide)]
    have pr : ∀ k, ¬ k = 14 → ¬ k = 15 → ¬ k = 18 → ¬ k = 25 → ρ k = σ1 k := fun k k1 k2 k3 k4 => by
      rw [hρ, rGive, xu_other k1, xu_other k3, xu_other k2, xu_other k2, xu_other k2, xu_other k1, xu_other k4]
    have p1413 : ρ 14 13 = σ1 14 13 := by rw [hρ]; rfl
    have p146 : ρ 14 6 = σ1 14 6 := by rw [hρ]; rfl
    rw [← hρ]
    have pk : ∀ k, ¬ k = 6 → ¬ k = 7 → ¬ k = 9 → ¬ k = 12 → ¬ k = 14 → ¬ k = 15 → ¬ k = 18 → ¬ k = 25 → ρ k = σ k := fun k a1 a2 a3 a4 a5 a6 a7 a8 => (pr k a5 a6 a7 a8).trans (er k a1 a2 a3 a4)
    have c2 := pk 2 (by decide) (by decide) (by decide) (by decide) (by decide) (by decide) (by decide) (by decide)
    have c3 := pk 3 (by decide) (by decide) (by decide) (by decide) (by decide) (by decide) (by decide) (by decide)
    have c4 := pk 4 (by decide) (by decide) (by decide) (by decide) (by decide) (by decide) (by decide) (by decide)
    have c5 := pk 5 (by decide) (by decide) (by decide) (by decide) (by decide) (by decide) (by decide) (by decide)
    have c8 := pk 8 (by decide) (by decide) (by decide) (by decide) (by decide) (by decide) (by decide) (by decide)
    have c10 := pk 10 (by decide) (by decide) (by decide) (by decide) (by decide) (by decide) (by decide) (by decide)
    have c17 := pk 17 (by decide) (by decide) (by decide) (by decide) (by decide) (by decide) (by decide) (by decide)
    have c20 := pk 20 (by decide) (by decide) (by decide) (by decide) (by decide) (by decide) (by decide) (by decide)
    have c23 := pk 23 (by decide) (by decide) (by decide) (by decide) (by decide) (by decide) (by decide) (by decide)
    have c6 : ρ 6 = f2 := (pr 6 (by decide) (by decide) (by decide) (by decide)).trans e6'
    have c9 : ρ 9 = _ := (pr 9 (by decide) (by decide) (by decide) (by decide)).trans e9'
    have c12 : ρ 12 = _ := (pr 12 (by decide) (by decide) (by decide) (by decide)).trans e12'
    have c7 : ρ 7 = σ1 7 := pr 7 (by decide) (by decide) (by decide) (by decide)
    have c76 : ρ 7 6 = nI F.length + 1 := by rw [c7]; exact e76'
    have hEQ : EQ ρ ρ := by
      refine ⟨by rw [p15, c9, e9'], ?_, ?_, ?_, ?_, ?_, ?_, ?_⟩
      · rw [c8, pk 16 (by decide) (by decide) (by decide) (by decide) (by decide) (by decide) (by decide) (by decide)]; exact (Rel.eq h).2.1
      · rw [pk 11 (by decide) (by decide) (by decide) (by decide) (by decide) (by decide) (by decide) (by decide), pk 19 (by decide) (by decide) (by decide) (by decide) (by decide) (by decide) (by decide) (by decide)]; exact (Rel.eq h).2.2.1
      · rw [c3, pk 21 (by decide) (by decide) (by decide) (by decide) (by decide) (by decide) (by decide) (by decide)]; exact (Rel.eq h).2.2.2.1
      · rw [c4, pk 22 (by decide) (by decide) (by decide) (by decide) (by decide) (by decide) (by decide) (by decide)]; exact (Rel.eq h).2.2.2.2.1
      · rw [c5, pk 24 (by decide) (by decide) (by decide) (by decide) (by decide) (by decide) (by decide) (by decide)]; exact (Rel.eq h).2.2.2.2.2.1
      · rw [p1413, er 14 (by decide) (by decide) (by decide) (by decide), pk 0 (by decide) (by decide) (by decide) (by decide) (by decide) (by decide) (by decide) (by decide)]; exact (Rel.eq h).2.2.2.2.2.2.1
      · rw [p146, er 14 (by decide) (by decide) (by decide) (by decide), c7, e77]; exact (Rel.eq h).2.2.2.2.2.2.2
    have hRC : RC ρ ρ := by
      refine ⟨hEQ, ?_, ?_, ?_, ?_, ?_, ?_, ?_, ?_⟩
      · rw [c2, c20, c23]; exact r2
      · rw [c2, c3]; exact r3
      · rw [c2]; exact r4
      · rw [c2, c4, c5, c6, hf2]; exact r5
      · rw [c2, c3, c5, c6, c9, hf2]; exact r6
      · rw [c2, c9]; exact r7
      · rw [c8, c9]; exact r8
      · rw [c9, c10, c17]; exact r9
    refine RC.rel hRC (by rw [c2, c3, c5]; exact Rel.di h) ⟨F ++ [p], ?_⟩
    rw [c9, c12, p18, c76, p147]
    obtain ⟨o1, o2, o3, o4, o5, o6, o7⟩ := hol2
    exact ⟨o1, o2, o3, o4, o5, o6, by omega⟩
  · obtain ⟨c, hc, ec⟩ := hval.resolve_left hV1
    have hT2 : tAu (xup σ 6 f1) (nI b) 1 = σ := by
      rw [tAu_eq (σ := xup σ 6 f1) hTI hb tb 1, xup2, hf1]
      refine Eq.trans (congrArg (xup σ 6) (funext fun d => ?_)) (xup_id σ 6)
      show (if A (Pn (σ 3)) b d then (if A (Pn (σ 3)) b d then σ 6 d + -1 else σ 6 d) + 1 else (if A (Pn (σ 3)) b d then σ 6 d + -1 else σ 6 d)) = σ 6 d
      by_cases e : A (Pn (σ 3)) b d = true
      · rw [if_pos e, if_pos e, Int32.add_assoc, show (-1 : Int32) + 1 = 0 by decide, Int32.add_zero]
      · rw [if_neg e, if_neg e]
    have hτ : Rel t σ (xu σ 0 2 V) := h
    refine stp_thr (v := 0) (σ1 := xu σ 0 2 V) (ρ := xu (xu (xu (xu σ 0 2 V) 14 0 0) 14 13 V) 14 0 5) hB0 (by rw [cMove, if_neg hA, if_neg (bz1 hs'), if_neg hB, xa, if_neg hl, exp_, e9, hT1, ← hV, if_neg hV1, hT2]) (c_M_move (Rel.rok hτ) (Rel.rvok hτ)) ?_ (by simp) (show (5 : Int32) = hf [eN, eA, eI, eS, eU] 1 eU by decide) (by decide) trivial (h.refuse 5 0 V)
    rw [hrm _ hτ, if_neg (by rw [ec]; exact nI_pos (by omega))]
    have e15 : xu (xu σ 0 2 V) 14 0 0 15 p = nI b := by
      have : xu (xu σ 0 2 V) 14 0 0 15 = σ 9 := (Rel.eq h).1
      rw [this]; exact e9
    rw [← e15, xu_undo]
end Ops5
