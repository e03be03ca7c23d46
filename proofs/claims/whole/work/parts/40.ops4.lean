/-! told, count, page -/
theorem xcn3 {a b c : Nat → Bool} : ∀ {n : Nat}, (∀ i, i < n → (if a i then 1 else 0) + (if b i then 1 else 0) + (if c i then 1 else 0) = 1) → xcn a n + xcn b n + xcn c n = n
  | 0, _ => rfl
  | n + 1, h => by
    have h1 := xcn3 (n := n) fun i hi => h i (by omega)
    have h2 := h n (by omega)
    simp only [xcn]
    omega
section Ops4
variable {E : xE} {t : Nat} {σ τ : xS}
theorem rOwn_eq (h : Rel t σ τ) (b : Int32) : rOwn τ b = sOwn σ b := by rw [rOwn, sOwn, h.eq.1]
theorem s_told (x y : Int32) (h : Inv t σ) : xStp E (Inv (t + 1)) i_B_told 8 i_M_told 4 [eI, eA] xV1 [.int x, .int y] σ := by
  by_cases hB : tBk σ x = false
  · exact stp_thr (c_B_told h.pok) (by rw [cTold, if_pos hB]) (c_M_told (Rel.rok h)) (by rw [rTold, if_pos (bz0 ((Rel.bk h x).trans hB))]) (by simp) (show (1 : Int32) = hf [eI, eA] 1 eI by decide) (by decide) trivial (h.c 1)
  have hB' := bf hB
  have hin : rIn y 0 7 = true ↔ ¬ (y.toInt < 0 ∨ 7 < y.toInt) := by
    rw [rIn_iff]
    have e0 : (0 : Int32).toInt = 0 := by decide
    have e7 : (7 : Int32).toInt = 7 := by decide
    rw [e0, e7]; omega
  by_cases hy : y.toInt < 0 ∨ 7 < y.toInt
  · exact stp_thr (c_B_told h.pok) (by rw [cTold, if_neg hB, if_pos hy]) (c_M_told (Rel.rok h)) (by rw [rTold, if_neg (bz1 ((Rel.bk h x).trans hB')), if_pos (bz0 (by cases hh : rIn y 0 7; rfl; exact absurd hy (hin.mp hh)))]) (by simp) (show (2 : Int32) = hf [eI, eA] 1 eA by decide) (by decide) trivial (h.c 2)
  obtain ⟨b, hb, rfl, tb⟩ := tBk_iff.mp hB'
  have xb : xn (nI b) = b := xn_nI (by omega)
  have hV : ∀ τ : xS, Rel t σ τ → rToldV τ (nI b) y = (if y.toInt = 0 then σ 6 b else if y.toInt = 1 then nI (sOwn σ (nI b)) else if y.toInt = 2 then σ 5 b else if y.toInt = 3 then σ 4 b else if y.toInt = 4 then σ 3 b else if y.toInt = 5 then nI (tDep σ (nI b)) else if y.toInt = 6 then σ 2 b else nI (tSz σ (nI b))) := fun τ hτ => by
    rw [rToldV, hτ.use hb tb, rOwn_eq hτ, xb, hτ.eq.2.2.2.2.2.1, hτ.eq.2.2.2.2.1, hτ.eq.2.2.2.1, rDep_eq hτ hb tb, hτ.tm.st hb tb, sz_eq hτ hb]
  obtain ⟨V, hVV⟩ : ∃ V : Int32, V = (if y.toInt = 0 then σ 6 b else if y.toInt = 1 then nI (sOwn σ (nI b)) else if y.toInt = 2 then σ 5 b else if y.toInt = 3 then σ 4 b else if y.toInt = 4 then σ 3 b else if y.toInt = 5 then nI (tDep σ (nI b)) else if y.toInt = 6 then σ 2 b else nI (tSz σ (nI b))) := ⟨_, rfl⟩
  refine stp_ok (v := V) (σ1 := σ) (ρ := xu (xu σ 25 0 V) 14 0 0) (c_B_told h.pok) (by rw [cTold, if_neg hB, if_neg hy, xb, ← hVV]) (c_M_told (Rel.rok (h.v _))) ?_ rfl rfl trivial (h.vc _ 0)
  rw [rTold, if_neg (bz1 ((Rel.bk (h.v V) _).trans hB')), if_neg (bz1 (hin.mpr hy)), hV (xu (xu σ 25 0 V) 14 0 0) h, ← hVV]
theorem s_count (x : Int32) (h : Inv t σ) : xSt0 E (Inv (t + 1)) i_B_count 4 i_M_count 3 [.int x] σ := by
  refine ⟨cCount σ x, σ, xu σ 14 0 0, c_B_count h.pok, ?_, h.c 0⟩
  have hr : rCount (xu σ 14 0 0) x = cCount σ x := by
    have h' : Rel t σ (xu σ 14 0 0) := h
    obtain ⟨L, hL⟩ := Rel.ol h
    have hlen := hL.len
    have efr : ∀ p, p < 192 → rFr (xu σ 14 0 0) p = sFr σ p := fun p hp => by
      rw [rFr, sFr, h'.eq.1, h'.eq.2.1]
      rcases Rel.oi h p hp with e | ⟨b, hb, e, tb⟩
      · rw [e]; rfl
      · rw [e]
        have h1 := nI_pos' (show b < 2 ^ 31 by omega)
        have h2 := nI_m1 (show b < 2 ^ 31 by omega)
        simp [h1, h2]
    have etk : ∀ p, p < 192 → (!decide (σ 9 p < 0)) = decide (p ∈ L) := fun p hp => by
      rcases Rel.oi h p hp with e | ⟨b, hb, e, tb⟩
      · have : ¬ p ∈ L := fun hh => ((hL.2.2.1 p).mp hh).2 e
        simp [e, this]
      · have : p ∈ L := (hL.2.2.1 p).mpr ⟨hp, by rw [e]; exact nI_m1 (by omega)⟩
        have h1 := nI_pos (show b < 2 ^ 31 by omega)
        simp [e, this, h1]
    have c2 : xcn (fun p => !decide (σ 9 p < 0)) 192 = L.length := by
      rw [xcn_congr etk, hL.cnt _ (fun p hp hh => ((hL.2.2.1 p).mp (by simpa using hh)).2)]
      exact List.countP_eq_length.mpr fun p hp => by simpa using hp
    have e6 := hL.1
    have y0 : x = 0 ↔ x.toInt = 0 := by rw [ti_eq]; rw [show (0 : Int32).toInt = 0 by decide]
    have y1 : x = 1 ↔ x.toInt = 1 := by rw [ti_eq]; rw [show (1 : Int32).toInt = 1 by decide]
    have y3 : x = 3 ↔ x.toInt = 3 := by rw [ti_eq]; rw [show (3 : Int32).toInt = 3 by decide]
    have hin : rIn x 0 2 = true ↔ 0 ≤ x.toInt ∧ x.toInt ≤ 2 := by
      rw [rIn_iff, show (0 : Int32).toInt = 0 by decide, show (2 : Int32).toInt = 2 by decide]
    rw [rCount, cCount]
    by_cases h3 : x.toInt = 3
    · rw [if_pos (y3.mpr h3), if_neg (by omega), if_neg (by omega), if_neg (by omega), if_pos h3]
      have := sz_eq h' (u := 0) (by decide)
      rw [show nI 0 = 0 from rfl] at this
      rw [this]
    · rw [if_neg (fun e => h3 (y3.mp e)), if_neg h3]
      by_cases hi : rIn x 0 2 = true
      · have hi' := hin.mp hi
        rw [if_neg (bz1 hi)]
        by_cases h0 : x.toInt = 0
        · rw [if_pos h0]
          refine congrArg nI (xcn_congr fun p hp => ?_)
          rw [rCnP, if_pos (y0.mpr h0)]; exact efr p hp
        · rw [if_neg h0]
          by_cases h1 : x.toInt = 1
          · rw [if_pos h1, e6]
            have e3 := xcn3 (a := fun p => !decide (σ 9 p < 0)) (b := sFr σ) (c := rCnP (xu σ 14 0 0) x) (n := 192) (fun p hp => by
              rw [rCnP, if_neg (fun e => h0 (y0.mp e)), if_pos (y1.mpr h1), sFr, h'.eq.1, h'.eq.2.1]
              have hv := Rel.vi h p hp
              rcases Rel.oi h p hp with e | ⟨b, hb, e, tb⟩
              · have a1 : ((-1 : Int32) < 0) := by decide
                have a2 : ¬ ((0 : Int32) ≤ -1) := by decide
                have a7 : (7 : Int32).toInt = 7 := by decide
                by_cases e7 : σ 8 p = 7
                · have : (7 : Int32) ≤ σ 8 p := by rw [e7]; decide
                  simp [e, a1, a2, e7]
                · have : ¬ (7 : Int32) ≤ σ 8 p := fun hh => e7 (by
                    rw [Int32.le_iff_toInt_le, a7] at hh
                    rw [ti_eq, a7]; omega)
                  simp [e, a1, a2, e7, this]
              · have h1 := nI_pos (show b < 2 ^ 31 by omega)
                have h2 := nI_pos' (show b < 2 ^ 31 by omega)
                have h3 := nI_m1 (show b < 2 ^ 31 by omega)
                simp [e, h1, h2, h3])
            rw [c2] at e3
            have hf := xcn_le (sFr σ) 192
            rw [ti_eq, nI_toInt (by omega)]
            have e1 : (192 - nI L.length : Int32).toInt = 192 - (L.length : Int) := by
              have : (192 : Int32).toInt = 192 := by decide
              rw [tiS (by rw [this, nI_toInt (by omega)]; omega) (by rw [this, nI_toInt (by omega)]; omega), this, nI_toInt (by omega)]
            rw [tiS (by rw [e1, nI_toInt (by omega)]; omega) (by rw [e1, nI_toInt (by omega)]; omega), e1, nI_toInt (by omega)]
            omega
          · rw [if_neg h1, if_pos (by omega), e6]
            refine congrArg nI (Eq.trans (xcn_congr fun p hp => ?_) c2)
            rw [rCnP, if_neg (fun e => h0 (y0.mp e)), if_neg (fun e => h1 (y1.mp e)), h'.eq.1]
      · have hi' : ¬ (0 ≤ x.toInt ∧ x.toInt ≤ 2) := fun hh => hi (hin.mpr hh)
        rw [if_pos (bz0 (by simpa using hi)), if_neg (by omega), if_neg (by omega), if_neg (by omega)]
  rw [← hr]
  exact c_M_count (Rel.rok h)
theorem OLL.ok (hσ : ∃ L, OLL L (σ 9) (σ 12) (τ 18) (σ 7 6) (τ 14 7) (192 * (t : Int))) : ∃ L, OLL L (σ 9) (σ 12) (τ 18) (σ 7 6) (τ 14 7) (192 * (t : Int)) ∧ oOK σ L.length := by
  obtain ⟨L, hL⟩ := hσ
  refine ⟨L, hL, hL.1, hL.len, fun i hi => ?_⟩
  have h1 : L[i]? = some L[i] := List.getElem?_eq_getElem hi
  rw [hL.2.1 i _ h1]
  exact vp_in_nI ((hL.2.2.1 _).mp (List.getElem_mem hi)).1 (by decide)
theorem s_page (x y : Int32) (h : Inv t σ) : xStp E (Inv (t + 1)) i_B_page 8 i_M_page 3 [eI] xV1 [.int x, .int y] σ := by
  obtain ⟨L, hL, ho⟩ := OLL.ok (Rel.ol h)
  have hlen := hL.len
  by_cases hB : tBk σ x = false
  · exact stp_thr (c_B_page ho) (by rw [cPage, if_pos hB]) (c_M_page (fun hh => absurd (bz0 ((Rel.bk h x).trans hB)) hh)) (by rw [rPage, if_pos (bz0 ((Rel.bk h x).trans hB))]) (by simp) (show (1 : Int32) = hf [eI] 1 eI by decide) (by decide) trivial (h.c 1)
  have hB' := bf hB
  obtain ⟨b, hb, rfl, tb⟩ := tBk_iff.mp hB'
  have xb : xn (nI b) = b := xn_nI (by omega)
  have hm : ¬ nI b = -1 := nI_m1 (by omega)
  obtain ⟨F, hF⟩ : ∃ F, F = L.filter fun p => σ 9 p == nI b := ⟨_, rfl⟩
  have hown : sOwn σ (nI b) = F.length := by
    rw [sOwn, hL.cnt _ (fun p hp hh => by rw [show σ 9 p = nI b by simpa using hh]; exact hm), hF, List.countP_eq_length_filter]
  have hFl : F.length ≤ 192 := by
    have := List.length_filter_le (fun p => σ 9 p == nI b) L
    rw [← hF] at this; omega
  have hpl : sPl σ L.length (nI b) y = plL (fun p => σ 9 p == nI b) y L 0 := sPl_list L 0 0 (fun j p hp => by rw [Nat.zero_add]; exact hL.2.1 j p hp) (fun p hp => ((hL.2.2.1 p).mp hp).1)
  have hin : rIn y 0 (nI F.length - 1) = true ↔ ∃ j, j < F.length ∧ y = nI j := by
    have e1 : (nI F.length - 1 : Int32).toInt = (F.length : Int) - 1 := by
      have : (1 : Int32).toInt = 1 := by decide
      rw [tiS (by rw [this, nI_toInt (by omega)]; omega) (by rw [this, nI_toInt (by omega)]; omega), this, nI_toInt (by omega)]
    rw [rIn_iff, e1, show (0 : Int32).toInt = 0 by decide]
    constructor
    · rintro ⟨h1, h2⟩
      obtain ⟨j, hj, rfl⟩ := nI_of (x := y) (by rw [Int32.lt_iff_toInt_lt, show (0 : Int32).toInt = 0 by decide]; omega)
      rw [nI_toInt hj] at h2
      exact ⟨j, by omega, rfl⟩
    · rintro ⟨j, hj, rfl⟩
      rw [nI_toInt (by omega)]; omega
  by_cases hi : rIn y 0 (nI F.length - 1) = true
  · obtain ⟨j, hj, rfl⟩ := hin.mp hi
    have hFj : F[j]? = some F[j] := List.getElem?_eq_getElem hj
    obtain ⟨p, hp⟩ : ∃ p, F[j]? = some p := ⟨_, hFj⟩
    have hp1 : sPl σ L.length (nI b) (nI j) = nI p := by
      have := plL_hit (Q := fun p => σ 9 p == nI b) L 0 j p (by omega) (by rw [← hF]; exact hp)
      rw [hpl]; rwa [Nat.zero_add] at this
    have hpm : p ∈ L := (List.mem_filter.mp (by rw [← hF]; exact List.mem_of_getElem? hp)).1
    have hp192 := ((hL.2.2.1 p).mp hpm).1
    have hrp : ∀ v, rPg (xu (xu σ 25 0 v) 14 0 0) (nI b) (nI j) = nI p := fun v => by
      have e15 : xu (xu σ 25 0 v) 14 0 0 15 = σ 9 := (Rel.eq h).1
      refine OLL.pg (L := L) (s12 := σ 12) (n6 := σ 7 6) (n7 := σ 14 7) (B := 192 * (t : Int)) (by rw [e15]; exact hL) hb ?_
      rw [e15, ← hF]; exact hp
    have hnm : ¬ sPl σ L.length (nI b) (nI j) = -1 := by rw [hp1]; exact nI_m1 (by omega)
    have eo : ∀ v, rOwn (xu σ 25 0 v) (nI b) = F.length := fun v => (rOwn_eq (h.v v) (nI b)).trans hown
    by_cases hd : σ 2 b = 2
    · refine stp_ok (v := 0) (σ1 := σ) (ρ := xu (xu σ 25 0 0) 14 0 0) (c_B_page ho) (by rw [cPage, if_neg hB, if_neg hnm, if_neg (bz1 (by rw [tDy, xb, hd]; rfl))]) (c_M_page (fun _ _ _ => by rw [hrp]; exact vp_in_nI hp192 (by decide))) ?_ rfl rfl trivial (h.vc _ 0)
      rw [rPage, if_neg (bz1 ((Rel.bk (h.v 0) _).trans hB')), eo, if_neg (bz1 hi), xb, if_pos (show xu (xu σ 25 0 0) 14 0 0 23 b = 2 from ((Rel.tm h).st hb tb).trans hd)]
    · refine stp_ok (v := 1024 * σ 8 p + 2 * nI p) (σ1 := σ) (ρ := xu (xu σ 25 0 (1024 * σ 8 p + 2 * nI p)) 14 0 0) (c_B_page ho) (by rw [cPage, if_neg hB, if_neg hnm, if_pos (bz0 (by rw [tDy, xb]; simpa using hd)), hp1, xn_nI (show p < 2 ^ 31 by omega)]) (c_M_page (fun _ _ _ => by rw [hrp]; exact vp_in_nI hp192 (by decide))) ?_ rfl rfl trivial (h.vc _ 0)
      rw [rPage, if_neg (bz1 ((Rel.bk (h.v _) _).trans hB')), eo, if_neg (bz1 hi), xb, if_neg (show ¬ xu (xu σ 25 0 (1024 * σ 8 p + 2 * nI p)) 14 0 0 23 b = 2 from fun hh => hd (((Rel.tm h).st hb tb).symm.trans hh)), hrp, xn_nI (show p < 2 ^ 31 by omega), (h.v _).eq.2.1]
  · have hmiss : sPl σ L.length (nI b) y = -1 := by
      rw [hpl]
      refine plL_miss L 0 fun j hj e => hi (hin.mpr ⟨j, by rw [hF]; exact hj, by rw [← e, Nat.zero_add]⟩)
    have eo : rOwn σ (nI b) = F.length := (rOwn_eq (τ := σ) h (nI b)).trans hown
    exact stp_thr (c_B_page ho) (by rw [cPage, if_neg hB, if_pos hmiss]) (c_M_page (fun _ hh => absurd (bz0 (by rw [eo]; simpa using hi)) hh)) (by rw [rPage, if_neg (bz1 ((Rel.bk h _).trans hB')), eo, if_pos (bz0 (by simpa using hi))]) (by simp) (show (1 : Int32) = hf [eI] 1 eI by decide) (by decide) trivial (h.c 1)
end Ops4
