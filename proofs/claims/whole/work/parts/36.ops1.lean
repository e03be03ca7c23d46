/-! the calls that change no structure -/
section Rels
variable {t : Nat} {σ τ : xS}
theorem Rel.eq (h : Rel t σ τ) : EQ σ τ := h.1
theorem Rel.tm (h : Rel t σ τ) : TMr (σ 2) (τ 20) (τ 23) := h.2.1
theorem Rel.ti (h : Rel t σ τ) : TI (σ 2) (σ 3) := h.2.2.1
theorem Rel.si (h : Rel t σ τ) : SI (σ 2) := h.2.2.2.1
theorem Rel.li (h : Rel t σ τ) : LI (σ 2) (σ 4) (σ 5) (σ 6) := h.2.2.2.2.1
theorem Rel.ui (h : Rel t σ τ) : UI (σ 2) (σ 3) (σ 5) (σ 6) (σ 9) := h.2.2.2.2.2.1
theorem Rel.di (h : Rel t σ τ) : DI (σ 2) (σ 3) (σ 5) := h.2.2.2.2.2.2.1
theorem Rel.oi (h : Rel t σ τ) : OI (σ 2) (σ 9) := h.2.2.2.2.2.2.2.1
theorem Rel.vi (h : Rel t σ τ) : VI (σ 8) (σ 9) := h.2.2.2.2.2.2.2.2.1
theorem Rel.ri (h : Rel t σ τ) : RI (σ 9) (σ 10) (τ 17) := h.2.2.2.2.2.2.2.2.2.1
theorem Rel.ol (h : Rel t σ τ) : OL (σ 9) (σ 12) (τ 18) (σ 7 6) (τ 14 7) t := h.2.2.2.2.2.2.2.2.2.2
theorem Rel.lv (h : Rel t σ τ) (k : Int32) : rLv τ k = bAl σ k := rLv_eq h.eq h.tm h.oi h.vi k
theorem Rel.bk (h : Rel t σ τ) (x : Int32) : rBk τ x = tBk σ x := rBk_eq h.tm x
theorem Rel.use (h : Rel t σ τ) {b : Nat} (hb : b < 40) (tb : thr (σ 2) b = true) : rUse τ (nI b) = σ 6 b :=
  rUse_eq h.ti h.tm h.eq.2.2.2.1 (s4 := σ 4) (by rw [h.eq.2.2.2.2.2.1]; exact h.li) (by rw [h.eq.2.2.2.2.2.1, h.eq.1]; exact h.ui) hb tb
theorem Rel.rok (h : Rel t σ τ) : rOK τ := rOK_of h.ti h.tm h.eq.2.2.2.1
theorem Rel.rvok (h : Rel t σ τ) : rvOK τ := rvOK_of h.oi h.eq.1
theorem Inv.wok (h : Inv t σ) : wOK σ := wOK_of h.oi
theorem Inv.pok (h : Inv t σ) : pOK σ := pOK_of h.ti
theorem Inv.c (h : Inv t σ) (c : Int32) : Inv (t + 1) (xu σ 14 0 c) := Rel.up h
theorem Inv.vc (h : Inv t σ) (v c : Int32) : Inv (t + 1) (xu (xu σ 25 0 v) 14 0 c) := Rel.up h
theorem Inv.v (h : Inv t σ) (v : Int32) : Rel t σ (xu σ 25 0 v) := h
end Rels
theorem bz0 {b : Bool} (h : b = false) : bz b = 0 := by rw [h]; rfl
theorem bz1 {b : Bool} (h : b = true) : ¬ bz b = 0 := by rw [h]; decide
theorem bf {b : Bool} (h : ¬ b = false) : b = true := by cases b; exact absurd rfl h; rfl
theorem bUp_eq (y : Int32) : rIn y 0 192 = bUp y := rfl
theorem bWord_eq (y : Int32) : rIn y 0 3 = bWord y := by
  have h1 : rIn y 0 3 = true ↔ bWord y = true := by
    rw [rIn_iff]
    simp only [bWord, Bool.and_eq_true, Bool.not_eq_true', decide_eq_false_iff_not, Int32.lt_iff_toInt_lt, Int32.le_iff_toInt_le]
    have e0 : (0 : Int32).toInt = 0 := by decide
    have e3 : (3 : Int32).toInt = 3 := by decide
    have e4 : (4 : Int32).toInt = 4 := by decide
    rw [e0, e3, e4]; omega
  cases h2 : rIn y 0 3 <;> cases h3 : bWord y <;> simp_all
section Ops1
variable {E : xE} {t : Nat} {σ : xS}
theorem s_weak (x : Int32) (h : Inv t σ) : xStp E (Inv (t + 1)) i_B_weak 7 i_M_weak 3 [eN] xV1 [.int x] σ := by
  by_cases hA : bAl σ x = false
  · exact stp_thr (c_B_weak h.wok) (by rw [cWeak, if_pos hA]) (c_M_weak (Rel.rvok h)) (by rw [rWeak, if_pos (bz0 ((Rel.lv h x).trans hA))]) (by simp) (show (1 : Int32) = hf [eN] 1 eN by decide) (by decide) trivial (h.c 1)
  · have hA' := bf hA
    exact stp_ok (v := x ||| 1) (σ1 := σ) (ρ := xu (xu σ 25 0 (x ||| 1)) 14 0 0) (c_B_weak h.wok) (by rw [cWeak, if_neg hA]) (c_M_weak (Rel.rvok (h.v _))) (by rw [rWeak, if_neg (bz1 ((Rel.lv (h.v _) x).trans hA'))]) rfl rfl trivial (h.vc _ 0)
theorem s_owner (x : Int32) (h : Inv t σ) : xStp E (Inv (t + 1)) i_B_owner 7 i_M_owner 3 [eN] xV1 [.int x] σ := by
  by_cases hA : bAl σ x = false
  · exact stp_thr (c_B_owner h.wok) (by rw [cOwner, if_pos hA]) (c_M_owner (Rel.rvok h)) (by rw [rOwner, if_pos (bz0 ((Rel.lv h x).trans hA))]) (by simp) (show (1 : Int32) = hf [eN] 1 eN by decide) (by decide) trivial (h.c 1)
  · have hA' := bf hA
    exact stp_ok (v := σ 9 (xn (bPl x))) (σ1 := σ) (ρ := xu (xu σ 25 0 (σ 9 (xn (bPl x)))) 14 0 0) (c_B_owner h.wok) (by rw [cOwner, if_neg hA]) (c_M_owner (Rel.rvok (h.v _))) (by rw [rOwner, if_neg (bz1 ((Rel.lv (h.v _) x).trans hA')), (h.v _).eq.1, rPl_eq]) rfl rfl trivial (h.vc _ 0)
theorem s_isAlive (x : Int32) (h : Inv t σ) : xSt0 E (Inv (t + 1)) i_B_isAlive 3 i_M_isAlive 3 [.int x] σ :=
  ⟨_, _, _, c_B_isAlive h.wok, by rw [← Rel.lv h x]; exact c_M_isAlive (Rel.rvok h), h.c 0⟩
theorem s_refused (h : Inv t σ) : xSt0 E (Inv (t + 1)) i_B_refused 1 i_M_refused 1 [] σ :=
  ⟨_, _, _, c_B_refused, by rw [← (Rel.eq h).2.2.2.2.2.2.1]; exact c_M_refused, h.c 0⟩
/-- the place and the owner of a key that is alive -/
theorem Inv.alive (h : Inv t σ) {x : Int32} (hA : bAl σ x = true) : ∃ p b, p < 192 ∧ bPl x = nI p ∧ xn (bPl x) = p ∧ b < 40 ∧ σ 9 p = nI b ∧ thr (σ 2) b = true ∧ σ 8 p = bVe x ∧ ¬ σ 2 b = 2 := by
  obtain ⟨p, b, h1, h2, h3⟩ := (bAl_iff (Rel.oi h)).mp hA
  exact ⟨p, b, h1, h2, by rw [h2, xn_nI (by omega)], h3⟩
theorem bWord_nI {y : Int32} (h : bWord y = true) : ∃ w, w < 4 ∧ y = nI w := by
  simp only [bWord, Bool.and_eq_true, Bool.not_eq_true', decide_eq_false_iff_not] at h
  obtain ⟨j, hj, rfl⟩ := nI_of h.1
  refine ⟨j, ?_, rfl⟩
  rcases Nat.lt_or_ge j 4 with h' | h'
  · exact h'
  · exact absurd (nI_le (a := 4) h' hj) h.2
theorem s_read (x y : Int32) (h : Inv t σ) : xStp E (Inv (t + 1)) i_B_read 7 i_M_read 3 [eN, eI] xV1 [.int x, .int y] σ := by
  by_cases hA : bAl σ x = false
  · exact stp_thr (c_B_read h.wok) (by rw [cRead, if_pos hA]) (c_M_read (Rel.rvok h)) (by rw [rRead, if_pos (bz0 ((Rel.lv h x).trans hA))]) (by simp) (show (1 : Int32) = hf [eN, eI] 1 eN by decide) (by decide) trivial (h.c 1)
  have hA' := bf hA
  by_cases hw : bWord y = false
  · exact stp_thr (c_B_read h.wok) (by rw [cRead, if_neg hA, if_pos (bz0 hw)]) (c_M_read (Rel.rvok h)) (by rw [rRead, if_neg (bz1 ((Rel.lv h x).trans hA')), if_pos (bz0 ((bWord_eq y).trans hw))]) (by simp) (show (2 : Int32) = hf [eN, eI] 1 eI by decide) (by decide) trivial (h.c 2)
  have hw' := bf hw
  exact stp_ok (v := σ 11 (xn (bPl x * 4 + y))) (σ1 := σ) (ρ := xu (xu σ 25 0 (σ 11 (xn (bPl x * 4 + y)))) 14 0 0) (c_B_read h.wok) (by rw [cRead, if_neg hA, if_neg (bz1 hw')]) (c_M_read (Rel.rvok (h.v _))) (by rw [rRead, if_neg (bz1 ((Rel.lv (h.v _) x).trans hA')), if_neg (bz1 ((bWord_eq y).trans hw')), (h.v _).eq.2.2.1, rPl_eq, Int32.mul_comm 4]) rfl rfl trivial (h.vc _ 0)
theorem s_write (x y z : Int32) (h : Inv t σ) : xStp E (Inv (t + 1)) i_B_write 7 i_M_write 3 [eN, eA, eI] xV1 [.int x, .int y, .int z] σ := by
  by_cases hA : bAl σ x = false
  · exact stp_thr (c_B_write h.wok) (by rw [cWrite, if_pos hA]) (c_M_write (Rel.rvok h)) (by rw [rWrite, if_pos (bz0 ((Rel.lv h x).trans hA))]) (by simp) (show (1 : Int32) = hf [eN, eA, eI] 1 eN by decide) (by decide) trivial (h.c 1)
  have hA' := bf hA
  by_cases hs : bStrong x = false
  · exact stp_thr (c_B_write h.wok) (by rw [cWrite, if_neg hA, if_pos (bz0 hs)]) (c_M_write (Rel.rvok h)) (by rw [rWrite, if_neg (bz1 ((Rel.lv h x).trans hA')), if_neg (bz1 (by rw [wk_eq, hs]; rfl))]) (by simp) (show (2 : Int32) = hf [eN, eA, eI] 1 eA by decide) (by decide) trivial (h.c 2)
  have hs' := bf hs
  by_cases hw : bWord y = false
  · exact stp_thr (c_B_write h.wok) (by rw [cWrite, if_neg hA, if_neg (bz1 hs'), if_pos (bz0 hw)]) (c_M_write (Rel.rvok h)) (by rw [rWrite, if_neg (bz1 ((Rel.lv h x).trans hA')), if_pos (bz0 (by rw [wk_eq, hs']; rfl)), if_pos (bz0 ((bWord_eq y).trans hw))]) (by simp) (show (3 : Int32) = hf [eN, eA, eI] 1 eI by decide) (by decide) trivial (h.c 3)
  have hw' := bf hw
  have h2 : Rel t σ (xu (xu σ 11 (xn (bPl x * 4 + y)) z) 25 0 (σ 11 (xn (bPl x * 4 + y)))) := h
  refine stp_ok (v := σ 11 (xn (bPl x * 4 + y))) (σ1 := xu σ 11 (xn (bPl x * 4 + y)) z) (ρ := xu (xu (xu (xu σ 11 (xn (bPl x * 4 + y)) z) 25 0 (σ 11 (xn (bPl x * 4 + y)))) 14 0 0) 19 (xn (bPl x * 4 + y)) z) (c_B_write h.wok) (by rw [cWrite, if_neg hA, if_neg (bz1 hs'), if_neg (bz1 hw')]) (c_M_write (Rel.rvok h2)) (by rw [rWrite, if_neg (bz1 ((Rel.lv h2 x).trans hA')), if_pos (bz0 (by rw [wk_eq, hs']; rfl)), if_neg (bz1 ((bWord_eq y).trans hw')), h2.eq.2.2.1, rPl_eq, Int32.mul_comm 4]) rfl rfl trivial ?_
  obtain ⟨⟨e1, e2, e3, e4, e5, e6, e7, e8⟩, hrest⟩ := h
  refine Rel.up ⟨⟨e1, e2, ?_, e4, e5, e6, e7, e8⟩, hrest⟩
  show (fun j => if j = xn (bPl x * 4 + y) then z else σ 19 j) = (fun j => if j = xn (bPl x * 4 + y) then z else σ 11 j)
  rw [e3]
theorem s_runKey (x y : Int32) (h : Inv t σ) : xStp E (Inv (t + 1)) i_B_runKey 7 i_M_runKey 3 [eN, eA] xV1 [.int x, .int y] σ := by
  by_cases hA : bAl σ x = false
  · exact stp_thr (c_B_runKey h.wok) (by rw [cRunKey, if_pos hA]) (c_M_runKey (Rel.rvok h)) (by rw [rRunKey, if_pos (bz0 ((Rel.lv h x).trans hA))]) (by simp) (show (1 : Int32) = hf [eN, eA] 1 eN by decide) (by decide) trivial (h.c 1)
  have hA' := bf hA
  by_cases hs : bStrong x = false
  · exact stp_thr (c_B_runKey h.wok) (by rw [cRunKey, if_neg hA, if_pos (bz0 hs)]) (c_M_runKey (Rel.rvok h)) (by rw [rRunKey, if_neg (bz1 ((Rel.lv h x).trans hA')), if_neg (bz1 (by rw [wk_eq, hs]; rfl))]) (by simp) (show (2 : Int32) = hf [eN, eA] 1 eA by decide) (by decide) trivial (h.c 2)
  have hs' := bf hs
  have hin : rIn y 0 15 = true ↔ ¬ y < 0 ∧ ¬ (16 : Int32) ≤ y := by
    rw [rIn_iff, Int32.lt_iff_toInt_lt, Int32.le_iff_toInt_le]
    have e0 : (0 : Int32).toInt = 0 := by decide
    have e3 : (15 : Int32).toInt = 15 := by decide
    have e4 : (16 : Int32).toInt = 16 := by decide
    rw [e0, e3, e4]; omega
  by_cases hy0 : y < 0
  · exact stp_thr (c_B_runKey h.wok) (by rw [cRunKey, if_neg hA, if_neg (bz1 hs'), if_pos hy0]) (c_M_runKey (Rel.rvok h)) (by rw [rRunKey, if_neg (bz1 ((Rel.lv h x).trans hA')), if_pos (bz0 (by rw [wk_eq, hs']; rfl)), if_pos (bz0 (by cases hh : rIn y 0 15; rfl; exact absurd hy0 (hin.mp hh).1))]) (by simp) (show (2 : Int32) = hf [eN, eA] 1 eA by decide) (by decide) trivial (h.c 2)
  by_cases hy1 : (16 : Int32) ≤ y
  · exact stp_thr (c_B_runKey h.wok) (by rw [cRunKey, if_neg hA, if_neg (bz1 hs'), if_neg hy0, if_pos hy1]) (c_M_runKey (Rel.rvok h)) (by rw [rRunKey, if_neg (bz1 ((Rel.lv h x).trans hA')), if_pos (bz0 (by rw [wk_eq, hs']; rfl)), if_pos (bz0 (by cases hh : rIn y 0 15; rfl; exact absurd hy1 (hin.mp hh).2))]) (by simp) (show (2 : Int32) = hf [eN, eA] 1 eA by decide) (by decide) trivial (h.c 2)
  obtain ⟨p, b, hp, ep, exp_, hb, e9, tb, -, -⟩ := h.alive hA'
  obtain ⟨i, hi, rfl⟩ : ∃ i, i < 16 ∧ y = nI i := by
    obtain ⟨j, hj, rfl⟩ := nI_of hy0
    refine ⟨j, ?_, rfl⟩
    rcases Nat.lt_or_ge j 16 with h' | h'
    · exact h'
    · exact absurd (nI_le (a := 16) h' hj) hy1
  have epi : bPl x + nI i = nI (p + i) := by rw [ep, nI_add]
  have exi : xn (nI (p + i)) = p + i := xn_nI (by omega)
  obtain ⟨V, hV⟩ : ∃ V : Int32, V = (if 192 ≤ rPl x + nI i then 0 else if σ 15 (xn (rPl x + nI i)) < 0 then 0 else if σ 17 (xn (rPl x + nI i)) = σ 17 (xn (rPl x)) then (if σ 23 (xn (σ 15 (xn (rPl x + nI i)))) = 2 then 0 else 1024 * σ 16 (xn (rPl x + nI i)) + 2 * (rPl x + nI i)) else 0) := ⟨_, rfl⟩
  have hr : cRunKey σ x (nI i) = (rI V, σ) := by
    rw [cRunKey, if_neg hA, if_neg (bz1 hs'), if_neg hy0, if_neg hy1, hV, rPl_eq, epi, exi, exp_, (Rel.eq h).1, (Rel.eq h).2.1, sSame, exi]
    by_cases h192 : 192 ≤ p + i
    · have h1 : (192 : Int32) ≤ nI (p + i) := (nI_192 (by omega)).mpr h192
      rw [if_pos (bz0 (by simp [h1])), if_pos h1]
    have h1 : ¬ (192 : Int32) ≤ nI (p + i) := fun hh => h192 ((nI_192 (by omega)).mp hh)
    rw [if_neg h1]
    rcases Rel.oi h (p + i) (by omega) with e | ⟨c, hc, e, tc⟩
    · rw [if_pos (bz0 (by simp [sTk, e])), e, if_pos (by decide)]
    · rw [e, if_neg (nI_pos (by omega)), xn_nI (show c < 2 ^ 31 by omega)]
      have r1 := Rel.ri h p hp (by rw [e9]; exact nI_m1 (by omega))
      have r2 := Rel.ri h (p + i) (by omega) (by rw [e]; exact nI_m1 (by omega))
      have hm := nI_m1 (show c < 2 ^ 31 by omega)
      rw [ep, xn_nI (show p < 2 ^ 31 by omega)]
      by_cases hrun : σ 17 (p + i) = σ 17 p
      · have : σ 10 (p + i) = σ 10 p := by rw [r1, r2, hrun]
        rw [if_neg (bz1 (by simp [h1, sTk, e, hm, this])), if_pos hrun, (Rel.tm h).st hc tc, tDy, xn_nI (show c < 2 ^ 31 by omega)]
        by_cases h2 : σ 2 c = 2
        · rw [if_neg (bz1 (by simp [h2])), if_pos h2]
        · rw [if_pos (bz0 (by simp [h2])), if_neg h2]
      · have : ¬ σ 10 (p + i) = σ 10 p := fun hh => hrun (by rw [r1, r2] at hh; exact (Int32.add_left_inj 1).mp hh)
        rw [if_pos (bz0 (by simp [h1, sTk, e, hm, this])), if_neg hrun]
  exact stp_ok (ρ := xu (xu σ 25 0 V) 14 0 0) (c_B_runKey h.wok) hr (c_M_runKey (Rel.rvok (h.v _))) (by rw [rRunKey, if_neg (bz1 ((Rel.lv (h.v _) x).trans hA')), if_pos (bz0 (by rw [wk_eq, hs']; rfl)), if_neg (bz1 (hin.mpr ⟨hy0, hy1⟩))]; exact Prod.ext hV.symm rfl) rfl rfl trivial (h.vc _ 0)
end Ops1
