/-! freeze, limit, reserve, unreserve -/
theorem c00 (τ : xS) : xu τ 14 0 0 14 0 ≤ 0 := by rw [xu_same]; decide
section Pure2
variable {t : Nat} {σ τ : xS} {s2 s2' s3 s4 s5 s6 s9 s5' s9' : Nat → Int32}
theorem uadd (hT : TI (σ 2) (σ 3)) (hL : LI (σ 2) (σ 4) (σ 5) (σ 6)) (hU : UI (σ 2) (σ 3) (σ 5) (σ 6) (σ 9)) {x : Nat} (hx : x < 40) (tx : thr (σ 2) x = true) {n : Int32} (hn : -192 ≤ n.toInt ∧ n.toInt ≤ 192) (hlim : n.toInt ≤ 0 ∨ tRf σ (nI x) n = -1)
    (hw : ∀ c, c < 40 → thr (σ 2) c = true → wt s5' s9' c = wt (σ 5) (σ 9) c + (if c = x then n.toInt else 0)) (h5 : ∀ c, c < 40 → thr (σ 2) c = true → 0 ≤ (s5' c).toInt) :
    UI (σ 2) (σ 3) s5' (fun b => if A (Pn (σ 3)) x b then σ 6 b + n else σ 6 b) s9' ∧ LI (σ 2) (σ 4) s5' (fun b => if A (Pn (σ 3)) x b then σ 6 b + n else σ 6 b) := by
  have ha : ∀ b, b < 40 → thr (σ 2) b = true → (σ 6 b + n).toInt = (σ 6 b).toInt + n.toInt := fun b hb tb => by
    have h1 := use_nn hL hU hb tb
    have h2 := use_le hL hb tb
    exact tiA (by omega) (by omega)
  refine ⟨UI_step hT.1 hU hx tx n.toInt hw fun b hb tb => ?_, fun b hb tb => ⟨h5 b hb tb, ?_, (hL b hb tb).2.2⟩⟩
  · show (if _ then _ else _ : Int32).toInt = _
    split
    · exact ha b hb tb
    · omega
  · show (if A (Pn (σ 3)) x b then σ 6 b + n else σ 6 b : Int32).toInt ≤ _
    have h3 := (hL b hb tb).2.1
    by_cases e : A (Pn (σ 3)) x b = true
    · rw [if_pos e]
      rcases hlim with hl | hl
      · rw [ha b hb tb]; omega
      · have := (rf_none hT hx tx n).mp hl b hb e
        rw [Int32.le_iff_toInt_le] at this
        exact this
    · rw [if_neg e]; exact h3
theorem TI.cong (h : TI s2 s3) (e : thr s2' = thr s2) : TI s2' s3 := by unfold TI at h ⊢; rw [e]; exact h
theorem LI.cong (h : LI s2 s4 s5 s6) (e : thr s2' = thr s2) : LI s2' s4 s5 s6 := by unfold LI at h ⊢; rw [e]; exact h
theorem UI.cong (h : UI s2 s3 s5 s6 s9) (e : thr s2' = thr s2) : UI s2' s3 s5 s6 s9 := by unfold UI usum at h ⊢; rw [e]; exact h
theorem OI.cong (h : OI s2 s9) (e : thr s2' = thr s2) : OI s2' s9 := by unfold OI at h ⊢; rw [e]; exact h
theorem thr_upd {b : Nat} {v : Int32} (tb : thr s2 b = true) (hv : ¬ v = 3) : thr (fun j => if j = b then v else s2 j) = thr s2 := by
  funext j
  simp only [thr]
  by_cases e : j = b
  · subst e
    rw [if_pos rfl]
    simp only [thr] at tb
    rw [tb]; simp [hv]
  · rw [if_neg e]
theorem rWr_nb (h : Rel t σ τ) {x : Int32} (hb : tBk σ x = false) : rWr τ x = 1 := by rw [rWr, if_pos (bz0 ((h.bk x).trans hb))]
theorem rWr_0 (h : Rel t σ τ) (hb : tBk σ 0 = true) : rWr τ 0 = 2 := by rw [rWr, if_neg (bz1 ((h.bk 0).trans hb)), if_pos rfl]
theorem rWr_dy (h : Rel t σ τ) {b : Nat} (hb : b < 40) (tb : thr (σ 2) b = true) (h0 : ¬ nI b = 0) (hd : σ 2 b = 2) : rWr τ (nI b) = 3 := by
  rw [rWr, if_neg (bz1 ((h.bk _).trans (tBk_iff.mpr ⟨b, hb, rfl, tb⟩))), if_neg h0, xn_nI (by omega), h.tm.st hb tb, if_pos hd]
theorem rWr_ok (h : Rel t σ τ) {b : Nat} (hb : b < 40) (tb : thr (σ 2) b = true) (h0 : ¬ nI b = 0) (hd : ¬ σ 2 b = 2) : rWr τ (nI b) = 0 := by
  rw [rWr, if_neg (bz1 ((h.bk _).trans (tBk_iff.mpr ⟨b, hb, rfl, tb⟩))), if_neg h0, xn_nI (by omega), h.tm.st hb tb, if_neg hd]
end Pure2
section Ops2
variable {E : xE} {t : Nat} {σ : xS}
/-- a bank that isn't dying is frozen, or thawed -/
theorem Rel.freeze {τ : xS} (h : Rel t σ τ) {b : Nat} (hb : b < 40) (tb : thr (σ 2) b = true) (h0 : ¬ b = 0) (hd : ¬ σ 2 b = 2) {v : Int32} (hv : v = 0 ∨ v = 1) : Rel (t + 1) (xu σ 2 b v) (xu τ 23 b v) := by
  have hv3 : ¬ v = 3 := by rcases hv with rfl | rfl <;> decide
  have hv2 : ¬ v = 2 := by rcases hv with rfl | rfl <;> decide
  have et := thr_upd tb hv3
  have ho := h.up.ol
  obtain ⟨h1, h2, h3, h4, h5, h6, h7, h8, h9, h10, -⟩ := h
  have e2 : xu σ 2 b v 2 = fun j => if j = b then v else σ 2 j := rfl
  have e2b : xu σ 2 b v 2 b = v := by rw [e2]; simp
  have e2n : ∀ j, ¬ j = b → xu σ 2 b v 2 j = σ 2 j := fun j hj => by rw [e2]; simp [hj]
  refine ⟨h1, ?_, h3.cong et, ⟨?_, ?_⟩, h5.cong et, h6.cong et, ?_, h8.cong et, h9, h10, ho⟩
  · intro c hc
    by_cases e : c = b
    · subst e
      rcases h2 c hc with ⟨a1, a2⟩ | ⟨a1, a2, a3⟩
      · exact absurd a2 (thr_iff.mp tb)
      · exact Or.inr ⟨a1, by rw [e2b, xu_same], by rw [e2b]; exact hv3⟩
    · rw [e2n c e, xu_at, if_neg e]; exact h2 c hc
  · rw [e2n 0 (fun e => h0 e.symm)]; exact h4.1
  · intro c hc
    by_cases e : c = b
    · subst e; rw [e2b]
      rcases hv with rfl | rfl
      · exact Or.inl rfl
      · exact Or.inr (Or.inl rfl)
    · rw [e2n c e]; exact h4.2 c hc
  · intro c hc h2c
    have ec : ¬ c = b := fun e => by subst e; rw [e2b] at h2c; exact hv2 h2c
    rw [e2n c ec] at h2c
    refine ⟨(h7 c hc h2c).1, fun d hd2 td h0d hP => ?_⟩
    have := (h7 c hc h2c).2 d hd2 (by rw [← et]; exact td) h0d hP
    have ed : ¬ d = b := fun e => by subst e; exact hd this
    rw [e2n d ed]; exact this
theorem s_freeze (x : Int32) (y : Bool) (h : Inv t σ) : xStp E (Inv (t + 1)) i_B_freeze 9 i_M_freeze 4 [eI, eA, eS] xVz [.int x, .int (bz y)] σ := by
  by_cases hB : tBk σ x = false
  · exact stp_thr c_B_freeze (by rw [cFreeze, if_pos hB]) c_M_freeze (by rw [rFreeze, rWr_nb h hB]; exact if_neg (show ¬ (1 : Int32) ≤ 0 by decide)) (by simp) (show (1 : Int32) = hf [eI, eA, eS] 1 eI by decide) (by decide) (Or.inl rfl) (h.c 1)
  have hB' := bf hB
  by_cases h0 : x = 0
  · subst h0
    exact stp_thr c_B_freeze (by rw [cFreeze, if_neg hB, if_pos rfl]) c_M_freeze (by rw [rFreeze, rWr_0 h hB']; exact if_neg (show ¬ (2 : Int32) ≤ 0 by decide)) (by simp) (show (2 : Int32) = hf [eI, eA, eS] 1 eA by decide) (by decide) (Or.inl rfl) (h.c 2)
  obtain ⟨b, hb, rfl, tb⟩ := tBk_iff.mp hB'
  have hb0 : ¬ b = 0 := fun e => h0 (by rw [e]; rfl)
  have xb : xn (nI b) = b := xn_nI (by omega)
  by_cases hd : σ 2 b = 2
  · exact stp_thr c_B_freeze (by rw [cFreeze, if_neg hB, if_neg h0, if_neg (bz1 (by rw [tDy, xb, hd]; rfl))]) c_M_freeze (by rw [rFreeze, rWr_dy h hb tb h0 hd]; exact if_neg (show ¬ (3 : Int32) ≤ 0 by decide)) (by simp) (show (3 : Int32) = hf [eI, eA, eS] 1 eS by decide) (by decide) (Or.inl rfl) (h.c 3)
  have hdy : bz (tDy σ (nI b)) = 0 := bz0 (by rw [tDy, xb]; simpa using hd)
  have e23 := (Rel.tm h).st hb tb
  obtain ⟨w, hw⟩ : ∃ w : Int32, w = if y then 1 else 0 := ⟨_, rfl⟩
  have hw01 : w = 0 ∨ w = 1 := by rw [hw]; cases y; exact Or.inl rfl; exact Or.inr rfl
  obtain ⟨v, hv⟩ : ∃ v : Int32, v = if σ 2 b = 1 then 1 else 0 := ⟨_, rfl⟩
  refine stp_ok (v := v) (σ1 := xu σ 2 b w) (ρ := xu (xu (xu (xu σ 2 b w) 25 0 v) 14 0 0) 23 b w) c_B_freeze ?_ c_M_freeze ?_ rfl rfl ?_ (Rel.freeze (τ := σ) h hb tb hb0 hd hw01)
  · rw [cFreeze, if_neg hB, if_neg h0, if_pos hdy, xb, hv, hw]
    cases y <;> by_cases e : σ 2 b = 1 <;> simp [bz, e]
  · have hr : Rel t σ (xu (xu σ 2 b w) 25 0 v) := h
    rw [rFreeze, rWr_ok hr hb tb h0 hd, if_pos (c00 _), xb]
    rw [show xu (xu (xu σ 2 b w) 25 0 v) 14 0 0 23 b = σ 2 b from e23]
    rw [hv, hw]
    cases y <;> by_cases e : σ 2 b = 1 <;> simp [bz, e]
  · rw [hv]
    by_cases e : σ 2 b = 1
    · rw [if_pos e]; exact Or.inr rfl
    · rw [if_neg e]; exact Or.inl rfl
theorem bUp_i {y : Int32} (h : bUp y = true) : 0 ≤ y.toInt ∧ y.toInt ≤ 192 := by
  simp only [bUp, Bool.and_eq_true, Bool.not_eq_true', decide_eq_false_iff_not, Int32.lt_iff_toInt_lt] at h
  have e0 : (0 : Int32).toInt = 0 := by decide
  have e1 : (192 : Int32).toInt = 192 := by decide
  omega
theorem s_limit (x y : Int32) (h : Inv t σ) : xStp E (Inv (t + 1)) i_B_limit 8 i_M_limit 3 [eI, eA, eS] xV1 [.int x, .int y] σ := by
  by_cases hB : tBk σ x = false
  · exact stp_thr (c_B_limit h.pok) (by rw [cLimit, if_pos hB]) (c_M_limit (Rel.rok h)) (by rw [rLimit, if_pos (bz0 ((Rel.bk h x).trans hB))]) (by simp) (show (1 : Int32) = hf [eI, eA, eS] 1 eI by decide) (by decide) trivial (h.c 1)
  have hB' := bf hB
  by_cases hy : bUp y = false
  · exact stp_thr (c_B_limit h.pok) (by rw [cLimit, if_neg hB, if_pos (bz0 hy)]) (c_M_limit (Rel.rok h)) (by rw [rLimit, if_neg (bz1 ((Rel.bk h x).trans hB')), if_pos (bz0 ((bUp_eq y).trans hy))]) (by simp) (show (2 : Int32) = hf [eI, eA, eS] 1 eA by decide) (by decide) trivial (h.c 2)
  have hy' := bf hy
  by_cases h0 : x = 0
  · exact stp_thr (c_B_limit h.pok) (by rw [cLimit, if_neg hB, if_neg (bz1 hy'), if_pos h0]) (c_M_limit (Rel.rok h)) (by rw [rLimit, if_neg (bz1 ((Rel.bk h x).trans hB')), if_neg (bz1 ((bUp_eq y).trans hy')), if_pos h0]) (by simp) (show (2 : Int32) = hf [eI, eA, eS] 1 eA by decide) (by decide) trivial (h.c 2)
  obtain ⟨b, hb, rfl, tb⟩ := tBk_iff.mp hB'
  have xb : xn (nI b) = b := xn_nI (by omega)
  by_cases hu : y < σ 6 b
  · exact stp_thr (c_B_limit h.pok) (by rw [cLimit, if_neg hB, if_neg (bz1 hy'), if_neg h0, xb, if_pos hu]) (c_M_limit (Rel.rok h)) (by rw [rLimit, if_neg (bz1 ((Rel.bk h _).trans hB')), if_neg (bz1 ((bUp_eq y).trans hy')), if_neg h0, Rel.use h hb tb, if_pos hu]) (by simp) (show (3 : Int32) = hf [eI, eA, eS] 1 eS by decide) (by decide) trivial (h.c 3)
  have e23 := (Rel.tm h).st hb tb
  by_cases hd : σ 2 b = 2
  · exact stp_thr (c_B_limit h.pok) (by rw [cLimit, if_neg hB, if_neg (bz1 hy'), if_neg h0, xb, if_neg hu, if_neg (bz1 (by rw [tDy, xb, hd]; rfl))]) (c_M_limit (Rel.rok h)) (by rw [rLimit, if_neg (bz1 ((Rel.bk h _).trans hB')), if_neg (bz1 ((bUp_eq y).trans hy')), if_neg h0, Rel.use h hb tb, if_neg hu, xb, e23, if_pos hd]) (by simp) (show (3 : Int32) = hf [eI, eA, eS] 1 eS by decide) (by decide) trivial (h.c 3)
  have hr : Rel t σ (xu (xu σ 4 b y) 25 0 (σ 4 b)) := h
  refine stp_ok (v := σ 4 b) (σ1 := xu σ 4 b y) (ρ := xu (xu (xu (xu σ 4 b y) 25 0 (σ 4 b)) 14 0 0) 22 b y) (c_B_limit h.pok) (by rw [cLimit, if_neg hB, if_neg (bz1 hy'), if_neg h0, xb, if_neg hu, if_pos (bz0 (by rw [tDy, xb]; simpa using hd))]) (c_M_limit (Rel.rok hr)) ?_ rfl rfl trivial ?_
  · rw [rLimit, if_neg (bz1 ((Rel.bk hr _).trans hB')), if_neg (bz1 ((bUp_eq y).trans hy')), if_neg h0, Rel.use hr hb tb, if_neg hu, xb, show xu (xu σ 4 b y) 25 0 (σ 4 b) 23 b = σ 2 b from e23, if_neg hd, show xu (xu σ 4 b y) 25 0 (σ 4 b) 22 b = σ 4 b from congrFun hr.eq.2.2.2.2.1 b]
  · have ho := (Rel.up h).ol
    obtain ⟨⟨e1, e2, e3, e4, e5, e6, e7, e8⟩, h2, h3, h4, h5, hrest⟩ := h
    refine ⟨⟨e1, e2, e3, e4, ?_, e6, e7, e8⟩, h2, h3, h4, ?_, hrest.1, hrest.2.1, hrest.2.2.1, hrest.2.2.2.1, hrest.2.2.2.2.1, ho⟩
    · show (fun j => if j = b then y else σ 22 j) = (fun j => if j = b then y else σ 4 j)
      rw [e5]
    · intro c hc tc
      have := h5 c hc tc
      show 0 ≤ (σ 5 c).toInt ∧ (σ 6 c).toInt ≤ (if c = b then y else σ 4 c).toInt ∧ (if c = b then y else σ 4 c).toInt ≤ 192
      by_cases e : c = b
      · subst e
        rw [if_pos rfl]
        have := bUp_i hy'
        rw [Int32.lt_iff_toInt_lt] at hu
        omega
      · rw [if_neg e]; exact this
/-- what a bank has reserved changes by n, and its use with it -/
theorem Rel.reserve {τ : xS} (h : Rel t σ τ) {b : Nat} (hb : b < 40) (tb : thr (σ 2) b = true) {n : Int32} (hn : -192 ≤ n.toInt ∧ n.toInt ≤ 192) (h5n : 0 ≤ (σ 5 b).toInt + n.toInt) (hlim : n.toInt ≤ 0 ∨ tRf σ (nI b) n = -1) (hdy : ¬ σ 2 b = 2 ∨ n = 0) :
    Rel (t + 1) (xup (xu σ 5 b (σ 5 b + n)) 6 (fun c => if A (Pn (σ 3)) b c then σ 6 c + n else σ 6 c)) (xu τ 24 b (σ 5 b + n)) := by
  have ho := h.up.ol
  obtain ⟨⟨e1, e2, e3, e4, e5, e6, e7, e8⟩, h2, h3, h4, h5, h6, h7, hrest⟩ := h
  have hr := own_res h5 h6 hb tb
  have ei : (σ 5 b + n).toInt = (σ 5 b).toInt + n.toInt := tiA (by omega) (by omega)
  obtain ⟨s5', hs5⟩ : ∃ s5' : Nat → Int32, s5' = fun j => if j = b then σ 5 b + n else σ 5 j := ⟨_, rfl⟩
  have s5b : s5' b = σ 5 b + n := by rw [hs5]; simp
  have s5n : ∀ j, ¬ j = b → s5' j = σ 5 j := fun j hj => by rw [hs5]; simp [hj]
  have hu := uadd h3 h5 h6 hb tb hn hlim (s5' := s5') (s9' := σ 9) (fun c hc tc => by
    unfold wt
    by_cases e : c = b
    · subst e; rw [if_pos rfl, s5b, ei]; omega
    · rw [if_neg e, s5n c e]; omega) (fun c hc tc => by
    by_cases e : c = b
    · subst e; rw [s5b, ei]; exact h5n
    · rw [s5n c e]; exact (h5 c hc tc).1)
  have e5' : xup (xu σ 5 b (σ 5 b + n)) 6 (fun c => if A (Pn (σ 3)) b c then σ 6 c + n else σ 6 c) 5 = s5' := hs5.symm
  refine ⟨⟨e1, e2, e3, e4, e5, ?_, e7, e8⟩, h2, h3, h4, ?_, ?_, ?_, hrest.1, hrest.2.1, hrest.2.2.1, ho⟩
  · rw [e5', hs5]
    show (fun j => if j = b then σ 5 b + n else τ 24 j) = _
    rw [e6]
  · rw [e5']; exact hu.2
  · rw [e5']; exact hu.1
  · rw [e5']
    intro c hc h2c
    have := h7 c hc h2c
    refine ⟨?_, this.2⟩
    by_cases e : c = b
    · subst e
      rcases hdy with hdy | hdy
      · exact absurd h2c hdy
      · rw [s5b, hdy, this.1]; rfl
    · rw [s5n c e]; exact this.1
theorem s_reserve (x y : Int32) (h : Inv t σ) : xStp E (Inv (t + 1)) i_B_reserve 8 i_M_reserve 4 [eI, eA, eS, eU] xV1 [.int x, .int y] σ := by
  by_cases hB : tBk σ x = false
  · exact stp_thr (c_B_reserve h.pok) (by rw [cReserve, if_pos hB]) (c_M_reserve (Rel.rok h)) (by rw [rReserve, if_pos (bz0 ((Rel.bk h x).trans hB))]) (by simp) (show (1 : Int32) = hf [eI, eA, eS, eU] 1 eI by decide) (by decide) trivial (h.c 1)
  have hB' := bf hB
  by_cases hy : bUp y = false
  · exact stp_thr (c_B_reserve h.pok) (by rw [cReserve, if_neg hB, if_pos (bz0 hy)]) (c_M_reserve (Rel.rok h)) (by rw [rReserve, if_neg (bz1 ((Rel.bk h x).trans hB')), if_pos (bz0 ((bUp_eq y).trans hy))]) (by simp) (show (2 : Int32) = hf [eI, eA, eS, eU] 1 eA by decide) (by decide) trivial (h.c 2)
  have hy' := bf hy
  obtain ⟨b, hb, rfl, tb⟩ := tBk_iff.mp hB'
  have xb : xn (nI b) = b := xn_nI (by omega)
  have e23 := (Rel.tm h).st hb tb
  by_cases hl : ¬ σ 2 b = 0
  · exact stp_thr (c_B_reserve h.pok) (by rw [cReserve, if_neg hB, if_neg (bz1 hy'), xb, if_pos hl]) (c_M_reserve (Rel.rok h)) (by rw [rReserve, if_neg (bz1 ((Rel.bk h _).trans hB')), if_neg (bz1 ((bUp_eq y).trans hy')), xb, e23, if_pos (bz0 (by simpa using hl))]) (by simp) (show (3 : Int32) = hf [eI, eA, eS, eU] 1 eS by decide) (by decide) trivial (h.c 3)
  have hl' : σ 2 b = 0 := Classical.not_not.mp hl
  have hrf : ∀ τ : xS, Rel t σ τ → rRf (xu τ 14 0 0) (nI b) y = tRf σ (nI b) y := fun τ hτ => by
    have hτ' : Rel t σ (xu τ 14 0 0) := hτ
    exact rf_eq hτ'.ti hτ'.eq.2.2.2.1 hτ'.eq.2.2.2.2.1 (fun c hc tc => hτ'.use hc tc) y 7 (nI b) (Or.inr ⟨b, hb, rfl, tb⟩)
  by_cases hrf1 : ¬ tRf σ (nI b) y = -1
  · obtain ⟨c, hc, ec⟩ := (rf_val (Rel.ti h) y 7 (nI b) (Or.inr ⟨b, hb, rfl, tb⟩)).resolve_left hrf1
    have ec' : tRf σ (nI b) y = nI c := ec
    have hτ : Rel t σ (xu σ 0 2 (nI c)) := h
    refine stp_thr (v := 0) (σ1 := xu σ 0 2 (nI c)) (ρ := xu (xu (xu (xu σ 0 2 (nI c)) 14 0 0) 14 13 (nI c)) 14 0 4) (c_B_reserve h.pok) (by rw [cReserve, if_neg hB, if_neg (bz1 hy'), xb, if_neg hl, if_pos hrf1, ec']) (c_M_reserve (Rel.rok hτ)) ?_ (by simp) (show (4 : Int32) = hf [eI, eA, eS, eU] 1 eU by decide) (by decide) trivial ?_
    · rw [rReserve, if_neg (bz1 ((Rel.bk hτ _).trans hB')), if_neg (bz1 ((bUp_eq y).trans hy')), xb, hτ.tm.st hb tb, if_neg (bz1 (by rw [hl']; rfl)), hrf _ hτ, ec', if_neg (nI_pos (by omega))]
    · have h' := Rel.up h
      obtain ⟨⟨e1, e2, e3, e4, e5, e6, e7, e8⟩, hrest⟩ := h'
      exact ⟨⟨e1, e2, e3, e4, e5, e6, rfl, e8⟩, hrest⟩
  have hrf2 : tRf σ (nI b) y = -1 := Classical.not_not.mp hrf1
  have hyi := bUp_i hy'
  have hTI : TI (σ 2) (σ 3) := Rel.ti h
  have hta := tAu_eq (σ := xu σ 5 b (σ 5 b + y)) hTI hb tb y
  obtain ⟨σ1, hσ1⟩ : ∃ σ1, σ1 = xup (xu σ 5 b (σ 5 b + y)) 6 (fun c => if A (Pn (σ 3)) b c then σ 6 c + y else σ 6 c) := ⟨_, rfl⟩
  have hta' : tAu (xu σ 5 b (σ 5 b + y)) (nI b) y = σ1 := hta.trans hσ1.symm
  have h1b : σ1 5 b = σ 5 b + y := by rw [hσ1]; exact xu_same σ 5 b _
  have hτ : Rel t σ (xu σ1 25 0 (σ 5 b + y)) := by rw [hσ1]; exact h
  have e24 : xu σ1 25 0 (σ 5 b + y) 24 b = σ 5 b := by
    have := hτ.eq.2.2.2.2.2.1
    exact congrFun this b
  refine stp_ok (v := σ 5 b + y) (σ1 := σ1) (ρ := xu (xu (xu σ1 25 0 (σ 5 b + y)) 14 0 0) 24 b (σ 5 b + y)) (c_B_reserve h.pok) (by rw [cReserve, if_neg hB, if_neg (bz1 hy'), xb, if_neg hl, if_neg hrf1, hta', h1b]) (c_M_reserve (Rel.rok hτ)) ?_ rfl rfl trivial ?_
  · rw [rReserve, if_neg (bz1 ((Rel.bk hτ _).trans hB')), if_neg (bz1 ((bUp_eq y).trans hy')), xb, hτ.tm.st hb tb, if_neg (bz1 (by rw [hl']; rfl)), hrf _ hτ, hrf2, if_pos (by decide), e24, xu_same]
  · have := Rel.reserve (τ := xu (xu σ1 25 0 (σ 5 b + y)) 14 0 0) hτ hb tb (n := y) ⟨by omega, by omega⟩ (by have := own_res (Rel.li h) (Rel.ui h) hb tb; omega) (Or.inr hrf2) (Or.inl (by rw [hl']; decide))
    rw [← hσ1] at this
    exact this
theorem s_unreserve (x y : Int32) (h : Inv t σ) : xStp E (Inv (t + 1)) i_B_unreserve 8 i_M_unreserve 3 [eI, eA] xV1 [.int x, .int y] σ := by
  by_cases hB : tBk σ x = false
  · exact stp_thr (c_B_unreserve h.pok) (by rw [cUnreserve, if_pos hB]) c_M_unreserve (by rw [rUnreserve, if_pos (bz0 ((Rel.bk h x).trans hB))]) (by simp) (show (1 : Int32) = hf [eI, eA] 1 eI by decide) (by decide) trivial (h.c 1)
  have hB' := bf hB
  obtain ⟨b, hb, rfl, tb⟩ := tBk_iff.mp hB'
  have xb : xn (nI b) = b := xn_nI (by omega)
  have e24 : σ 24 b = σ 5 b := congrFun (Rel.eq h).2.2.2.2.2.1 b
  have hin : rIn y 0 (σ 5 b) = true ↔ ¬ y < 0 ∧ ¬ σ 5 b < y := by simp [rIn]
  by_cases hy0 : y < 0
  · exact stp_thr (c_B_unreserve h.pok) (by rw [cUnreserve, if_neg hB, if_pos hy0]) c_M_unreserve (by rw [rUnreserve, if_neg (bz1 ((Rel.bk h _).trans hB')), xb, e24, if_pos (bz0 (by cases hh : rIn y 0 (σ 5 b); rfl; exact absurd hy0 (hin.mp hh).1))]) (by simp) (show (2 : Int32) = hf [eI, eA] 1 eA by decide) (by decide) trivial (h.c 2)
  by_cases hy1 : σ 5 b < y
  · exact stp_thr (c_B_unreserve h.pok) (by rw [cUnreserve, if_neg hB, if_neg hy0, xb, if_pos hy1]) c_M_unreserve (by rw [rUnreserve, if_neg (bz1 ((Rel.bk h _).trans hB')), xb, e24, if_pos (bz0 (by cases hh : rIn y 0 (σ 5 b); rfl; exact absurd hy1 (hin.mp hh).2))]) (by simp) (show (2 : Int32) = hf [eI, eA] 1 eA by decide) (by decide) trivial (h.c 2)
  have hor := own_res (Rel.li h) (Rel.ui h) hb tb
  have e0 : (0 : Int32).toInt = 0 := by decide
  have hyi : 0 ≤ y.toInt ∧ y.toInt ≤ (σ 5 b).toInt := by
    rw [Int32.lt_iff_toInt_lt] at hy0 hy1
    omega
  have hny : (-y).toInt = -y.toInt := tiN (by omega)
  have esub : σ 5 b - y = σ 5 b + -y := Int32.sub_eq_add_neg _ _
  have hTI : TI (σ 2) (σ 3) := Rel.ti h
  have hta := tAu_eq (σ := xu σ 5 b (σ 5 b + -y)) hTI hb tb (-y)
  obtain ⟨σ1, hσ1⟩ : ∃ σ1, σ1 = xup (xu σ 5 b (σ 5 b + -y)) 6 (fun c => if A (Pn (σ 3)) b c then σ 6 c + -y else σ 6 c) := ⟨_, rfl⟩
  have hta' : tAu (xu σ 5 b (σ 5 b + -y)) (nI b) (-y) = σ1 := hta.trans hσ1.symm
  have h1b : σ1 5 b = σ 5 b + -y := by rw [hσ1]; exact xu_same σ 5 b _
  have hτ : Rel t σ (xu σ1 25 0 (σ 5 b + -y)) := by rw [hσ1]; exact h
  have e24' : xu σ1 25 0 (σ 5 b + -y) 24 b = σ 5 b := congrFun hτ.eq.2.2.2.2.2.1 b
  refine stp_ok (v := σ 5 b + -y) (σ1 := σ1) (ρ := xu (xu (xu σ1 25 0 (σ 5 b + -y)) 14 0 0) 24 b (σ 5 b + -y)) (c_B_unreserve h.pok) (by rw [cUnreserve, if_neg hB, if_neg hy0, xb, if_neg hy1, hta', h1b]) c_M_unreserve ?_ rfl rfl trivial ?_
  · rw [rUnreserve, if_neg (bz1 ((Rel.bk hτ _).trans hB')), xb, e24', if_neg (bz1 (hin.mpr ⟨hy0, hy1⟩)), esub, xu_same]
  · have := Rel.reserve (τ := xu (xu σ1 25 0 (σ 5 b + -y)) 14 0 0) hτ hb tb (n := -y) ⟨by omega, by omega⟩ (by omega) (Or.inl (by omega)) (by
      by_cases hd : σ 2 b = 2
      · right
        have := (Rel.di h b hb hd).1
        rw [this, e0] at hyi
        rw [ti_eq, hny, e0]; omega
      · exact Or.inl hd)
    rw [← hσ1] at this
    exact this
end Ops2
