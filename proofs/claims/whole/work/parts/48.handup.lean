/-! handUp -/
section Ops7
variable {E : xE} {t : Nat} {σ : xS}
theorem s_handUp (x : Int32) (ht : t < 512) (h : Inv t σ) : xStp E (Inv (t + 1)) i_B_handUp 9 i_M_handUp 4 [eI, eA, eS] xV1 [.int x] σ := by
  obtain ⟨L, hL, hoo⟩ := OLL.ok (Rel.ol h)
  have hTI : TI (σ 2) (σ 3) := Rel.ti h
  have hh : ¬ tBk σ x = false → ¬ x = 0 → vp_in (σ 3 (xn x)) 40 := fun a b => by
    obtain ⟨u, hu, rfl, tu⟩ := tBk_iff.mp (bf a)
    have u0 : ¬ u = 0 := fun e => b (by rw [e]; rfl)
    rw [xn_nI (by omega), hTI.2.2.1 u hu tu u0]
    exact vp_in_nI (hTI.1.2.1 u hu tu u0).1 (by decide)
  have key : ∀ k : Int32, ¬ k ≤ 0 → rWr σ x = k → ¬ xu σ 14 0 (rWr σ x) 14 0 ≤ 0 := fun k hk e a => hk (by rw [← e]; exact a)
  by_cases hB : tBk σ x = false
  · have kk := key 1 (by decide) (rWr_nb h hB)
    exact stp_thr (c_B_handUp hoo hh) (by rw [cHandUp, if_pos hB]) (c_M_handUp (fun a => absurd a kk) (fun a => absurd a kk)) (by rw [rHandUp, rWr_nb h hB]; exact if_neg (show ¬ (1 : Int32) ≤ 0 by decide)) (by simp) (show (1 : Int32) = hf [eI, eA, eS] 1 eI by decide) (by decide) trivial (h.c 1)
  have hB' := bf hB
  by_cases h0 : x = 0
  · subst h0
    have kk := key 2 (by decide) (rWr_0 h hB')
    exact stp_thr (c_B_handUp hoo hh) (by rw [cHandUp, if_neg hB, if_pos rfl]) (c_M_handUp (fun a => absurd a kk) (fun a => absurd a kk)) (by rw [rHandUp, rWr_0 h hB']; exact if_neg (show ¬ (2 : Int32) ≤ 0 by decide)) (by simp) (show (2 : Int32) = hf [eI, eA, eS] 1 eA by decide) (by decide) trivial (h.c 2)
  obtain ⟨u, hu, rfl, tu⟩ := tBk_iff.mp hB'
  have hu0 : ¬ u = 0 := fun e => h0 (by rw [e]; rfl)
  have xb : xn (nI u) = u := xn_nI (by omega)
  by_cases hd : σ 2 u = 2
  · have kk := key 3 (by decide) (rWr_dy h hu tu h0 hd)
    exact stp_thr (c_B_handUp hoo hh) (by rw [cHandUp, if_neg hB, if_neg h0, if_neg (bz1 (by rw [tDy, xb, hd]; rfl))]) (c_M_handUp (fun a => absurd a kk) (fun a => absurd a kk)) (by rw [rHandUp, rWr_dy h hu tu h0 hd]; exact if_neg (show ¬ (3 : Int32) ≤ 0 by decide)) (by simp) (show (3 : Int32) = hf [eI, eA, eS] 1 eS by decide) (by decide) trivial (h.c 3)
  obtain ⟨r, hr⟩ : ∃ r, Pn (σ 3) u = r := ⟨_, rfl⟩
  have hp := hTI.1.2.1 u hu tu hu0
  rw [hr] at hp
  have h3u : σ 3 u = nI r := by rw [hTI.2.2.1 u hu tu hu0, hr]
  have ru : ¬ r = u := by rw [← hr]; exact Mg.hne hTI.1 hu tu hu0
  have xr : xn (nI r) = r := xn_nI (by have := hp.1; omega)
  obtain ⟨o, f, s, hga, hf, ho⟩ := ga_list (σ := σ) (x := nI u) (y := nI r) hL.2.1 (fun p hp => ((hL.2.2.1 p).mp hp).1) hL.nd
  obtain ⟨S, hS⟩ : ∃ S, S = xup (xup (xup σ 9 o) 12 f) 13 s := ⟨_, rfl⟩
  rw [← hS] at hga
  obtain ⟨s3, hs3⟩ : ∃ s3 : Nat → Int32, s3 = fun b => if (0 ≤ b ∧ b < 0 + 40) ∧ thr (fun j => if j = u then 3 else σ 2 j) b = true ∧ σ 3 b = nI u then nI r else σ 3 b := ⟨_, rfl⟩
  obtain ⟨σ1, hσ1⟩ : ∃ σ1, σ1 = xup (xu (xu S 5 r (σ 5 r + σ 5 u)) 2 u 3) 3 s3 := ⟨_, rfl⟩
  have hmg : tMg S (nI u) = σ1 := by
    have q3 : S 3 = σ 3 := by rw [hS]; rfl
    have q5 : S 5 = σ 5 := by rw [hS]; rfl
    have q2 : xu (xu S 5 r (σ 5 r + σ 5 u)) 2 u 3 2 = fun j => if j = u then 3 else σ 2 j := by rw [hS]; rfl
    have q3' : xu (xu S 5 r (σ 5 r + σ 5 u)) 2 u 3 3 = σ 3 := by rw [hS]; rfl
    rw [tMg, xb, q3, h3u, xr, q5, tMgF_eq _ _ 40 0 _ (by decide), q2, q3', hσ1, hs3]
  have n2 : ∀ b, σ1 2 b = if b = u then 3 else σ 2 b := fun b => by rw [hσ1, hS]; rfl
  have n5 : ∀ b, σ1 5 b = if b = r then σ 5 r + σ 5 u else σ 5 b := fun b => by rw [hσ1, hS]; rfl
  have n3 : ∀ b, σ1 3 b = if b < 40 ∧ thr (σ 2) b = true ∧ ¬ b = u ∧ σ 3 b = nI u then nI r else σ 3 b := fun b => by
    have e : σ1 3 = s3 := by rw [hσ1]; rfl
    rw [e, hs3]
    have et : thr (fun j => if j = u then 3 else σ 2 j) b = true ↔ thr (σ 2) b = true ∧ ¬ b = u := by
      rw [thr_iff, thr_iff]
      by_cases e : b = u
      · simp [e]
      · simp [e]
    show (if (0 ≤ b ∧ b < 0 + 40) ∧ thr (fun j => if j = u then 3 else σ 2 j) b = true ∧ σ 3 b = nI u then nI r else σ 3 b) = _
    by_cases e : b < 40 ∧ thr (σ 2) b = true ∧ ¬ b = u ∧ σ 3 b = nI u
    · rw [if_pos e, if_pos ⟨by omega, et.mpr ⟨e.2.1, e.2.2.1⟩, e.2.2.2⟩]
    · rw [if_neg e, if_neg (fun q => e ⟨by omega, (et.mp q.2.1).1, (et.mp q.2.1).2, q.2.2⟩)]
  have n9 : σ1 9 = o := by rw [hσ1, hS]; rfl
  have n12 : σ1 12 = f := by rw [hσ1, hS]; rfl
  have nk : ∀ k, ¬ k = 2 → ¬ k = 3 → ¬ k = 5 → ¬ k = 9 → ¬ k = 12 → ¬ k = 13 → σ1 k = σ k := fun k k2 k3 k5 k9 k12 k13 => by
    rw [hσ1, xup_ne k3, xu_other k2, xu_other k5, hS, xup_ne k13, xup_ne k12, xup_ne k9]
  obtain ⟨v, hv⟩ : ∃ v, v = nI (sOwn σ (nI u)) := ⟨_, rfl⟩
  have hτ : Rel t σ (xu σ1 25 0 v) := Rel.rows h (fun k k1 k2 => by rw [xu_other (by omega)]; exact nk k (by omega) (by omega) (by omega) (by omega) (by omega) (by omega)) (fun _ _ => rfl)
  have hτ1 : Rel t σ (xu (xu σ1 25 0 v) 14 0 0) := hτ
  obtain ⟨τ1, hτ1e⟩ : ∃ τ1, τ1 = xu (xu σ1 25 0 v) 14 0 0 := ⟨_, rfl⟩
  rw [← hτ1e] at hτ1
  have m15 : τ1 15 = σ 9 := hτ1.eq.1
  have m18 : τ1 18 = σ 18 := by rw [hτ1e]; exact nk 18 (by decide) (by decide) (by decide) (by decide) (by decide) (by decide)
  have m147 : τ1 14 7 = σ 14 7 := by rw [hτ1e]; exact congrFun (nk 14 (by decide) (by decide) (by decide) (by decide) (by decide) (by decide)) 7
  obtain ⟨l, hl⟩ : ∃ l, l = L.filter fun p => σ 9 p == nI u := ⟨_, rfl⟩
  have hl' : (L.filter fun p => τ1 15 p == nI u) = l := by rw [m15, hl]
  have hlen : l.length ≤ 192 := by
    have h1 := hL.len
    have h2 := List.length_filter_le (fun p => σ 9 p == nI u) L
    rw [← hl] at h2; omega
  have hown : rOwn (xu σ1 25 0 v) (nI u) = l.length := by
    rw [rOwn_eq hτ, hl, ← List.countP_eq_length_filter]
    exact hL.cnt (fun p => σ 9 p == nI u) (fun p _ hp => by
      have : σ 9 p = nI u := by simpa using hp
      rw [this]; exact nI_m1 (by omega))
  obtain ⟨a1, a2, a3, a4, a5⟩ := hu_sim hu hp.1 ru l L τ1 (192 * (t : Int)) (OLm.of (s12 := σ 12) (n6 := σ 7 6) (by rw [m15, m18, m147]; exact hL)) hl' (by omega)
  have hm21 : xu σ1 25 0 v 21 (xn (nI u)) = nI r := by
    rw [xb, congrFun hτ.eq.2.2.2.1 u, h3u]
  have hw0 : rWr (xu σ1 25 0 v) (nI u) = 0 := rWr_ok hτ hu tu h0 hd
  obtain ⟨T, hT⟩ : ∃ T, T = rHuF (nI u) (nI r) l.length τ1 := ⟨_, rfl⟩
  rw [← hT] at a2 a3 a4 a5
  have hT1 : rHu1 (xu σ1 25 0 v) (nI u) = T := by rw [rHu1, hm21, hw0, hown, ← hτ1e, hT]
  obtain ⟨ρ, hρ⟩ : ∃ ρ, ρ = xu (xup (xu T 24 r (T 24 r + T 24 u)) 21 (fun b => if (0 ≤ b ∧ b < 0 + 40) ∧ ¬ T 20 b = 0 ∧ T 21 b = nI u then nI r else T 21 b)) 20 u 0 := ⟨_, rfl⟩
  have hS2 : rHuS (xu σ1 25 0 v) (nI u) = ρ := by
    rw [rHuS, rHu2, hm21, hT1, xb, xr, rHpF_eq, hρ]; rfl
  have z20 : ∀ b, ρ 20 b = if b = u then 0 else T 20 b := fun b => by rw [hρ]; rfl
  have z21 : ∀ b, ρ 21 b = if (0 ≤ b ∧ b < 0 + 40) ∧ ¬ T 20 b = 0 ∧ T 21 b = nI u then nI r else T 21 b := fun b => by rw [hρ]; rfl
  have z24 : ∀ b, ρ 24 b = if b = r then T 24 r + T 24 u else T 24 b := fun b => by rw [hρ]; rfl
  have zk : ∀ k, ¬ k = 20 → ¬ k = 21 → ¬ k = 24 → ρ k = T k := fun k k1 k2 k3 => by rw [hρ, xu_other k1, xup_ne k2, xu_other k3]
  have T20 : T 20 = τ1 20 := a4 20 (by decide) (by decide) (by decide)
  have T21 : T 21 = σ 3 := (a4 21 (by decide) (by decide) (by decide)).trans hτ1.eq.2.2.2.1
  have T24 : T 24 = σ 5 := (a4 24 (by decide) (by decide) (by decide)).trans hτ1.eq.2.2.2.2.2.1
  have hmem : ∀ p, p < 192 → (p ∈ l ↔ σ 9 p = nI u) := fun p hp => by
    rw [hl, List.mem_filter]
    constructor
    · intro q; simpa using q.2
    · intro q
      exact ⟨(hL.2.2.1 p).mpr ⟨hp, by rw [q]; exact nI_m1 (by omega)⟩, by simp [q]⟩
  have ho' : ∀ p, o p = if p ∈ l then nI r else σ 9 p := fun p => by rw [ho p, ← hl]
  have hE : EQ σ1 ρ := by
    obtain ⟨q1, q2, q3, q4, q5, q6, q7, q8⟩ := hτ1.eq
    have n0 := nk 0 (by decide) (by decide) (by decide) (by decide) (by decide) (by decide)
    have n4 := nk 4 (by decide) (by decide) (by decide) (by decide) (by decide) (by decide)
    have n7 := nk 7 (by decide) (by decide) (by decide) (by decide) (by decide) (by decide)
    have n8 := nk 8 (by decide) (by decide) (by decide) (by decide) (by decide) (by decide)
    have n11 := nk 11 (by decide) (by decide) (by decide) (by decide) (by decide) (by decide)
    refine ⟨?_, ?_, ?_, ?_, ?_, ?_, ?_, ?_⟩
    · rw [zk 15 (by decide) (by decide) (by decide), n9]
      funext p
      rw [a3 p, ho' p, q1]
    · rw [zk 16 (by decide) (by decide) (by decide), a4 16 (by decide) (by decide) (by decide), n8]; exact q2
    · rw [zk 19 (by decide) (by decide) (by decide), a4 19 (by decide) (by decide) (by decide), n11]; exact q3
    · funext b
      rw [z21 b, n3 b, T20, T21]
      by_cases e : b < 40 ∧ thr (σ 2) b = true ∧ ¬ b = u ∧ σ 3 b = nI u
      · have := hτ1.tm.th e.1
        rw [e.2.1] at this
        rw [if_pos e, if_pos ⟨by omega, by simpa using this, e.2.2.2⟩]
      · rw [if_neg e, if_neg (fun q => e ?_)]
        have hb : b < 40 := by have := q.1.2; omega
        refine ⟨hb, ?_, fun eb => ?_, q.2.2⟩
        · rw [← hτ1.tm.th hb]; simp [q.2.1]
        · have := q.2.2
          rw [eb, h3u] at this
          exact ru ((nI_eq (by have := hp.1; omega) (by omega)).mp this)
    · rw [zk 22 (by decide) (by decide) (by decide), a4 22 (by decide) (by decide) (by decide), n4]; exact q5
    · funext b
      rw [z24 b, n5 b, T24]
    · rw [zk 14 (by decide) (by decide) (by decide), a5 13 (by decide), n0]; exact q7
    · rw [zk 14 (by decide) (by decide) (by decide), a5 6 (by decide), n7]; exact q8
  have n4 := nk 4 (by decide) (by decide) (by decide) (by decide) (by decide) (by decide)
  have n6 := nk 6 (by decide) (by decide) (by decide) (by decide) (by decide) (by decide)
  have n8 := nk 8 (by decide) (by decide) (by decide) (by decide) (by decide) (by decide)
  have n10 := nk 10 (by decide) (by decide) (by decide) (by decide) (by decide) (by decide)
  obtain ⟨d1, d2⟩ := RC.merge (σ' := σ1) (τ' := ρ) hτ1.rc (Rel.di h) hu tu hu0 hd hr n2 n3 n5 (fun p hp => by
    rw [n9, ho' p]
    by_cases e : σ 9 p = nI u
    · rw [if_pos e, if_pos ((hmem p hp).mpr e)]
    · rw [if_neg e, if_neg (fun q => e ((hmem p hp).mp q))]) n4 n6 n8 n10 hE (by rw [zk 17 (by decide) (by decide) (by decide), a4 17 (by decide) (by decide) (by decide)]) (fun b => by rw [z20 b, T20]) (by rw [zk 23 (by decide) (by decide) (by decide), a4 23 (by decide) (by decide) (by decide)])
  have d3 : OL (σ1 9) (σ1 12) (ρ 18) (σ1 7 6) (ρ 14 7) (t + 1) := by
    have n7 := nk 7 (by decide) (by decide) (by decide) (by decide) (by decide) (by decide)
    have e15 : T 15 = σ1 9 := by rw [← zk 15 (by decide) (by decide) (by decide)]; exact hE.1
    have hf' := hf
    rw [← hl] at hf'
    rw [m15] at a2
    have hlen2 : ((L.filter fun p => !(σ 9 p == nI u)) ++ l).length = L.length := by
      rw [List.length_append, hl, ← List.countP_eq_length_filter, ← List.countP_eq_length_filter]
      have := List.length_eq_countP_add_countP (fun p => σ 9 p == nI u) (l := L)
      have e2 : L.countP (fun p => !(σ 9 p == nI u)) = L.countP (fun a => decide ¬ (σ 9 a == nI u) = true) := by
        refine List.countP_congr fun p _ => ?_
        cases hq : (σ 9 p == nI u)
        · simp
        · simp
      rw [e2]; omega
    refine ⟨(L.filter fun p => !(σ 9 p == nI u)) ++ l, ?_, ?_, ?_, ?_, ?_, ?_, ?_⟩
    · rw [n7, hL.1, hlen2]
    · rw [n12]; exact hf'
    · rw [← e15]; exact a2.2.2.1
    · rw [zk 18 (by decide) (by decide) (by decide)]; exact a2.2.2.2.1
    · rw [zk 18 (by decide) (by decide) (by decide), zk 14 (by decide) (by decide) (by decide)]; exact a2.2.2.2.2.1
    · rw [zk 14 (by decide) (by decide) (by decide)]; exact a2.2.2.2.2.2.1
    · rw [zk 14 (by decide) (by decide) (by decide)]
      have := a2.2.2.2.2.2.2
      omega
  refine stp_ok (v := v) (σ1 := σ1) (ρ := ρ) (c_B_handUp hoo hh) ?_ (c_M_handUp (fun _ => ?_) (fun _ k hk => ?_)) ?_ ?_ ?_ trivial ?_
  · rw [cHandUp, if_neg hB, if_neg h0, if_pos (bz0 (by rw [tDy, xb]; simpa using hd)), xb, h3u, hga, hmg, hv]
  · rw [hm21]; exact vp_in_nI hp.1 (by decide)
  · rw [hown] at hk
    rw [hm21, hw0, ← hτ1e]; exact a1 k hk
  · rw [rHandUp, hS2, hw0, if_pos (c00 _), rOwn_eq hτ, hv]
  · rw [zk 14 (by decide) (by decide) (by decide), a5 0 (by decide), hτ1e]; rfl
  · rw [zk 25 (by decide) (by decide) (by decide), a4 25 (by decide) (by decide) (by decide), hτ1e]; rfl
  · exact Rel.rows (RC.rel d1 d2 d3) (fun _ _ _ => rfl) (fun k hk => by
      rw [zk k (by omega) (by omega) (by omega), a4 k (by omega) (by omega) (by omega), hτ1e, xu_other (by omega), xu_other (by omega)])
end Ops7
