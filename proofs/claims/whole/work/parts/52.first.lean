/-! the start -/
theorem inv0 : Inv 0 xsM := by
  have r2 : ∀ b, xsM 2 b = if b = 0 then 0 else if b < 40 then 3 else 0 := fun _ => rfl
  have r3 : ∀ b, xsM 3 b = if b = 0 then -1 else 0 := fun _ => rfl
  have r4 : ∀ b, xsM 4 b = if b = 0 then 192 else 0 := fun _ => rfl
  have r5 : ∀ b, xsM 5 b = 0 := fun _ => rfl
  have r6 : ∀ b, xsM 6 b = 0 := fun _ => rfl
  have r8 : ∀ b, xsM 8 b = 0 := fun _ => rfl
  have r9 : ∀ b, xsM 9 b = if b < 192 then -1 else 0 := fun _ => rfl
  have r20 : ∀ b, xsM 20 b = if b = 0 then 1 else 0 := fun _ => rfl
  have r23 : ∀ b, xsM 23 b = 0 := fun _ => rfl
  have e0 : (0 : Int32).toInt = 0 := by decide
  have th0 : ∀ b, b < 40 → thr (xsM 2) b = true → b = 0 := fun b hb tb => by
    rw [thr_iff, r2 b] at tb
    by_cases e : b = 0
    · exact e
    · rw [if_neg e, if_pos hb] at tb; exact absurd rfl tb
  have t0 : thr (xsM 2) 0 = true := by rw [thr_iff, r2 0, if_pos rfl]; decide
  have ow0 : ∀ c, c < 40 → ow (xsM 9) c = 0 := fun c hc => xcn_all0 fun p hp => by
    have n1 := nI_m1 (show c < 2 ^ 31 by omega)
    rw [r9 p, if_pos hp]
    exact beq_eq_false_iff_ne.mpr fun e => n1 e.symm
  refine ⟨⟨rfl, rfl, rfl, rfl, rfl, rfl, rfl, rfl⟩, ?_, ⟨⟨t0, ?_, ?_⟩, rfl, ?_, ?_⟩, ⟨rfl, ?_⟩, ?_, ?_, ?_, ?_, ?_, ?_, ⟨[], ?_⟩⟩
  · intro b hb
    rw [r20 b, r23 b, r2 b]
    by_cases e : b = 0
    · rw [if_pos e, if_pos e]; exact Or.inr ⟨rfl, rfl, by decide⟩
    · rw [if_neg e, if_neg e, if_pos hb]; exact Or.inl ⟨rfl, rfl⟩
  · exact fun b hb tb b0 => absurd (th0 b hb tb) b0
  · exact fun b hb tb => Or.inl (th0 b hb tb)
  · exact fun b hb tb b0 => absurd (th0 b hb tb) b0
  · intro b hb
    rw [r3 b]
    by_cases e : b = 0
    · rw [if_pos e]; exact Or.inl rfl
    · rw [if_neg e]; exact Or.inr (vp_in_nI (n := 0) (N := 40) (by decide) (by decide))
  · intro b hb
    rw [r2 b]
    by_cases e : b = 0
    · rw [if_pos e]; exact Or.inl rfl
    · rw [if_neg e, if_pos hb]; exact Or.inr (Or.inr (Or.inr rfl))
  · intro b hb tb
    rw [r5 b, r6 b, r4 b, th0 b hb tb, if_pos rfl]; decide
  · intro b hb tb
    rw [r6 b, usum, xsum_congr (g := fun _ => 0) fun c hc => by rw [wt, ow0 c hc, r5 c, e0]; simp, xsum_0]; rfl
  · intro b hb h2
    refine ⟨rfl, fun c hc tc c0 _ => absurd (th0 c hc tc) c0⟩
  · intro p hp
    rw [r9 p, if_pos hp]; exact Or.inl rfl
  · intro p hp
    rw [r8 p, e0, r9 p, if_pos hp]
    exact ⟨by decide, by decide, fun hh => absurd rfl hh⟩
  · intro p hp hn
    rw [r9 p, if_pos hp] at hn; exact absurd rfl hn
  · refine ⟨rfl, fun i p hp => by simp at hp, fun p => ⟨fun hp => absurd hp List.not_mem_nil, fun hp => ?_⟩, List.Pairwise.nil, fun p hp => absurd hp List.not_mem_nil, by decide, by decide⟩
    have hh := hp.2
    rw [r9 p, if_pos hp.1] at hh; exact absurd rfl hh
theorem lawSteps (E : xE) : lawS E Inv :=
  ⟨fun _ _ x y _ h => s_bank x y h, fun _ _ x ht h => s_buy x ht h, fun _ _ x y ht h => s_buyRun x y ht h, fun _ _ x y _ h => s_runKey x y h, fun _ _ x _ h => s_sell x h, fun _ _ x _ h => s_weak x h, fun _ _ x y _ h => s_read x y h, fun _ _ x y z _ h => s_write x y z h, fun _ _ x y ht h => s_move x y ht h, fun _ _ x y _ h => s_limit x y h, fun _ _ x y _ h => s_reserve x y h, fun _ _ x y _ h => s_unreserve x y h, fun _ _ x y _ h => s_freeze x y h, fun _ _ x _ h => s_destroy x h, fun _ _ x _ h => s_work x h, fun _ _ x ht h => s_handUp x ht h, fun _ _ x y _ h => s_told x y h, fun _ _ x y _ h => s_page x y h, fun _ _ x _ h => s_owner x h, fun _ _ x _ h => s_isAlive x h, fun _ _ _ h => s_refused h, fun _ _ x _ h => s_count x h, fun _ _ _ h => s_astray h⟩
theorem lawAll0 (E : xE) (hs : xsL E ≤ 2048) : XR E i_L_law 13 538 6767 lawP 0 [.ref (xsb E)] [] (0, 0, xz0) := law_body (lawSteps E) hs (fun _ _ h => Rel.up h) inv0
