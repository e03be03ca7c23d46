/-! the law's helpers: what the class throws becomes a number -/
def hf : List String → Nat → String → Int32
  | [], _, _ => 0
  | a :: l, k, X => if X = a then nI k else hf l (k + 1) X
def hpC (f : String → Int32) : xO → Int32
  | .inr X => f X
  | .inl _ => 0
def hpS : xO × xS → xS
  | (.inl (some (.int v)), σ) => xu σ 25 0 v
  | (_, σ) => σ
theorem hpC_x {f : String → Int32} {r : xO × xS} {X : String} (h : r.1 = .inr X) : hpC f r.1 = f X := by rw [h]; rfl
theorem hpC_v {f : String → Int32} {r : xO × xS} {v : Option Value} (h : r.1 = .inl v) : hpC f r.1 = 0 := by rw [h]; rfl
theorem hpS_x {r : xO × xS} {X : String} (h : r.1 = .inr X) : hpS r = r.2 := by
  obtain ⟨a, b⟩ := r
  cases h; rfl
theorem hpS_v {r : xO × xS} {v : Int32} (h : r.1 = .inl (some (.int v))) : hpS r = xu r.2 25 0 v := by
  obtain ⟨a, b⟩ := r
  cases h; rfl
section XLaw1
variable {E : xE} {σ : xS} {x y z : Int32} {r : xO × xS}
theorem c_L_bank (hM : XC E i_B_bank 8 0 0 [.ref (xB E + 0), .int x, .int y] (xm σ) (xfn r)) (hX : ∀ X, r.1 = .inr X → X = eI ∨ X = eA ∨ X = eS ∨ X = eU) (hV : ∀ v, r.1 = .inl v → ∃ k, v = some (.int k)) : XC E i_L_bank 10 1 6 [.ref (xB E + 0), .int x, .int y, .ref (xB E + 25)] (xm σ) (fun o w => o = .inl (some (.int (hpC (hf [eI, eA, eS, eU] 1) r.1))) ∧ w = xm (hpS r)) := by
  refine XC.ofF (by decide +kernel) cd_L_bank rfl (xle rfl) ?_
  refine XR.aload_n d_L_bank_0 rfl ?_
  refine XR.iconst d_L_bank_1 (v := nI 0) (by decide) ?_
  refine XR.aload_n d_L_bank_2 rfl ?_
  refine XR.iload_n d_L_bank_3 rfl ?_
  refine XR.iload_n d_L_bank_4 rfl ?_
  skip
  refine XR.callV (as := [_, _]) d_L_bank_5 l_L_7 kv_B_bank.1 kv_B_bank.2.1 kv_B_bank.2.2.1 kv_B_bank.2.2.2.1 kv_B_bank.2.2.2.2.1 rfl (xle rfl) rfl rfl kv_B_bank.2.2.2.2.2 rfl hM (xle rfl) (xle rfl) (Nat.zero_le _) (Nat.zero_le _) (fun v w1 hw => ?_) (fun X w1 hw => ?_)
  · obtain ⟨h1, rfl⟩ := hw
    obtain ⟨k, rfl⟩ := hV v h1.symm
    refine XR.i2l d_L_bank_8 ?_
    refine XR.lastore d_L_bank_9 (xle rfl) (fun _ => rfl) (vp_in_nI (by decide) (by decide)) ?_
    refine XR.goto d_L_bank_10 (tgt := 29) (by decide) ?_
    refine XR.iconst d_L_bank_29 (v := 0) (by decide) ?_
    refine XR.xreturn d_L_bank_30 rfl ?_
    exact ⟨by rw [hpC_v h1.symm], by rw [hpS_v h1.symm]; rfl⟩
  · obtain ⟨h1, rfl⟩ := hw
    rcases hX X h1.symm with rfl | rfl | rfl | rfl
    · refine XT.catch (tgt := 13) ⟨by decide, by decide, by decide, _, c_L_13, Or.inl ⟨ca_IndexOutOfBoundsException, rfl⟩⟩ (fun a => ?_)
      refine XR.astore d_L_bank_13 (xle rfl) rfl ?_
      refine XR.iconst d_L_bank_15 (v := nI 1) (by decide) ?_
      refine XR.xreturn d_L_bank_16 rfl ?_
      exact ⟨by rw [hpC_x h1.symm]; rfl, by rw [hpS_x h1.symm]⟩
    · refine XT.catch (tgt := 17) ⟨by decide, by decide, by decide, _, c_L_13, Or.inr ⟨nc_IllegalArgumentException_IndexOutOfBoundsException, ⟨by decide, by decide, by decide, _, c_L_15, Or.inl ⟨ca_IllegalArgumentException, rfl⟩⟩⟩⟩ (fun a => ?_)
      refine XR.astore d_L_bank_17 (xle rfl) rfl ?_
      refine XR.iconst d_L_bank_19 (v := nI 2) (by decide) ?_
      refine XR.xreturn d_L_bank_20 rfl ?_
      exact ⟨by rw [hpC_x h1.symm]; rfl, by rw [hpS_x h1.symm]⟩
    · refine XT.catch (tgt := 21) ⟨by decide, by decide, by decide, _, c_L_13, Or.inr ⟨nc_IllegalStateException_IndexOutOfBoundsException, ⟨by decide, by decide, by decide, _, c_L_15, Or.inr ⟨nc_IllegalStateException_IllegalArgumentException, ⟨by decide, by decide, by decide, _, c_L_17, Or.inl ⟨ca_IllegalStateException, rfl⟩⟩⟩⟩⟩⟩ (fun a => ?_)
      refine XR.astore d_L_bank_21 (xle rfl) rfl ?_
      refine XR.iconst d_L_bank_23 (v := nI 3) (by decide) ?_
      refine XR.xreturn d_L_bank_24 rfl ?_
      exact ⟨by rw [hpC_x h1.symm]; rfl, by rw [hpS_x h1.symm]⟩
    · refine XT.catch (tgt := 25) ⟨by decide, by decide, by decide, _, c_L_13, Or.inr ⟨nc_UnsupportedOperationException_IndexOutOfBoundsException, ⟨by decide, by decide, by decide, _, c_L_15, Or.inr ⟨nc_UnsupportedOperationException_IllegalArgumentException, ⟨by decide, by decide, by decide, _, c_L_17, Or.inr ⟨nc_UnsupportedOperationException_IllegalStateException, ⟨by decide, by decide, by decide, _, c_L_19, Or.inl ⟨ca_UnsupportedOperationException, rfl⟩⟩⟩⟩⟩⟩⟩⟩ (fun a => ?_)
      refine XR.astore d_L_bank_25 (xle rfl) rfl ?_
      refine XR.iconst d_L_bank_27 (v := nI 4) (by decide) ?_
      refine XR.xreturn d_L_bank_28 rfl ?_
      exact ⟨by rw [hpC_x h1.symm]; rfl, by rw [hpS_x h1.symm]⟩
theorem c_L_buy (hM : XC E i_B_buy 9 0 0 [.ref (xB E + 0), .int x] (xm σ) (xfn r)) (hX : ∀ X, r.1 = .inr X → X = eI ∨ X = eS ∨ X = eU) (hV : ∀ v, r.1 = .inl v → ∃ k, v = some (.int k)) : XC E i_L_buy 10 1 6 [.ref (xB E + 0), .int x, .ref (xB E + 25)] (xm σ) (fun o w => o = .inl (some (.int (hpC (hf [eI, eS, eU] 1) r.1))) ∧ w = xm (hpS r)) := by
  refine XC.ofF (by decide +kernel) cd_L_buy rfl (xle rfl) ?_
  refine XR.aload_n d_L_buy_0 rfl ?_
  refine XR.iconst d_L_buy_1 (v := nI 0) (by decide) ?_
  refine XR.aload_n d_L_buy_2 rfl ?_
  refine XR.iload_n d_L_buy_3 rfl ?_
  skip
  refine XR.callV (as := [_]) d_L_buy_4 l_L_21 kv_B_buy.1 kv_B_buy.2.1 kv_B_buy.2.2.1 kv_B_buy.2.2.2.1 kv_B_buy.2.2.2.2.1 rfl (xle rfl) rfl rfl kv_B_buy.2.2.2.2.2 rfl hM (xle rfl) (xle rfl) (Nat.zero_le _) (Nat.zero_le _) (fun v w1 hw => ?_) (fun X w1 hw => ?_)
  · obtain ⟨h1, rfl⟩ := hw
    obtain ⟨k, rfl⟩ := hV v h1.symm
    refine XR.i2l d_L_buy_7 ?_
    refine XR.lastore d_L_buy_8 (xle rfl) (fun _ => rfl) (vp_in_nI (by decide) (by decide)) ?_
    refine XR.goto d_L_buy_9 (tgt := 21) (by decide) ?_
    refine XR.iconst d_L_buy_21 (v := 0) (by decide) ?_
    refine XR.xreturn d_L_buy_22 rfl ?_
    exact ⟨by rw [hpC_v h1.symm], by rw [hpS_v h1.symm]; rfl⟩
  · obtain ⟨h1, rfl⟩ := hw
    rcases hX X h1.symm with rfl | rfl | rfl
    · refine XT.catch (tgt := 12) ⟨by decide, by decide, by decide, _, c_L_13, Or.inl ⟨ca_IndexOutOfBoundsException, rfl⟩⟩ (fun a => ?_)
      refine XR.astore_n d_L_buy_12 (xle rfl) rfl ?_
      refine XR.iconst d_L_buy_13 (v := nI 1) (by decide) ?_
      refine XR.xreturn d_L_buy_14 rfl ?_
      exact ⟨by rw [hpC_x h1.symm]; rfl, by rw [hpS_x h1.symm]⟩
    · refine XT.catch (tgt := 15) ⟨by decide, by decide, by decide, _, c_L_13, Or.inr ⟨nc_IllegalStateException_IndexOutOfBoundsException, ⟨by decide, by decide, by decide, _, c_L_17, Or.inl ⟨ca_IllegalStateException, rfl⟩⟩⟩⟩ (fun a => ?_)
      refine XR.astore_n d_L_buy_15 (xle rfl) rfl ?_
      refine XR.iconst d_L_buy_16 (v := nI 2) (by decide) ?_
      refine XR.xreturn d_L_buy_17 rfl ?_
      exact ⟨by rw [hpC_x h1.symm]; rfl, by rw [hpS_x h1.symm]⟩
    · refine XT.catch (tgt := 18) ⟨by decide, by decide, by decide, _, c_L_13, Or.inr ⟨nc_UnsupportedOperationException_IndexOutOfBoundsException, ⟨by decide, by decide, by decide, _, c_L_17, Or.inr ⟨nc_UnsupportedOperationException_IllegalStateException, ⟨by decide, by decide, by decide, _, c_L_19, Or.inl ⟨ca_UnsupportedOperationException, rfl⟩⟩⟩⟩⟩⟩ (fun a => ?_)
      refine XR.astore_n d_L_buy_18 (xle rfl) rfl ?_
      refine XR.iconst d_L_buy_19 (v := nI 3) (by decide) ?_
      refine XR.xreturn d_L_buy_20 rfl ?_
      exact ⟨by rw [hpC_x h1.symm]; rfl, by rw [hpS_x h1.symm]⟩
theorem c_L_buyRun (hM : XC E i_B_buyRun 9 0 0 [.ref (xB E + 0), .int x, .int y] (xm σ) (xfn r)) (hX : ∀ X, r.1 = .inr X → X = eI ∨ X = eA ∨ X = eS ∨ X = eU) (hV : ∀ v, r.1 = .inl v → ∃ k, v = some (.int k)) : XC E i_L_buyRun 10 1 6 [.ref (xB E + 0), .int x, .int y, .ref (xB E + 25)] (xm σ) (fun o w => o = .inl (some (.int (hpC (hf [eI, eA, eS, eU] 1) r.1))) ∧ w = xm (hpS r)) := by
  refine XC.ofF (by decide +kernel) cd_L_buyRun rfl (xle rfl) ?_
  refine XR.aload_n d_L_buyRun_0 rfl ?_
  refine XR.iconst d_L_buyRun_1 (v := nI 0) (by decide) ?_
  refine XR.aload_n d_L_buyRun_2 rfl ?_
  refine XR.iload_n d_L_buyRun_3 rfl ?_
  refine XR.iload_n d_L_buyRun_4 rfl ?_
  skip
  refine XR.callV (as := [_, _]) d_L_buyRun_5 l_L_25 kv_B_buyRun.1 kv_B_buyRun.2.1 kv_B_buyRun.2.2.1 kv_B_buyRun.2.2.2.1 kv_B_buyRun.2.2.2.2.1 rfl (xle rfl) rfl rfl kv_B_buyRun.2.2.2.2.2 rfl hM (xle rfl) (xle rfl) (Nat.zero_le _) (Nat.zero_le _) (fun v w1 hw => ?_) (fun X w1 hw => ?_)
  · obtain ⟨h1, rfl⟩ := hw
    obtain ⟨k, rfl⟩ := hV v h1.symm
    refine XR.i2l d_L_buyRun_8 ?_
    refine XR.lastore d_L_buyRun_9 (xle rfl) (fun _ => rfl) (vp_in_nI (by decide) (by decide)) ?_
    refine XR.goto d_L_buyRun_10 (tgt := 29) (by decide) ?_
    refine XR.iconst d_L_buyRun_29 (v := 0) (by decide) ?_
    refine XR.xreturn d_L_buyRun_30 rfl ?_
    exact ⟨by rw [hpC_v h1.symm], by rw [hpS_v h1.symm]; rfl⟩
  · obtain ⟨h1, rfl⟩ := hw
    rcases hX X h1.symm with rfl | rfl | rfl | rfl
    · refine XT.catch (tgt := 13) ⟨by decide, by decide, by decide, _, c_L_13, Or.inl ⟨ca_IndexOutOfBoundsException, rfl⟩⟩ (fun a => ?_)
      refine XR.astore d_L_buyRun_13 (xle rfl) rfl ?_
      refine XR.iconst d_L_buyRun_15 (v := nI 1) (by decide) ?_
      refine XR.xreturn d_L_buyRun_16 rfl ?_
      exact ⟨by rw [hpC_x h1.symm]; rfl, by rw [hpS_x h1.symm]⟩
    · refine XT.catch (tgt := 17) ⟨by decide, by decide, by decide, _, c_L_13, Or.inr ⟨nc_IllegalArgumentException_IndexOutOfBoundsException, ⟨by decide, by decide, by decide, _, c_L_15, Or.inl ⟨ca_IllegalArgumentException, rfl⟩⟩⟩⟩ (fun a => ?_)
      refine XR.astore d_L_buyRun_17 (xle rfl) rfl ?_
      refine XR.iconst d_L_buyRun_19 (v := nI 2) (by decide) ?_
      refine XR.xreturn d_L_buyRun_20 rfl ?_
      exact ⟨by rw [hpC_x h1.symm]; rfl, by rw [hpS_x h1.symm]⟩
    · refine XT.catch (tgt := 21) ⟨by decide, by decide, by decide, _, c_L_13, Or.inr ⟨nc_IllegalStateException_IndexOutOfBoundsException, ⟨by decide, by decide, by decide, _, c_L_15, Or.inr ⟨nc_IllegalStateException_IllegalArgumentException, ⟨by decide, by decide, by decide, _, c_L_17, Or.inl ⟨ca_IllegalStateException, rfl⟩⟩⟩⟩⟩⟩ (fun a => ?_)
      refine XR.astore d_L_buyRun_21 (xle rfl) rfl ?_
      refine XR.iconst d_L_buyRun_23 (v := nI 3) (by decide) ?_
      refine XR.xreturn d_L_buyRun_24 rfl ?_
      exact ⟨by rw [hpC_x h1.symm]; rfl, by rw [hpS_x h1.symm]⟩
    · refine XT.catch (tgt := 25) ⟨by decide, by decide, by decide, _, c_L_13, Or.inr ⟨nc_UnsupportedOperationException_IndexOutOfBoundsException, ⟨by decide, by decide, by decide, _, c_L_15, Or.inr ⟨nc_UnsupportedOperationException_IllegalArgumentException, ⟨by decide, by decide, by decide, _, c_L_17, Or.inr ⟨nc_UnsupportedOperationException_IllegalStateException, ⟨by decide, by decide, by decide, _, c_L_19, Or.inl ⟨ca_UnsupportedOperationException, rfl⟩⟩⟩⟩⟩⟩⟩⟩ (fun a => ?_)
      refine XR.astore d_L_buyRun_25 (xle rfl) rfl ?_
      refine XR.iconst d_L_buyRun_27 (v := nI 4) (by decide) ?_
      refine XR.xreturn d_L_buyRun_28 rfl ?_
      exact ⟨by rw [hpC_x h1.symm]; rfl, by rw [hpS_x h1.symm]⟩
theorem c_L_runKey (hM : XC E i_B_runKey 7 0 0 [.ref (xB E + 0), .int x, .int y] (xm σ) (xfn r)) (hX : ∀ X, r.1 = .inr X → X = eN ∨ X = eA) (hV : ∀ v, r.1 = .inl v → ∃ k, v = some (.int k)) : XC E i_L_runKey 10 1 6 [.ref (xB E + 0), .int x, .int y, .ref (xB E + 25)] (xm σ) (fun o w => o = .inl (some (.int (hpC (hf [eN, eA] 1) r.1))) ∧ w = xm (hpS r)) := by
  refine XC.ofF (by decide +kernel) cd_L_runKey rfl (xle rfl) ?_
  refine XR.aload_n d_L_runKey_0 rfl ?_
  refine XR.iconst d_L_runKey_1 (v := nI 0) (by decide) ?_
  refine XR.aload_n d_L_runKey_2 rfl ?_
  refine XR.iload_n d_L_runKey_3 rfl ?_
  refine XR.iload_n d_L_runKey_4 rfl ?_
  skip
  refine XR.callV (as := [_, _]) d_L_runKey_5 l_L_28 kv_B_runKey.1 kv_B_runKey.2.1 kv_B_runKey.2.2.1 kv_B_runKey.2.2.2.1 kv_B_runKey.2.2.2.2.1 rfl (xle rfl) rfl rfl kv_B_runKey.2.2.2.2.2 rfl hM (xle rfl) (xle rfl) (Nat.zero_le _) (Nat.zero_le _) (fun v w1 hw => ?_) (fun X w1 hw => ?_)
  · obtain ⟨h1, rfl⟩ := hw
    obtain ⟨k, rfl⟩ := hV v h1.symm
    refine XR.i2l d_L_runKey_8 ?_
    refine XR.lastore d_L_runKey_9 (xle rfl) (fun _ => rfl) (vp_in_nI (by decide) (by decide)) ?_
    refine XR.goto d_L_runKey_10 (tgt := 21) (by decide) ?_
    refine XR.iconst d_L_runKey_21 (v := 0) (by decide) ?_
    refine XR.xreturn d_L_runKey_22 rfl ?_
    exact ⟨by rw [hpC_v h1.symm], by rw [hpS_v h1.symm]; rfl⟩
  · obtain ⟨h1, rfl⟩ := hw
    rcases hX X h1.symm with rfl | rfl
    · refine XT.catch (tgt := 13) ⟨by decide, by decide, by decide, _, c_L_31, Or.inl ⟨ca_NoSuchElementException, rfl⟩⟩ (fun a => ?_)
      refine XR.astore d_L_runKey_13 (xle rfl) rfl ?_
      refine XR.iconst d_L_runKey_15 (v := nI 1) (by decide) ?_
      refine XR.xreturn d_L_runKey_16 rfl ?_
      exact ⟨by rw [hpC_x h1.symm]; rfl, by rw [hpS_x h1.symm]⟩
    · refine XT.catch (tgt := 17) ⟨by decide, by decide, by decide, _, c_L_31, Or.inr ⟨nc_IllegalArgumentException_NoSuchElementException, ⟨by decide, by decide, by decide, _, c_L_15, Or.inl ⟨ca_IllegalArgumentException, rfl⟩⟩⟩⟩ (fun a => ?_)
      refine XR.astore d_L_runKey_17 (xle rfl) rfl ?_
      refine XR.iconst d_L_runKey_19 (v := nI 2) (by decide) ?_
      refine XR.xreturn d_L_runKey_20 rfl ?_
      exact ⟨by rw [hpC_x h1.symm]; rfl, by rw [hpS_x h1.symm]⟩
theorem c_L_sell (hM : XC E i_B_sell 7 0 0 [.ref (xB E + 0), .int x] (xm σ) (xfn r)) (hX : ∀ X, r.1 = .inr X → X = eN ∨ X = eA) (hV : ∀ v, r.1 = .inl v → ∃ k, v = some (.int k)) : XC E i_L_sell 10 1 6 [.ref (xB E + 0), .int x, .ref (xB E + 25)] (xm σ) (fun o w => o = .inl (some (.int (hpC (hf [eN, eA] 1) r.1))) ∧ w = xm (hpS r)) := by
  refine XC.ofF (by decide +kernel) cd_L_sell rfl (xle rfl) ?_
  refine XR.aload_n d_L_sell_0 rfl ?_
  refine XR.iconst d_L_sell_1 (v := nI 0) (by decide) ?_
  refine XR.aload_n d_L_sell_2 rfl ?_
  refine XR.iload_n d_L_sell_3 rfl ?_
  skip
  refine XR.callV (as := [_]) d_L_sell_4 l_L_33 kv_B_sell.1 kv_B_sell.2.1 kv_B_sell.2.2.1 kv_B_sell.2.2.2.1 kv_B_sell.2.2.2.2.1 rfl (xle rfl) rfl rfl kv_B_sell.2.2.2.2.2 rfl hM (xle rfl) (xle rfl) (Nat.zero_le _) (Nat.zero_le _) (fun v w1 hw => ?_) (fun X w1 hw => ?_)
  · obtain ⟨h1, rfl⟩ := hw
    obtain ⟨k, rfl⟩ := hV v h1.symm
    refine XR.i2l d_L_sell_7 ?_
    refine XR.lastore d_L_sell_8 (xle rfl) (fun _ => rfl) (vp_in_nI (by decide) (by decide)) ?_
    refine XR.goto d_L_sell_9 (tgt := 18) (by decide) ?_
    refine XR.iconst d_L_sell_18 (v := 0) (by decide) ?_
    refine XR.xreturn d_L_sell_19 rfl ?_
    exact ⟨by rw [hpC_v h1.symm], by rw [hpS_v h1.symm]; rfl⟩
  · obtain ⟨h1, rfl⟩ := hw
    rcases hX X h1.symm with rfl | rfl
    · refine XT.catch (tgt := 12) ⟨by decide, by decide, by decide, _, c_L_31, Or.inl ⟨ca_NoSuchElementException, rfl⟩⟩ (fun a => ?_)
      refine XR.astore_n d_L_sell_12 (xle rfl) rfl ?_
      refine XR.iconst d_L_sell_13 (v := nI 1) (by decide) ?_
      refine XR.xreturn d_L_sell_14 rfl ?_
      exact ⟨by rw [hpC_x h1.symm]; rfl, by rw [hpS_x h1.symm]⟩
    · refine XT.catch (tgt := 15) ⟨by decide, by decide, by decide, _, c_L_31, Or.inr ⟨nc_IllegalArgumentException_NoSuchElementException, ⟨by decide, by decide, by decide, _, c_L_15, Or.inl ⟨ca_IllegalArgumentException, rfl⟩⟩⟩⟩ (fun a => ?_)
      refine XR.astore_n d_L_sell_15 (xle rfl) rfl ?_
      refine XR.iconst d_L_sell_16 (v := nI 2) (by decide) ?_
      refine XR.xreturn d_L_sell_17 rfl ?_
      exact ⟨by rw [hpC_x h1.symm]; rfl, by rw [hpS_x h1.symm]⟩
theorem c_L_weak (hM : XC E i_B_weak 7 0 0 [.ref (xB E + 0), .int x] (xm σ) (xfn r)) (hX : ∀ X, r.1 = .inr X → X = eN) (hV : ∀ v, r.1 = .inl v → ∃ k, v = some (.int k)) : XC E i_L_weak 10 1 6 [.ref (xB E + 0), .int x, .ref (xB E + 25)] (xm σ) (fun o w => o = .inl (some (.int (hpC (hf [eN] 1) r.1))) ∧ w = xm (hpS r)) := by
  refine XC.ofF (by decide +kernel) cd_L_weak rfl (xle rfl) ?_
  refine XR.aload_n d_L_weak_0 rfl ?_
  refine XR.iconst d_L_weak_1 (v := nI 0) (by decide) ?_
  refine XR.aload_n d_L_weak_2 rfl ?_
  refine XR.iload_n d_L_weak_3 rfl ?_
  skip
  refine XR.callV (as := [_]) d_L_weak_4 l_L_36 kv_B_weak.1 kv_B_weak.2.1 kv_B_weak.2.2.1 kv_B_weak.2.2.2.1 kv_B_weak.2.2.2.2.1 rfl (xle rfl) rfl rfl kv_B_weak.2.2.2.2.2 rfl hM (xle rfl) (xle rfl) (Nat.zero_le _) (Nat.zero_le _) (fun v w1 hw => ?_) (fun X w1 hw => ?_)
  · obtain ⟨h1, rfl⟩ := hw
    obtain ⟨k, rfl⟩ := hV v h1.symm
    refine XR.i2l d_L_weak_7 ?_
    refine XR.lastore d_L_weak_8 (xle rfl) (fun _ => rfl) (vp_in_nI (by decide) (by decide)) ?_
    refine XR.goto d_L_weak_9 (tgt := 15) (by decide) ?_
    refine XR.iconst d_L_weak_15 (v := 0) (by decide) ?_
    refine XR.xreturn d_L_weak_16 rfl ?_
    exact ⟨by rw [hpC_v h1.symm], by rw [hpS_v h1.symm]; rfl⟩
  · obtain ⟨h1, rfl⟩ := hw
    cases hX X h1.symm
    refine XT.catch (tgt := 12) ⟨by decide, by decide, by decide, _, c_L_31, Or.inl ⟨ca_NoSuchElementException, rfl⟩⟩ (fun a => ?_)
    refine XR.astore_n d_L_weak_12 (xle rfl) rfl ?_
    refine XR.iconst d_L_weak_13 (v := nI 1) (by decide) ?_
    refine XR.xreturn d_L_weak_14 rfl ?_
    exact ⟨by rw [hpC_x h1.symm]; rfl, by rw [hpS_x h1.symm]⟩
theorem c_L_read (hM : XC E i_B_read 7 0 0 [.ref (xB E + 0), .int x, .int y] (xm σ) (xfn r)) (hX : ∀ X, r.1 = .inr X → X = eN ∨ X = eI) (hV : ∀ v, r.1 = .inl v → ∃ k, v = some (.int k)) : XC E i_L_read 10 1 6 [.ref (xB E + 0), .int x, .int y, .ref (xB E + 25)] (xm σ) (fun o w => o = .inl (some (.int (hpC (hf [eN, eI] 1) r.1))) ∧ w = xm (hpS r)) := by
  refine XC.ofF (by decide +kernel) cd_L_read rfl (xle rfl) ?_
  refine XR.aload_n d_L_read_0 rfl ?_
  refine XR.iconst d_L_read_1 (v := nI 0) (by decide) ?_
  refine XR.aload_n d_L_read_2 rfl ?_
  refine XR.iload_n d_L_read_3 rfl ?_
  refine XR.iload_n d_L_read_4 rfl ?_
  skip
  refine XR.callV (as := [_, _]) d_L_read_5 l_L_39 kv_B_read.1 kv_B_read.2.1 kv_B_read.2.2.1 kv_B_read.2.2.2.1 kv_B_read.2.2.2.2.1 rfl (xle rfl) rfl rfl kv_B_read.2.2.2.2.2 rfl hM (xle rfl) (xle rfl) (Nat.zero_le _) (Nat.zero_le _) (fun v w1 hw => ?_) (fun X w1 hw => ?_)
  · obtain ⟨h1, rfl⟩ := hw
    obtain ⟨k, rfl⟩ := hV v h1.symm
    refine XR.i2l d_L_read_8 ?_
    refine XR.lastore d_L_read_9 (xle rfl) (fun _ => rfl) (vp_in_nI (by decide) (by decide)) ?_
    refine XR.goto d_L_read_10 (tgt := 21) (by decide) ?_
    refine XR.iconst d_L_read_21 (v := 0) (by decide) ?_
    refine XR.xreturn d_L_read_22 rfl ?_
    exact ⟨by rw [hpC_v h1.symm], by rw [hpS_v h1.symm]; rfl⟩
  · obtain ⟨h1, rfl⟩ := hw
    rcases hX X h1.symm with rfl | rfl
    · refine XT.catch (tgt := 13) ⟨by decide, by decide, by decide, _, c_L_31, Or.inl ⟨ca_NoSuchElementException, rfl⟩⟩ (fun a => ?_)
      refine XR.astore d_L_read_13 (xle rfl) rfl ?_
      refine XR.iconst d_L_read_15 (v := nI 1) (by decide) ?_
      refine XR.xreturn d_L_read_16 rfl ?_
      exact ⟨by rw [hpC_x h1.symm]; rfl, by rw [hpS_x h1.symm]⟩
    · refine XT.catch (tgt := 17) ⟨by decide, by decide, by decide, _, c_L_31, Or.inr ⟨nc_IndexOutOfBoundsException_NoSuchElementException, ⟨by decide, by decide, by decide, _, c_L_13, Or.inl ⟨ca_IndexOutOfBoundsException, rfl⟩⟩⟩⟩ (fun a => ?_)
      refine XR.astore d_L_read_17 (xle rfl) rfl ?_
      refine XR.iconst d_L_read_19 (v := nI 2) (by decide) ?_
      refine XR.xreturn d_L_read_20 rfl ?_
      exact ⟨by rw [hpC_x h1.symm]; rfl, by rw [hpS_x h1.symm]⟩
theorem c_L_write (hM : XC E i_B_write 7 0 0 [.ref (xB E + 0), .int x, .int y, .int z] (xm σ) (xfn r)) (hX : ∀ X, r.1 = .inr X → X = eN ∨ X = eA ∨ X = eI) (hV : ∀ v, r.1 = .inl v → ∃ k, v = some (.int k)) : XC E i_L_write 10 1 6 [.ref (xB E + 0), .int x, .int y, .int z, .ref (xB E + 25)] (xm σ) (fun o w => o = .inl (some (.int (hpC (hf [eN, eA, eI] 1) r.1))) ∧ w = xm (hpS r)) := by
  refine XC.ofF (by decide +kernel) cd_L_write rfl (xle rfl) ?_
  refine XR.aload d_L_write_0 rfl ?_
  refine XR.iconst d_L_write_2 (v := nI 0) (by decide) ?_
  refine XR.aload_n d_L_write_3 rfl ?_
  refine XR.iload_n d_L_write_4 rfl ?_
  refine XR.iload_n d_L_write_5 rfl ?_
  refine XR.iload_n d_L_write_6 rfl ?_
  skip
  refine XR.callV (as := [_, _, _]) d_L_write_7 l_L_42 kv_B_write.1 kv_B_write.2.1 kv_B_write.2.2.1 kv_B_write.2.2.2.1 kv_B_write.2.2.2.2.1 rfl (xle rfl) rfl rfl kv_B_write.2.2.2.2.2 rfl hM (xle rfl) (xle rfl) (Nat.zero_le _) (Nat.zero_le _) (fun v w1 hw => ?_) (fun X w1 hw => ?_)
  · obtain ⟨h1, rfl⟩ := hw
    obtain ⟨k, rfl⟩ := hV v h1.symm
    refine XR.i2l d_L_write_10 ?_
    refine XR.lastore d_L_write_11 (xle rfl) (fun _ => rfl) (vp_in_nI (by decide) (by decide)) ?_
    refine XR.goto d_L_write_12 (tgt := 27) (by decide) ?_
    refine XR.iconst d_L_write_27 (v := 0) (by decide) ?_
    refine XR.xreturn d_L_write_28 rfl ?_
    exact ⟨by rw [hpC_v h1.symm], by rw [hpS_v h1.symm]; rfl⟩
  · obtain ⟨h1, rfl⟩ := hw
    rcases hX X h1.symm with rfl | rfl | rfl
    · refine XT.catch (tgt := 15) ⟨by decide, by decide, by decide, _, c_L_31, Or.inl ⟨ca_NoSuchElementException, rfl⟩⟩ (fun a => ?_)
      refine XR.astore d_L_write_15 (xle rfl) rfl ?_
      refine XR.iconst d_L_write_17 (v := nI 1) (by decide) ?_
      refine XR.xreturn d_L_write_18 rfl ?_
      exact ⟨by rw [hpC_x h1.symm]; rfl, by rw [hpS_x h1.symm]⟩
    · refine XT.catch (tgt := 19) ⟨by decide, by decide, by decide, _, c_L_31, Or.inr ⟨nc_IllegalArgumentException_NoSuchElementException, ⟨by decide, by decide, by decide, _, c_L_15, Or.inl ⟨ca_IllegalArgumentException, rfl⟩⟩⟩⟩ (fun a => ?_)
      refine XR.astore d_L_write_19 (xle rfl) rfl ?_
      refine XR.iconst d_L_write_21 (v := nI 2) (by decide) ?_
      refine XR.xreturn d_L_write_22 rfl ?_
      exact ⟨by rw [hpC_x h1.symm]; rfl, by rw [hpS_x h1.symm]⟩
    · refine XT.catch (tgt := 23) ⟨by decide, by decide, by decide, _, c_L_31, Or.inr ⟨nc_IndexOutOfBoundsException_NoSuchElementException, ⟨by decide, by decide, by decide, _, c_L_15, Or.inr ⟨nc_IndexOutOfBoundsException_IllegalArgumentException, ⟨by decide, by decide, by decide, _, c_L_13, Or.inl ⟨ca_IndexOutOfBoundsException, rfl⟩⟩⟩⟩⟩⟩ (fun a => ?_)
      refine XR.astore d_L_write_23 (xle rfl) rfl ?_
      refine XR.iconst d_L_write_25 (v := nI 3) (by decide) ?_
      refine XR.xreturn d_L_write_26 rfl ?_
      exact ⟨by rw [hpC_x h1.symm]; rfl, by rw [hpS_x h1.symm]⟩
theorem c_L_move (hM : XC E i_B_move 8 0 0 [.ref (xB E + 0), .int x, .int y] (xm σ) (xfn r)) (hX : ∀ X, r.1 = .inr X → X = eN ∨ X = eA ∨ X = eI ∨ X = eS ∨ X = eU) (hV : ∀ v, r.1 = .inl v → ∃ k, v = some (.int k)) : XC E i_L_move 10 1 6 [.ref (xB E + 0), .int x, .int y, .ref (xB E + 25)] (xm σ) (fun o w => o = .inl (some (.int (hpC (hf [eN, eA, eI, eS, eU] 1) r.1))) ∧ w = xm (hpS r)) := by
  refine XC.ofF (by decide +kernel) cd_L_move rfl (xle rfl) ?_
  refine XR.aload_n d_L_move_0 rfl ?_
  refine XR.iconst d_L_move_1 (v := nI 0) (by decide) ?_
  refine XR.aload_n d_L_move_2 rfl ?_
  refine XR.iload_n d_L_move_3 rfl ?_
  refine XR.iload_n d_L_move_4 rfl ?_
  skip
  refine XR.callV (as := [_, _]) d_L_move_5 l_L_46 kv_B_move.1 kv_B_move.2.1 kv_B_move.2.2.1 kv_B_move.2.2.2.1 kv_B_move.2.2.2.2.1 rfl (xle rfl) rfl rfl kv_B_move.2.2.2.2.2 rfl hM (xle rfl) (xle rfl) (Nat.zero_le _) (Nat.zero_le _) (fun v w1 hw => ?_) (fun X w1 hw => ?_)
  · obtain ⟨h1, rfl⟩ := hw
    obtain ⟨k, rfl⟩ := hV v h1.symm
    refine XR.i2l d_L_move_8 ?_
    refine XR.lastore d_L_move_9 (xle rfl) (fun _ => rfl) (vp_in_nI (by decide) (by decide)) ?_
    refine XR.goto d_L_move_10 (tgt := 33) (by decide) ?_
    refine XR.iconst d_L_move_33 (v := 0) (by decide) ?_
    refine XR.xreturn d_L_move_34 rfl ?_
    exact ⟨by rw [hpC_v h1.symm], by rw [hpS_v h1.symm]; rfl⟩
  · obtain ⟨h1, rfl⟩ := hw
    rcases hX X h1.symm with rfl | rfl | rfl | rfl | rfl
    · refine XT.catch (tgt := 13) ⟨by decide, by decide, by decide, _, c_L_31, Or.inl ⟨ca_NoSuchElementException, rfl⟩⟩ (fun a => ?_)
      refine XR.astore d_L_move_13 (xle rfl) rfl ?_
      refine XR.iconst d_L_move_15 (v := nI 1) (by decide) ?_
      refine XR.xreturn d_L_move_16 rfl ?_
      exact ⟨by rw [hpC_x h1.symm]; rfl, by rw [hpS_x h1.symm]⟩
    · refine XT.catch (tgt := 17) ⟨by decide, by decide, by decide, _, c_L_31, Or.inr ⟨nc_IllegalArgumentException_NoSuchElementException, ⟨by decide, by decide, by decide, _, c_L_15, Or.inl ⟨ca_IllegalArgumentException, rfl⟩⟩⟩⟩ (fun a => ?_)
      refine XR.astore d_L_move_17 (xle rfl) rfl ?_
      refine XR.iconst d_L_move_19 (v := nI 2) (by decide) ?_
      refine XR.xreturn d_L_move_20 rfl ?_
      exact ⟨by rw [hpC_x h1.symm]; rfl, by rw [hpS_x h1.symm]⟩
    · refine XT.catch (tgt := 21) ⟨by decide, by decide, by decide, _, c_L_31, Or.inr ⟨nc_IndexOutOfBoundsException_NoSuchElementException, ⟨by decide, by decide, by decide, _, c_L_15, Or.inr ⟨nc_IndexOutOfBoundsException_IllegalArgumentException, ⟨by decide, by decide, by decide, _, c_L_13, Or.inl ⟨ca_IndexOutOfBoundsException, rfl⟩⟩⟩⟩⟩⟩ (fun a => ?_)
      refine XR.astore d_L_move_21 (xle rfl) rfl ?_
      refine XR.iconst d_L_move_23 (v := nI 3) (by decide) ?_
      refine XR.xreturn d_L_move_24 rfl ?_
      exact ⟨by rw [hpC_x h1.symm]; rfl, by rw [hpS_x h1.symm]⟩
    · refine XT.catch (tgt := 25) ⟨by decide, by decide, by decide, _, c_L_31, Or.inr ⟨nc_IllegalStateException_NoSuchElementException, ⟨by decide, by decide, by decide, _, c_L_15, Or.inr ⟨nc_IllegalStateException_IllegalArgumentException, ⟨by decide, by decide, by decide, _, c_L_13, Or.inr ⟨nc_IllegalStateException_IndexOutOfBoundsException, ⟨by decide, by decide, by decide, _, c_L_17, Or.inl ⟨ca_IllegalStateException, rfl⟩⟩⟩⟩⟩⟩⟩⟩ (fun a => ?_)
      refine XR.astore d_L_move_25 (xle rfl) rfl ?_
      refine XR.iconst d_L_move_27 (v := nI 4) (by decide) ?_
      refine XR.xreturn d_L_move_28 rfl ?_
      exact ⟨by rw [hpC_x h1.symm]; rfl, by rw [hpS_x h1.symm]⟩
    · refine XT.catch (tgt := 29) ⟨by decide, by decide, by decide, _, c_L_31, Or.inr ⟨nc_UnsupportedOperationException_NoSuchElementException, ⟨by decide, by decide, by decide, _, c_L_15, Or.inr ⟨nc_UnsupportedOperationException_IllegalArgumentException, ⟨by decide, by decide, by decide, _, c_L_13, Or.inr ⟨nc_UnsupportedOperationException_IndexOutOfBoundsException, ⟨by decide, by decide, by decide, _, c_L_17, Or.inr ⟨nc_UnsupportedOperationException_IllegalStateException, ⟨by decide, by decide, by decide, _, c_L_19, Or.inl ⟨ca_UnsupportedOperationException, rfl⟩⟩⟩⟩⟩⟩⟩⟩⟩⟩ (fun a => ?_)
      refine XR.astore d_L_move_29 (xle rfl) rfl ?_
      refine XR.iconst d_L_move_31 (v := nI 5) (by decide) ?_
      refine XR.xreturn d_L_move_32 rfl ?_
      exact ⟨by rw [hpC_x h1.symm]; rfl, by rw [hpS_x h1.symm]⟩
theorem c_L_limit (hM : XC E i_B_limit 8 0 0 [.ref (xB E + 0), .int x, .int y] (xm σ) (xfn r)) (hX : ∀ X, r.1 = .inr X → X = eI ∨ X = eA ∨ X = eS) (hV : ∀ v, r.1 = .inl v → ∃ k, v = some (.int k)) : XC E i_L_limit 10 1 6 [.ref (xB E + 0), .int x, .int y, .ref (xB E + 25)] (xm σ) (fun o w => o = .inl (some (.int (hpC (hf [eI, eA, eS] 1) r.1))) ∧ w = xm (hpS r)) := by
  refine XC.ofF (by decide +kernel) cd_L_limit rfl (xle rfl) ?_
  refine XR.aload_n d_L_limit_0 rfl ?_
  refine XR.iconst d_L_limit_1 (v := nI 0) (by decide) ?_
  refine XR.aload_n d_L_limit_2 rfl ?_
  refine XR.iload_n d_L_limit_3 rfl ?_
  refine XR.iload_n d_L_limit_4 rfl ?_
  skip
  refine XR.callV (as := [_, _]) d_L_limit_5 l_L_49 kv_B_limit.1 kv_B_limit.2.1 kv_B_limit.2.2.1 kv_B_limit.2.2.2.1 kv_B_limit.2.2.2.2.1 rfl (xle rfl) rfl rfl kv_B_limit.2.2.2.2.2 rfl hM (xle rfl) (xle rfl) (Nat.zero_le _) (Nat.zero_le _) (fun v w1 hw => ?_) (fun X w1 hw => ?_)
  · obtain ⟨h1, rfl⟩ := hw
    obtain ⟨k, rfl⟩ := hV v h1.symm
    refine XR.i2l d_L_limit_8 ?_
    refine XR.lastore d_L_limit_9 (xle rfl) (fun _ => rfl) (vp_in_nI (by decide) (by decide)) ?_
    refine XR.goto d_L_limit_10 (tgt := 25) (by decide) ?_
    refine XR.iconst d_L_limit_25 (v := 0) (by decide) ?_
    refine XR.xreturn d_L_limit_26 rfl ?_
    exact ⟨by rw [hpC_v h1.symm], by rw [hpS_v h1.symm]; rfl⟩
  · obtain ⟨h1, rfl⟩ := hw
    rcases hX X h1.symm with rfl | rfl | rfl
    · refine XT.catch (tgt := 13) ⟨by decide, by decide, by decide, _, c_L_13, Or.inl ⟨ca_IndexOutOfBoundsException, rfl⟩⟩ (fun a => ?_)
      refine XR.astore d_L_limit_13 (xle rfl) rfl ?_
      refine XR.iconst d_L_limit_15 (v := nI 1) (by decide) ?_
      refine XR.xreturn d_L_limit_16 rfl ?_
      exact ⟨by rw [hpC_x h1.symm]; rfl, by rw [hpS_x h1.symm]⟩
    · refine XT.catch (tgt := 17) ⟨by decide, by decide, by decide, _, c_L_13, Or.inr ⟨nc_IllegalArgumentException_IndexOutOfBoundsException, ⟨by decide, by decide, by decide, _, c_L_15, Or.inl ⟨ca_IllegalArgumentException, rfl⟩⟩⟩⟩ (fun a => ?_)
      refine XR.astore d_L_limit_17 (xle rfl) rfl ?_
      refine XR.iconst d_L_limit_19 (v := nI 2) (by decide) ?_
      refine XR.xreturn d_L_limit_20 rfl ?_
      exact ⟨by rw [hpC_x h1.symm]; rfl, by rw [hpS_x h1.symm]⟩
    · refine XT.catch (tgt := 21) ⟨by decide, by decide, by decide, _, c_L_13, Or.inr ⟨nc_IllegalStateException_IndexOutOfBoundsException, ⟨by decide, by decide, by decide, _, c_L_15, Or.inr ⟨nc_IllegalStateException_IllegalArgumentException, ⟨by decide, by decide, by decide, _, c_L_17, Or.inl ⟨ca_IllegalStateException, rfl⟩⟩⟩⟩⟩⟩ (fun a => ?_)
      refine XR.astore d_L_limit_21 (xle rfl) rfl ?_
      refine XR.iconst d_L_limit_23 (v := nI 3) (by decide) ?_
      refine XR.xreturn d_L_limit_24 rfl ?_
      exact ⟨by rw [hpC_x h1.symm]; rfl, by rw [hpS_x h1.symm]⟩
theorem c_L_reserve (hM : XC E i_B_reserve 8 0 0 [.ref (xB E + 0), .int x, .int y] (xm σ) (xfn r)) (hX : ∀ X, r.1 = .inr X → X = eI ∨ X = eA ∨ X = eS ∨ X = eU) (hV : ∀ v, r.1 = .inl v → ∃ k, v = some (.int k)) : XC E i_L_reserve 10 1 6 [.ref (xB E + 0), .int x, .int y, .ref (xB E + 25)] (xm σ) (fun o w => o = .inl (some (.int (hpC (hf [eI, eA, eS, eU] 1) r.1))) ∧ w = xm (hpS r)) := by
  refine XC.ofF (by decide +kernel) cd_L_reserve rfl (xle rfl) ?_
  refine XR.aload_n d_L_reserve_0 rfl ?_
  refine XR.iconst d_L_reserve_1 (v := nI 0) (by decide) ?_
  refine XR.aload_n d_L_reserve_2 rfl ?_
  refine XR.iload_n d_L_reserve_3 rfl ?_
  refine XR.iload_n d_L_reserve_4 rfl ?_
  skip
  refine XR.callV (as := [_, _]) d_L_reserve_5 l_L_52 kv_B_reserve.1 kv_B_reserve.2.1 kv_B_reserve.2.2.1 kv_B_reserve.2.2.2.1 kv_B_reserve.2.2.2.2.1 rfl (xle rfl) rfl rfl kv_B_reserve.2.2.2.2.2 rfl hM (xle rfl) (xle rfl) (Nat.zero_le _) (Nat.zero_le _) (fun v w1 hw => ?_) (fun X w1 hw => ?_)
  · obtain ⟨h1, rfl⟩ := hw
    obtain ⟨k, rfl⟩ := hV v h1.symm
    refine XR.i2l d_L_reserve_8 ?_
    refine XR.lastore d_L_reserve_9 (xle rfl) (fun _ => rfl) (vp_in_nI (by decide) (by decide)) ?_
    refine XR.goto d_L_reserve_10 (tgt := 29) (by decide) ?_
    refine XR.iconst d_L_reserve_29 (v := 0) (by decide) ?_
    refine XR.xreturn d_L_reserve_30 rfl ?_
    exact ⟨by rw [hpC_v h1.symm], by rw [hpS_v h1.symm]; rfl⟩
  · obtain ⟨h1, rfl⟩ := hw
    rcases hX X h1.symm with rfl | rfl | rfl | rfl
    · refine XT.catch (tgt := 13) ⟨by decide, by decide, by decide, _, c_L_13, Or.inl ⟨ca_IndexOutOfBoundsException, rfl⟩⟩ (fun a => ?_)
      refine XR.astore d_L_reserve_13 (xle rfl) rfl ?_
      refine XR.iconst d_L_reserve_15 (v := nI 1) (by decide) ?_
      refine XR.xreturn d_L_reserve_16 rfl ?_
      exact ⟨by rw [hpC_x h1.symm]; rfl, by rw [hpS_x h1.symm]⟩
    · refine XT.catch (tgt := 17) ⟨by decide, by decide, by decide, _, c_L_13, Or.inr ⟨nc_IllegalArgumentException_IndexOutOfBoundsException, ⟨by decide, by decide, by decide, _, c_L_15, Or.inl ⟨ca_IllegalArgumentException, rfl⟩⟩⟩⟩ (fun a => ?_)
      refine XR.astore d_L_reserve_17 (xle rfl) rfl ?_
      refine XR.iconst d_L_reserve_19 (v := nI 2) (by decide) ?_
      refine XR.xreturn d_L_reserve_20 rfl ?_
      exact ⟨by rw [hpC_x h1.symm]; rfl, by rw [hpS_x h1.symm]⟩
    · refine XT.catch (tgt := 21) ⟨by decide, by decide, by decide, _, c_L_13, Or.inr ⟨nc_IllegalStateException_IndexOutOfBoundsException, ⟨by decide, by decide, by decide, _, c_L_15, Or.inr ⟨nc_IllegalStateException_IllegalArgumentException, ⟨by decide, by decide, by decide, _, c_L_17, Or.inl ⟨ca_IllegalStateException, rfl⟩⟩⟩⟩⟩⟩ (fun a => ?_)
      refine XR.astore d_L_reserve_21 (xle rfl) rfl ?_
      refine XR.iconst d_L_reserve_23 (v := nI 3) (by decide) ?_
      refine XR.xreturn d_L_reserve_24 rfl ?_
      exact ⟨by rw [hpC_x h1.symm]; rfl, by rw [hpS_x h1.symm]⟩
    · refine XT.catch (tgt := 25) ⟨by decide, by decide, by decide, _, c_L_13, Or.inr ⟨nc_UnsupportedOperationException_IndexOutOfBoundsException, ⟨by decide, by decide, by decide, _, c_L_15, Or.inr ⟨nc_UnsupportedOperationException_IllegalArgumentException, ⟨by decide, by decide, by decide, _, c_L_17, Or.inr ⟨nc_UnsupportedOperationException_IllegalStateException, ⟨by decide, by decide, by decide, _, c_L_19, Or.inl ⟨ca_UnsupportedOperationException, rfl⟩⟩⟩⟩⟩⟩⟩⟩ (fun a => ?_)
      refine XR.astore d_L_reserve_25 (xle rfl) rfl ?_
      refine XR.iconst d_L_reserve_27 (v := nI 4) (by decide) ?_
      refine XR.xreturn d_L_reserve_28 rfl ?_
      exact ⟨by rw [hpC_x h1.symm]; rfl, by rw [hpS_x h1.symm]⟩
theorem c_L_unreserve (hM : XC E i_B_unreserve 8 0 0 [.ref (xB E + 0), .int x, .int y] (xm σ) (xfn r)) (hX : ∀ X, r.1 = .inr X → X = eI ∨ X = eA) (hV : ∀ v, r.1 = .inl v → ∃ k, v = some (.int k)) : XC E i_L_unreserve 10 1 6 [.ref (xB E + 0), .int x, .int y, .ref (xB E + 25)] (xm σ) (fun o w => o = .inl (some (.int (hpC (hf [eI, eA] 1) r.1))) ∧ w = xm (hpS r)) := by
  refine XC.ofF (by decide +kernel) cd_L_unreserve rfl (xle rfl) ?_
  refine XR.aload_n d_L_unreserve_0 rfl ?_
  refine XR.iconst d_L_unreserve_1 (v := nI 0) (by decide) ?_
  refine XR.aload_n d_L_unreserve_2 rfl ?_
  refine XR.iload_n d_L_unreserve_3 rfl ?_
  refine XR.iload_n d_L_unreserve_4 rfl ?_
  skip
  refine XR.callV (as := [_, _]) d_L_unreserve_5 l_L_55 kv_B_unreserve.1 kv_B_unreserve.2.1 kv_B_unreserve.2.2.1 kv_B_unreserve.2.2.2.1 kv_B_unreserve.2.2.2.2.1 rfl (xle rfl) rfl rfl kv_B_unreserve.2.2.2.2.2 rfl hM (xle rfl) (xle rfl) (Nat.zero_le _) (Nat.zero_le _) (fun v w1 hw => ?_) (fun X w1 hw => ?_)
  · obtain ⟨h1, rfl⟩ := hw
    obtain ⟨k, rfl⟩ := hV v h1.symm
    refine XR.i2l d_L_unreserve_8 ?_
    refine XR.lastore d_L_unreserve_9 (xle rfl) (fun _ => rfl) (vp_in_nI (by decide) (by decide)) ?_
    refine XR.goto d_L_unreserve_10 (tgt := 21) (by decide) ?_
    refine XR.iconst d_L_unreserve_21 (v := 0) (by decide) ?_
    refine XR.xreturn d_L_unreserve_22 rfl ?_
    exact ⟨by rw [hpC_v h1.symm], by rw [hpS_v h1.symm]; rfl⟩
  · obtain ⟨h1, rfl⟩ := hw
    rcases hX X h1.symm with rfl | rfl
    · refine XT.catch (tgt := 13) ⟨by decide, by decide, by decide, _, c_L_13, Or.inl ⟨ca_IndexOutOfBoundsException, rfl⟩⟩ (fun a => ?_)
      refine XR.astore d_L_unreserve_13 (xle rfl) rfl ?_
      refine XR.iconst d_L_unreserve_15 (v := nI 1) (by decide) ?_
      refine XR.xreturn d_L_unreserve_16 rfl ?_
      exact ⟨by rw [hpC_x h1.symm]; rfl, by rw [hpS_x h1.symm]⟩
    · refine XT.catch (tgt := 17) ⟨by decide, by decide, by decide, _, c_L_13, Or.inr ⟨nc_IllegalArgumentException_IndexOutOfBoundsException, ⟨by decide, by decide, by decide, _, c_L_15, Or.inl ⟨ca_IllegalArgumentException, rfl⟩⟩⟩⟩ (fun a => ?_)
      refine XR.astore d_L_unreserve_17 (xle rfl) rfl ?_
      refine XR.iconst d_L_unreserve_19 (v := nI 2) (by decide) ?_
      refine XR.xreturn d_L_unreserve_20 rfl ?_
      exact ⟨by rw [hpC_x h1.symm]; rfl, by rw [hpS_x h1.symm]⟩
theorem c_L_freeze (hM : XC E i_B_freeze 9 0 0 [.ref (xB E + 0), .int x, .int y] (xm σ) (xfn r)) (hX : ∀ X, r.1 = .inr X → X = eI ∨ X = eA ∨ X = eS) (hV : ∀ v, r.1 = .inl v → ∃ k, v = some (.int k) ∧ (k = 0 ∨ k = 1)) : XC E i_L_freeze 10 1 6 [.ref (xB E + 0), .int x, .int y, .ref (xB E + 25)] (xm σ) (fun o w => o = .inl (some (.int (hpC (hf [eI, eA, eS] 1) r.1))) ∧ w = xm (hpS r)) := by
  refine XC.ofF (by decide +kernel) cd_L_freeze rfl (xle rfl) ?_
  refine XR.aload_n d_L_freeze_0 rfl ?_
  refine XR.iconst d_L_freeze_1 (v := nI 0) (by decide) ?_
  refine XR.aload_n d_L_freeze_2 rfl ?_
  refine XR.iload_n d_L_freeze_3 rfl ?_
  refine XR.iload_n d_L_freeze_4 rfl ?_
  skip
  refine XR.callV (as := [_, _]) d_L_freeze_5 l_L_58 kv_B_freeze.1 kv_B_freeze.2.1 kv_B_freeze.2.2.1 kv_B_freeze.2.2.2.1 kv_B_freeze.2.2.2.2.1 rfl (xle rfl) rfl rfl kv_B_freeze.2.2.2.2.2 rfl hM (xle rfl) (xle rfl) (Nat.zero_le _) (Nat.zero_le _) (fun v w1 hw => ?_) (fun X w1 hw => ?_)
  · obtain ⟨h1, rfl⟩ := hw
    obtain ⟨k, rfl, hk⟩ := hV v h1.symm
    rcases hk with rfl | rfl
    · skip
      refine XR.if_eq d_L_freeze_8 (tgt := 15) (by decide) (fun _ => ?_) (fun h => absurd (by decide) h)
      refine XR.lconst d_L_freeze_15 (v := (0 : Int32).toInt64) (by decide) ?_
      refine XR.lastore d_L_freeze_16 (xle rfl) (fun _ => rfl) (vp_in_nI (by decide) (by decide)) ?_
      refine XR.goto d_L_freeze_17 (tgt := 32) (by decide) ?_
      refine XR.iconst d_L_freeze_32 (v := 0) (by decide) ?_
      refine XR.xreturn d_L_freeze_33 rfl ?_
      exact ⟨by rw [hpC_v h1.symm], by rw [hpS_v h1.symm]; rfl⟩
    · skip
      refine XR.if_eq d_L_freeze_8 (tgt := 15) (by decide) (fun h => absurd h (by decide)) (fun _ => ?_)
      refine XR.lconst d_L_freeze_11 (v := (1 : Int32).toInt64) (by decide) ?_
      refine XR.goto d_L_freeze_12 (tgt := 16) (by decide) ?_
      refine XR.lastore d_L_freeze_16 (xle rfl) (fun _ => rfl) (vp_in_nI (by decide) (by decide)) ?_
      refine XR.goto d_L_freeze_17 (tgt := 32) (by decide) ?_
      refine XR.iconst d_L_freeze_32 (v := 0) (by decide) ?_
      refine XR.xreturn d_L_freeze_33 rfl ?_
      exact ⟨by rw [hpC_v h1.symm], by rw [hpS_v h1.symm]; rfl⟩
  · obtain ⟨h1, rfl⟩ := hw
    rcases hX X h1.symm with rfl | rfl | rfl
    · refine XT.catch (tgt := 20) ⟨by decide, by decide, by decide, _, c_L_13, Or.inl ⟨ca_IndexOutOfBoundsException, rfl⟩⟩ (fun a => ?_)
      refine XR.astore d_L_freeze_20 (xle rfl) rfl ?_
      refine XR.iconst d_L_freeze_22 (v := nI 1) (by decide) ?_
      refine XR.xreturn d_L_freeze_23 rfl ?_
      exact ⟨by rw [hpC_x h1.symm]; rfl, by rw [hpS_x h1.symm]⟩
    · refine XT.catch (tgt := 24) ⟨by decide, by decide, by decide, _, c_L_13, Or.inr ⟨nc_IllegalArgumentException_IndexOutOfBoundsException, ⟨by decide, by decide, by decide, _, c_L_15, Or.inl ⟨ca_IllegalArgumentException, rfl⟩⟩⟩⟩ (fun a => ?_)
      refine XR.astore d_L_freeze_24 (xle rfl) rfl ?_
      refine XR.iconst d_L_freeze_26 (v := nI 2) (by decide) ?_
      refine XR.xreturn d_L_freeze_27 rfl ?_
      exact ⟨by rw [hpC_x h1.symm]; rfl, by rw [hpS_x h1.symm]⟩
    · refine XT.catch (tgt := 28) ⟨by decide, by decide, by decide, _, c_L_13, Or.inr ⟨nc_IllegalStateException_IndexOutOfBoundsException, ⟨by decide, by decide, by decide, _, c_L_15, Or.inr ⟨nc_IllegalStateException_IllegalArgumentException, ⟨by decide, by decide, by decide, _, c_L_17, Or.inl ⟨ca_IllegalStateException, rfl⟩⟩⟩⟩⟩⟩ (fun a => ?_)
      refine XR.astore d_L_freeze_28 (xle rfl) rfl ?_
      refine XR.iconst d_L_freeze_30 (v := nI 3) (by decide) ?_
      refine XR.xreturn d_L_freeze_31 rfl ?_
      exact ⟨by rw [hpC_x h1.symm]; rfl, by rw [hpS_x h1.symm]⟩
theorem c_L_destroy (hM : XC E i_B_destroy 9 0 0 [.ref (xB E + 0), .int x] (xm σ) (xfn r)) (hX : ∀ X, r.1 = .inr X → X = eI ∨ X = eA ∨ X = eS) (hV : ∀ v, r.1 = .inl v → ∃ k, v = some (.int k)) : XC E i_L_destroy 10 1 6 [.ref (xB E + 0), .int x, .ref (xB E + 25)] (xm σ) (fun o w => o = .inl (some (.int (hpC (hf [eI, eA, eS] 1) r.1))) ∧ w = xm (hpS r)) := by
  refine XC.ofF (by decide +kernel) cd_L_destroy rfl (xle rfl) ?_
  refine XR.aload_n d_L_destroy_0 rfl ?_
  refine XR.iconst d_L_destroy_1 (v := nI 0) (by decide) ?_
  refine XR.aload_n d_L_destroy_2 rfl ?_
  refine XR.iload_n d_L_destroy_3 rfl ?_
  skip
  refine XR.callV (as := [_]) d_L_destroy_4 l_L_62 kv_B_destroy.1 kv_B_destroy.2.1 kv_B_destroy.2.2.1 kv_B_destroy.2.2.2.1 kv_B_destroy.2.2.2.2.1 rfl (xle rfl) rfl rfl kv_B_destroy.2.2.2.2.2 rfl hM (xle rfl) (xle rfl) (Nat.zero_le _) (Nat.zero_le _) (fun v w1 hw => ?_) (fun X w1 hw => ?_)
  · obtain ⟨h1, rfl⟩ := hw
    obtain ⟨k, rfl⟩ := hV v h1.symm
    refine XR.i2l d_L_destroy_7 ?_
    refine XR.lastore d_L_destroy_8 (xle rfl) (fun _ => rfl) (vp_in_nI (by decide) (by decide)) ?_
    refine XR.goto d_L_destroy_9 (tgt := 21) (by decide) ?_
    refine XR.iconst d_L_destroy_21 (v := 0) (by decide) ?_
    refine XR.xreturn d_L_destroy_22 rfl ?_
    exact ⟨by rw [hpC_v h1.symm], by rw [hpS_v h1.symm]; rfl⟩
  · obtain ⟨h1, rfl⟩ := hw
    rcases hX X h1.symm with rfl | rfl | rfl
    · refine XT.catch (tgt := 12) ⟨by decide, by decide, by decide, _, c_L_13, Or.inl ⟨ca_IndexOutOfBoundsException, rfl⟩⟩ (fun a => ?_)
      refine XR.astore_n d_L_destroy_12 (xle rfl) rfl ?_
      refine XR.iconst d_L_destroy_13 (v := nI 1) (by decide) ?_
      refine XR.xreturn d_L_destroy_14 rfl ?_
      exact ⟨by rw [hpC_x h1.symm]; rfl, by rw [hpS_x h1.symm]⟩
    · refine XT.catch (tgt := 15) ⟨by decide, by decide, by decide, _, c_L_13, Or.inr ⟨nc_IllegalArgumentException_IndexOutOfBoundsException, ⟨by decide, by decide, by decide, _, c_L_15, Or.inl ⟨ca_IllegalArgumentException, rfl⟩⟩⟩⟩ (fun a => ?_)
      refine XR.astore_n d_L_destroy_15 (xle rfl) rfl ?_
      refine XR.iconst d_L_destroy_16 (v := nI 2) (by decide) ?_
      refine XR.xreturn d_L_destroy_17 rfl ?_
      exact ⟨by rw [hpC_x h1.symm]; rfl, by rw [hpS_x h1.symm]⟩
    · refine XT.catch (tgt := 18) ⟨by decide, by decide, by decide, _, c_L_13, Or.inr ⟨nc_IllegalStateException_IndexOutOfBoundsException, ⟨by decide, by decide, by decide, _, c_L_15, Or.inr ⟨nc_IllegalStateException_IllegalArgumentException, ⟨by decide, by decide, by decide, _, c_L_17, Or.inl ⟨ca_IllegalStateException, rfl⟩⟩⟩⟩⟩⟩ (fun a => ?_)
      refine XR.astore_n d_L_destroy_18 (xle rfl) rfl ?_
      refine XR.iconst d_L_destroy_19 (v := nI 3) (by decide) ?_
      refine XR.xreturn d_L_destroy_20 rfl ?_
      exact ⟨by rw [hpC_x h1.symm]; rfl, by rw [hpS_x h1.symm]⟩
theorem c_L_work (hM : XC E i_B_work 9 0 0 [.ref (xB E + 0), .int x] (xm σ) (xfn r)) (hX : ∀ X, r.1 = .inr X → X = eA) (hV : ∀ v, r.1 = .inl v → ∃ k, v = some (.int k)) : XC E i_L_work 10 1 6 [.ref (xB E + 0), .int x, .ref (xB E + 25)] (xm σ) (fun o w => o = .inl (some (.int (hpC (hf [eA] 1) r.1))) ∧ w = xm (hpS r)) := by
  refine XC.ofF (by decide +kernel) cd_L_work rfl (xle rfl) ?_
  refine XR.aload_n d_L_work_0 rfl ?_
  refine XR.iconst d_L_work_1 (v := nI 0) (by decide) ?_
  refine XR.aload_n d_L_work_2 rfl ?_
  refine XR.iload_n d_L_work_3 rfl ?_
  skip
  refine XR.callV (as := [_]) d_L_work_4 l_L_65 kv_B_work.1 kv_B_work.2.1 kv_B_work.2.2.1 kv_B_work.2.2.2.1 kv_B_work.2.2.2.2.1 rfl (xle rfl) rfl rfl kv_B_work.2.2.2.2.2 rfl hM (xle rfl) (xle rfl) (Nat.zero_le _) (Nat.zero_le _) (fun v w1 hw => ?_) (fun X w1 hw => ?_)
  · obtain ⟨h1, rfl⟩ := hw
    obtain ⟨k, rfl⟩ := hV v h1.symm
    refine XR.i2l d_L_work_7 ?_
    refine XR.lastore d_L_work_8 (xle rfl) (fun _ => rfl) (vp_in_nI (by decide) (by decide)) ?_
    refine XR.goto d_L_work_9 (tgt := 15) (by decide) ?_
    refine XR.iconst d_L_work_15 (v := 0) (by decide) ?_
    refine XR.xreturn d_L_work_16 rfl ?_
    exact ⟨by rw [hpC_v h1.symm], by rw [hpS_v h1.symm]; rfl⟩
  · obtain ⟨h1, rfl⟩ := hw
    cases hX X h1.symm
    refine XT.catch (tgt := 12) ⟨by decide, by decide, by decide, _, c_L_15, Or.inl ⟨ca_IllegalArgumentException, rfl⟩⟩ (fun a => ?_)
    refine XR.astore_n d_L_work_12 (xle rfl) rfl ?_
    refine XR.iconst d_L_work_13 (v := nI 1) (by decide) ?_
    refine XR.xreturn d_L_work_14 rfl ?_
    exact ⟨by rw [hpC_x h1.symm]; rfl, by rw [hpS_x h1.symm]⟩
theorem c_L_handUp (hM : XC E i_B_handUp 9 0 0 [.ref (xB E + 0), .int x] (xm σ) (xfn r)) (hX : ∀ X, r.1 = .inr X → X = eI ∨ X = eA ∨ X = eS) (hV : ∀ v, r.1 = .inl v → ∃ k, v = some (.int k)) : XC E i_L_handUp 10 1 6 [.ref (xB E + 0), .int x, .ref (xB E + 25)] (xm σ) (fun o w => o = .inl (some (.int (hpC (hf [eI, eA, eS] 1) r.1))) ∧ w = xm (hpS r)) := by
  refine XC.ofF (by decide +kernel) cd_L_handUp rfl (xle rfl) ?_
  refine XR.aload_n d_L_handUp_0 rfl ?_
  refine XR.iconst d_L_handUp_1 (v := nI 0) (by decide) ?_
  refine XR.aload_n d_L_handUp_2 rfl ?_
  refine XR.iload_n d_L_handUp_3 rfl ?_
  skip
  refine XR.callV (as := [_]) d_L_handUp_4 l_L_68 kv_B_handUp.1 kv_B_handUp.2.1 kv_B_handUp.2.2.1 kv_B_handUp.2.2.2.1 kv_B_handUp.2.2.2.2.1 rfl (xle rfl) rfl rfl kv_B_handUp.2.2.2.2.2 rfl hM (xle rfl) (xle rfl) (Nat.zero_le _) (Nat.zero_le _) (fun v w1 hw => ?_) (fun X w1 hw => ?_)
  · obtain ⟨h1, rfl⟩ := hw
    obtain ⟨k, rfl⟩ := hV v h1.symm
    refine XR.i2l d_L_handUp_7 ?_
    refine XR.lastore d_L_handUp_8 (xle rfl) (fun _ => rfl) (vp_in_nI (by decide) (by decide)) ?_
    refine XR.goto d_L_handUp_9 (tgt := 21) (by decide) ?_
    refine XR.iconst d_L_handUp_21 (v := 0) (by decide) ?_
    refine XR.xreturn d_L_handUp_22 rfl ?_
    exact ⟨by rw [hpC_v h1.symm], by rw [hpS_v h1.symm]; rfl⟩
  · obtain ⟨h1, rfl⟩ := hw
    rcases hX X h1.symm with rfl | rfl | rfl
    · refine XT.catch (tgt := 12) ⟨by decide, by decide, by decide, _, c_L_13, Or.inl ⟨ca_IndexOutOfBoundsException, rfl⟩⟩ (fun a => ?_)
      refine XR.astore_n d_L_handUp_12 (xle rfl) rfl ?_
      refine XR.iconst d_L_handUp_13 (v := nI 1) (by decide) ?_
      refine XR.xreturn d_L_handUp_14 rfl ?_
      exact ⟨by rw [hpC_x h1.symm]; rfl, by rw [hpS_x h1.symm]⟩
    · refine XT.catch (tgt := 15) ⟨by decide, by decide, by decide, _, c_L_13, Or.inr ⟨nc_IllegalArgumentException_IndexOutOfBoundsException, ⟨by decide, by decide, by decide, _, c_L_15, Or.inl ⟨ca_IllegalArgumentException, rfl⟩⟩⟩⟩ (fun a => ?_)
      refine XR.astore_n d_L_handUp_15 (xle rfl) rfl ?_
      refine XR.iconst d_L_handUp_16 (v := nI 2) (by decide) ?_
      refine XR.xreturn d_L_handUp_17 rfl ?_
      exact ⟨by rw [hpC_x h1.symm]; rfl, by rw [hpS_x h1.symm]⟩
    · refine XT.catch (tgt := 18) ⟨by decide, by decide, by decide, _, c_L_13, Or.inr ⟨nc_IllegalStateException_IndexOutOfBoundsException, ⟨by decide, by decide, by decide, _, c_L_15, Or.inr ⟨nc_IllegalStateException_IllegalArgumentException, ⟨by decide, by decide, by decide, _, c_L_17, Or.inl ⟨ca_IllegalStateException, rfl⟩⟩⟩⟩⟩⟩ (fun a => ?_)
      refine XR.astore_n d_L_handUp_18 (xle rfl) rfl ?_
      refine XR.iconst d_L_handUp_19 (v := nI 3) (by decide) ?_
      refine XR.xreturn d_L_handUp_20 rfl ?_
      exact ⟨by rw [hpC_x h1.symm]; rfl, by rw [hpS_x h1.symm]⟩
theorem c_L_told (hM : XC E i_B_told 8 0 0 [.ref (xB E + 0), .int x, .int y] (xm σ) (xfn r)) (hX : ∀ X, r.1 = .inr X → X = eI ∨ X = eA) (hV : ∀ v, r.1 = .inl v → ∃ k, v = some (.int k)) : XC E i_L_told 10 1 6 [.ref (xB E + 0), .int x, .int y, .ref (xB E + 25)] (xm σ) (fun o w => o = .inl (some (.int (hpC (hf [eI, eA] 1) r.1))) ∧ w = xm (hpS r)) := by
  refine XC.ofF (by decide +kernel) cd_L_told rfl (xle rfl) ?_
  refine XR.aload_n d_L_told_0 rfl ?_
  refine XR.iconst d_L_told_1 (v := nI 0) (by decide) ?_
  refine XR.aload_n d_L_told_2 rfl ?_
  refine XR.iload_n d_L_told_3 rfl ?_
  refine XR.iload_n d_L_told_4 rfl ?_
  skip
  refine XR.callV (as := [_, _]) d_L_told_5 l_L_71 kv_B_told.1 kv_B_told.2.1 kv_B_told.2.2.1 kv_B_told.2.2.2.1 kv_B_told.2.2.2.2.1 rfl (xle rfl) rfl rfl kv_B_told.2.2.2.2.2 rfl hM (xle rfl) (xle rfl) (Nat.zero_le _) (Nat.zero_le _) (fun v w1 hw => ?_) (fun X w1 hw => ?_)
  · obtain ⟨h1, rfl⟩ := hw
    obtain ⟨k, rfl⟩ := hV v h1.symm
    refine XR.i2l d_L_told_8 ?_
    refine XR.lastore d_L_told_9 (xle rfl) (fun _ => rfl) (vp_in_nI (by decide) (by decide)) ?_
    refine XR.goto d_L_told_10 (tgt := 21) (by decide) ?_
    refine XR.iconst d_L_told_21 (v := 0) (by decide) ?_
    refine XR.xreturn d_L_told_22 rfl ?_
    exact ⟨by rw [hpC_v h1.symm], by rw [hpS_v h1.symm]; rfl⟩
  · obtain ⟨h1, rfl⟩ := hw
    rcases hX X h1.symm with rfl | rfl
    · refine XT.catch (tgt := 13) ⟨by decide, by decide, by decide, _, c_L_13, Or.inl ⟨ca_IndexOutOfBoundsException, rfl⟩⟩ (fun a => ?_)
      refine XR.astore d_L_told_13 (xle rfl) rfl ?_
      refine XR.iconst d_L_told_15 (v := nI 1) (by decide) ?_
      refine XR.xreturn d_L_told_16 rfl ?_
      exact ⟨by rw [hpC_x h1.symm]; rfl, by rw [hpS_x h1.symm]⟩
    · refine XT.catch (tgt := 17) ⟨by decide, by decide, by decide, _, c_L_13, Or.inr ⟨nc_IllegalArgumentException_IndexOutOfBoundsException, ⟨by decide, by decide, by decide, _, c_L_15, Or.inl ⟨ca_IllegalArgumentException, rfl⟩⟩⟩⟩ (fun a => ?_)
      refine XR.astore d_L_told_17 (xle rfl) rfl ?_
      refine XR.iconst d_L_told_19 (v := nI 2) (by decide) ?_
      refine XR.xreturn d_L_told_20 rfl ?_
      exact ⟨by rw [hpC_x h1.symm]; rfl, by rw [hpS_x h1.symm]⟩
theorem c_L_page (hM : XC E i_B_page 8 0 0 [.ref (xB E + 0), .int x, .int y] (xm σ) (xfn r)) (hX : ∀ X, r.1 = .inr X → X = eI) (hV : ∀ v, r.1 = .inl v → ∃ k, v = some (.int k)) : XC E i_L_page 10 1 6 [.ref (xB E + 0), .int x, .int y, .ref (xB E + 25)] (xm σ) (fun o w => o = .inl (some (.int (hpC (hf [eI] 1) r.1))) ∧ w = xm (hpS r)) := by
  refine XC.ofF (by decide +kernel) cd_L_page rfl (xle rfl) ?_
  refine XR.aload_n d_L_page_0 rfl ?_
  refine XR.iconst d_L_page_1 (v := nI 0) (by decide) ?_
  refine XR.aload_n d_L_page_2 rfl ?_
  refine XR.iload_n d_L_page_3 rfl ?_
  refine XR.iload_n d_L_page_4 rfl ?_
  skip
  refine XR.callV (as := [_, _]) d_L_page_5 l_L_74 kv_B_page.1 kv_B_page.2.1 kv_B_page.2.2.1 kv_B_page.2.2.2.1 kv_B_page.2.2.2.2.1 rfl (xle rfl) rfl rfl kv_B_page.2.2.2.2.2 rfl hM (xle rfl) (xle rfl) (Nat.zero_le _) (Nat.zero_le _) (fun v w1 hw => ?_) (fun X w1 hw => ?_)
  · obtain ⟨h1, rfl⟩ := hw
    obtain ⟨k, rfl⟩ := hV v h1.symm
    refine XR.i2l d_L_page_8 ?_
    refine XR.lastore d_L_page_9 (xle rfl) (fun _ => rfl) (vp_in_nI (by decide) (by decide)) ?_
    refine XR.goto d_L_page_10 (tgt := 17) (by decide) ?_
    refine XR.iconst d_L_page_17 (v := 0) (by decide) ?_
    refine XR.xreturn d_L_page_18 rfl ?_
    exact ⟨by rw [hpC_v h1.symm], by rw [hpS_v h1.symm]; rfl⟩
  · obtain ⟨h1, rfl⟩ := hw
    cases hX X h1.symm
    refine XT.catch (tgt := 13) ⟨by decide, by decide, by decide, _, c_L_13, Or.inl ⟨ca_IndexOutOfBoundsException, rfl⟩⟩ (fun a => ?_)
    refine XR.astore d_L_page_13 (xle rfl) rfl ?_
    refine XR.iconst d_L_page_15 (v := nI 1) (by decide) ?_
    refine XR.xreturn d_L_page_16 rfl ?_
    exact ⟨by rw [hpC_x h1.symm]; rfl, by rw [hpS_x h1.symm]⟩
theorem c_L_owner (hM : XC E i_B_owner 7 0 0 [.ref (xB E + 0), .int x] (xm σ) (xfn r)) (hX : ∀ X, r.1 = .inr X → X = eN) (hV : ∀ v, r.1 = .inl v → ∃ k, v = some (.int k)) : XC E i_L_owner 10 1 6 [.ref (xB E + 0), .int x, .ref (xB E + 25)] (xm σ) (fun o w => o = .inl (some (.int (hpC (hf [eN] 1) r.1))) ∧ w = xm (hpS r)) := by
  refine XC.ofF (by decide +kernel) cd_L_owner rfl (xle rfl) ?_
  refine XR.aload_n d_L_owner_0 rfl ?_
  refine XR.iconst d_L_owner_1 (v := nI 0) (by decide) ?_
  refine XR.aload_n d_L_owner_2 rfl ?_
  refine XR.iload_n d_L_owner_3 rfl ?_
  skip
  refine XR.callV (as := [_]) d_L_owner_4 l_L_77 kv_B_owner.1 kv_B_owner.2.1 kv_B_owner.2.2.1 kv_B_owner.2.2.2.1 kv_B_owner.2.2.2.2.1 rfl (xle rfl) rfl rfl kv_B_owner.2.2.2.2.2 rfl hM (xle rfl) (xle rfl) (Nat.zero_le _) (Nat.zero_le _) (fun v w1 hw => ?_) (fun X w1 hw => ?_)
  · obtain ⟨h1, rfl⟩ := hw
    obtain ⟨k, rfl⟩ := hV v h1.symm
    refine XR.i2l d_L_owner_7 ?_
    refine XR.lastore d_L_owner_8 (xle rfl) (fun _ => rfl) (vp_in_nI (by decide) (by decide)) ?_
    refine XR.goto d_L_owner_9 (tgt := 15) (by decide) ?_
    refine XR.iconst d_L_owner_15 (v := 0) (by decide) ?_
    refine XR.xreturn d_L_owner_16 rfl ?_
    exact ⟨by rw [hpC_v h1.symm], by rw [hpS_v h1.symm]; rfl⟩
  · obtain ⟨h1, rfl⟩ := hw
    cases hX X h1.symm
    refine XT.catch (tgt := 12) ⟨by decide, by decide, by decide, _, c_L_31, Or.inl ⟨ca_NoSuchElementException, rfl⟩⟩ (fun a => ?_)
    refine XR.astore_n d_L_owner_12 (xle rfl) rfl ?_
    refine XR.iconst d_L_owner_13 (v := nI 1) (by decide) ?_
    refine XR.xreturn d_L_owner_14 rfl ?_
    exact ⟨by rw [hpC_x h1.symm]; rfl, by rw [hpS_x h1.symm]⟩
end XLaw1
