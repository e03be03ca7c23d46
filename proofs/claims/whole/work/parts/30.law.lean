/-! the law's body -/
section XLaw2
variable {E : xE} {mi mj : xMI} {d kc ks pc d' kc' ks' : Nat} {Post : xO → xWd → Prop} {L st as st0 : List Value} {w w' : xWd}
theorem XR.drop {L M st : List Value} (k : XR E mi d kc ks Post pc L st w) : XR E mi d kc ks Post pc (L ++ M) st w :=
  XR.locals (fun i v h => by
    have hi : i < L.length := by
      rcases Nat.lt_or_ge i L.length with h1 | h1
      · exact h1
      · rw [List.getElem?_eq_none h1] at h; cases h
    rw [List.getElem?_append_left hi]; exact h) k
/-- an int of the script behind i -/
theorem XR.sarg {c : Int} {i n : Nat} (h0 : decode (xcc mi) pc = .ok (.aload_n 0, 1)) (h1 : decode (xcc mi) (pc + 1) = .ok (.iload 4, 2)) (h2 : decode (xcc mi) (pc + 1 + 2) = .ok (.iconst c, 1)) (h3 : decode (xcc mi) (pc + 1 + 2 + 1) = .ok (.iadd, 1)) (h4 : decode (xcc mi) (pc + 1 + 2 + 1 + 1) = .ok (.iaload, 1)) (hc : Int32.ofInt c = nI n) (hL0 : L[0]? = some (.ref (xsb E))) (hL4 : L[4]? = some (.int (nI i))) (hn : i + n < xsL E) (hs : xsL E ≤ 2048) (k : XR E mi d kc ks Post (pc + 1 + 2 + 1 + 1 + 1) L (.int (xsx E (i + n)) :: st) w) : XR E mi d kc ks Post pc L st w := by
  refine XR.aload_n h0 hL0 ?_
  refine XR.iload h1 hL4 ?_
  refine XR.iconst h2 hc ?_
  refine XR.iadd h3 ?_
  rw [nI_add]
  refine XR.sload h4 (vp_in_nI hn (by omega)) ?_
  rw [nI_clamp (by omega)]
  exact k
theorem XR.cSk {index : Nat} {v : Option Value} (hd : decode (xcc mi) pc = .ok (.invokestatic index, 3)) (hl : Cond.methodLink (xy mi).cls index (xy mj) ∈ xTs) (hk : xKS mj as.length) (hM : XC E mj d' kc' ks' as w (xok v w'))
    (hst0 : st0 = as.reverse ++ st) (hdd : d' + 1 ≤ d) (hst : (st.map fun v => v.category).sum + xnL mj ≤ 17) (hkc : kc' ≤ kc) (hks : ks' ≤ ks)
    (k : XR E mi d (kc - kc') (ks - ks') Post (pc + 3) L (v.toList ++ st) w') : XR E mi d kc ks Post pc L st0 w :=
  XR.callS hd hl hk.1 hk.2.1 hk.2.2.1 hk.2.2.2.1 hk.2.2.2.2 hst0 hM hdd hst hkc hks (fun u w1 h => by obtain ⟨h1, rfl⟩ := h; cases h1; exact k) (fun C w1 h => by obtain ⟨h1, -⟩ := h; cases h1)
theorem lg_same (x : Int64) : lg_cmp x x = 0 := by
  simp [lg_cmp]
abbrev lawL (E : xE) (i : Nat) : List Value := [.ref (xsb E), .ref (xB E + 0), .ref (xB E + 14), .ref (xB E + 25), .int (nI i)]
def lawP : xO → xWd → Prop := fun o _ => o = .inl (some (.int 1))
/-- the two answers are held against each other -/
theorem XR.tail {i : Nat} {c v : Int32} {σ : xS} {off : Int} (h0 : decode code pc = .ok (.aload_n 2, 1)) (h1 : decode code (pc + 1) = .ok (.invokevirtual 90, 3)) (h2 : decode code (pc + 1 + 3) = .ok (.iload 5, 2)) (h3 : decode code (pc + 1 + 3 + 2) = .ok (.if_icmp .eq 5, 3)) (h4 : decode code (pc + 11) = .ok (.iload 5, 2)) (h5 : decode code (pc + 11 + 2) = .ok (.ifCond .ne 15, 3))
    (h6 : decode code (pc + 11 + 2 + 3) = .ok (.aload_n 3, 1)) (h7 : decode code (pc + 11 + 2 + 3 + 1) = .ok (.iconst 0, 1)) (h8 : decode code (pc + 11 + 2 + 3 + 1 + 1) = .ok (.laload, 1)) (h9 : decode code (pc + 11 + 2 + 3 + 1 + 1 + 1) = .ok (.iload 6, 2)) (h10 : decode code (pc + 11 + 2 + 3 + 1 + 1 + 1 + 2) = .ok (.i2l, 1)) (h11 : decode code (pc + 11 + 2 + 3 + 1 + 1 + 1 + 2 + 1) = .ok (.lcmp, 1)) (h12 : decode code (pc + 11 + 2 + 3 + 1 + 1 + 1 + 2 + 1 + 1) = .ok (.ifCond .eq 5, 3)) (h13 : decode code (pc + 28) = .ok (.goto off, 3)) (ho : ((pc + 28 : Nat) : Int) + off = ((1463 : Nat) : Int))
    (hc : σ 14 0 = c) (hv : c = 0 → σ 25 0 = v) (k : XR E i_L_law 13 kc ks Post 1463 (lawL E i) [] (xm σ)) : XR E i_L_law 13 kc ks Post pc (lawL E i ++ [.int c, .int v]) [] (xm σ) := by
  refine XR.aload_n h0 rfl ?_
  refine XR.cV (as := []) h1 l_L_90 kv_M_thrown c_M_thrown rfl (xle rfl) rfl rfl (xle rfl) (xle rfl) ?_
  refine XR.iload h2 rfl ?_
  refine XR.icmp_eq h3 (tgt := pc + 11) (by omega) (fun _ => ?_) (fun h => absurd hc h)
  refine XR.iload h4 rfl ?_
  refine XR.if_ne h5 (tgt := pc + 28) (by omega) (fun _ => ?_) (fun h => ?_)
  · exact XR.goto h13 ho (XR.drop k)
  · refine XR.aload_n h6 rfl ?_
    refine XR.iconst h7 (v := nI 0) (by decide) ?_
    refine XR.laload h8 (xle rfl) (fun _ => rfl) (vp_in_nI (by decide) (by decide)) ?_
    refine XR.iload h9 rfl ?_
    refine XR.i2l h10 ?_
    refine XR.lcmp h11 ?_
    refine XR.if_eq h12 (tgt := pc + 28) (by omega) (fun _ => ?_) (fun h' => absurd ?_ h')
    · exact XR.goto h13 ho (XR.drop k)
    · rw [show (xm σ).2.2 25 (nI 0).toNatClampNeg = v from hv h]; exact lg_same _
/-- a call of the class, and the reference's beside it -/
def xStp (E : xE) (Inv : xS → Prop) (iB : xMI) (dB : Nat) (iM : xMI) (dM : Nat) (exs : List String) (V : Int32 → Prop) (as : List Value) (σ : xS) : Prop :=
  ∃ (r : xO × xS) (q : Int32 × xS), XC E iB dB 0 0 (.ref (xB E + 0) :: as) (xm σ) (xfn r) ∧ (∀ X, r.1 = .inr X → X ∈ exs) ∧ (∀ v, r.1 = .inl v → ∃ k, v = some (.int k) ∧ V k) ∧ V q.1 ∧ XC E iM dM 0 0 (.ref (xB E + 14) :: as) (xm (hpS r)) (xrn q) ∧ q.2 14 0 = hpC (hf exs 1) r.1 ∧ (q.2 14 0 = 0 → q.2 25 0 = q.1) ∧ Inv q.2
def xV1 (_ : Int32) : Prop := True
def xVz (k : Int32) : Prop := k = 0 ∨ k = 1
/-- .. where nothing is thrown -/
def xSt0 (E : xE) (Inv : xS → Prop) (iB : xMI) (dB : Nat) (iM : xMI) (dM : Nat) (as : List Value) (σ : xS) : Prop :=
  ∃ (v : Int32) (τ ρ : xS), XC E iB dB 0 0 (.ref (xB E + 0) :: as) (xm σ) (xok (some (.int v)) (xm τ)) ∧ XC E iM dM 0 0 (.ref (xB E + 14) :: as) (xm τ) (xok (some (.int v)) (xm ρ)) ∧ Inv ρ
variable {Inv : xS → Prop} {i : Nat} {σ : xS}
theorem law_bank (hi : i + 4 ≤ xsL E) (hs : xsL E ≤ 2048) (h : xStp E Inv i_B_bank 8 i_M_bank 3 [eI, eA, eS, eU] xV1 [.int (xsx E (i + 1)), .int (xsx E (i + 2))] σ) (hkc : 1 ≤ kc) (hks : 6 ≤ ks) (k : ∀ τ, Inv τ → XR E i_L_law 13 (kc - 1) (ks - 6) Post 1463 (lawL E i) [] (xm τ)) : XR E i_L_law 13 kc ks Post 144 (lawL E i) [] (xm σ) := by
  obtain ⟨r, q, h1, h2, h3, h4, h5, h6, h7, h8⟩ := h
  refine XR.aload_n d_L_law_144 rfl ?_
  refine XR.sarg (n := 1) d_L_law_145 d_L_law_146 d_L_law_148 d_L_law_149 d_L_law_150 (by decide) rfl rfl (by omega) hs ?_
  refine XR.sarg (n := 2) d_L_law_151 d_L_law_152 d_L_law_154 d_L_law_155 d_L_law_156 (by decide) rfl rfl (by omega) hs ?_
  refine XR.aload_n d_L_law_157 rfl ?_
  refine XR.cSk (v := some (.int (hpC (hf [eI, eA, eS, eU] 1) r.1))) (w' := xm (hpS r)) (as := [_, _, _, _]) d_L_law_158 l_L_84 ks_L_bank (c_L_bank h1 (fun X hX => by simpa using h2 X hX) (fun v hv => by obtain ⟨k, hk, -⟩ := h3 v hv; exact ⟨k, hk⟩)) rfl (xle rfl) (xle rfl) hkc hks ?_
  refine XR.istore d_L_law_161 (xle rfl) rfl ?_
  refine XR.aload_n d_L_law_163 rfl ?_
  refine XR.sarg (n := 1) d_L_law_164 d_L_law_165 d_L_law_167 d_L_law_168 d_L_law_169 (by decide) rfl rfl (by omega) hs ?_
  refine XR.sarg (n := 2) d_L_law_170 d_L_law_171 d_L_law_173 d_L_law_174 d_L_law_175 (by decide) rfl rfl (by omega) hs ?_
  refine XR.cV (v := some (.int q.1)) (w' := xm q.2) (as := [_, _]) d_L_law_176 l_L_89 kv_M_bank h5 rfl (xle rfl) rfl rfl (xle rfl) (xle rfl) ?_
  refine XR.istore d_L_law_179 (xle rfl) rfl ?_
  exact XR.tail (pc := 181) d_L_law_181 d_L_law_182 d_L_law_185 d_L_law_187 d_L_law_192 d_L_law_194 d_L_law_197 d_L_law_198 d_L_law_199 d_L_law_200 d_L_law_202 d_L_law_203 d_L_law_204 d_L_law_209 (by decide) h6 (fun hc => h7 (h6.trans hc)) (k _ h8)
theorem law_buy (hi : i + 4 ≤ xsL E) (hs : xsL E ≤ 2048) (h : xStp E Inv i_B_buy 9 i_M_buy 6 [eI, eS, eU] xV1 [.int (xsx E (i + 1))] σ) (hkc : 1 ≤ kc) (hks : 6 ≤ ks) (k : ∀ τ, Inv τ → XR E i_L_law 13 (kc - 1) (ks - 6) Post 1463 (lawL E i) [] (xm τ)) : XR E i_L_law 13 kc ks Post 212 (lawL E i) [] (xm σ) := by
  obtain ⟨r, q, h1, h2, h3, h4, h5, h6, h7, h8⟩ := h
  refine XR.aload_n d_L_law_212 rfl ?_
  refine XR.sarg (n := 1) d_L_law_213 d_L_law_214 d_L_law_216 d_L_law_217 d_L_law_218 (by decide) rfl rfl (by omega) hs ?_
  refine XR.aload_n d_L_law_219 rfl ?_
  refine XR.cSk (v := some (.int (hpC (hf [eI, eS, eU] 1) r.1))) (w' := xm (hpS r)) (as := [_, _, _]) d_L_law_220 l_L_94 ks_L_buy (c_L_buy h1 (fun X hX => by simpa using h2 X hX) (fun v hv => by obtain ⟨k, hk, -⟩ := h3 v hv; exact ⟨k, hk⟩)) rfl (xle rfl) (xle rfl) hkc hks ?_
  refine XR.istore d_L_law_223 (xle rfl) rfl ?_
  refine XR.aload_n d_L_law_225 rfl ?_
  refine XR.sarg (n := 1) d_L_law_226 d_L_law_227 d_L_law_229 d_L_law_230 d_L_law_231 (by decide) rfl rfl (by omega) hs ?_
  refine XR.cV (v := some (.int q.1)) (w' := xm q.2) (as := [_]) d_L_law_232 l_L_97 kv_M_buy h5 rfl (xle rfl) rfl rfl (xle rfl) (xle rfl) ?_
  refine XR.istore d_L_law_235 (xle rfl) rfl ?_
  exact XR.tail (pc := 237) d_L_law_237 d_L_law_238 d_L_law_241 d_L_law_243 d_L_law_248 d_L_law_250 d_L_law_253 d_L_law_254 d_L_law_255 d_L_law_256 d_L_law_258 d_L_law_259 d_L_law_260 d_L_law_265 (by decide) h6 (fun hc => h7 (h6.trans hc)) (k _ h8)
theorem law_buyRun (hi : i + 4 ≤ xsL E) (hs : xsL E ≤ 2048) (h : xStp E Inv i_B_buyRun 9 i_M_buyRun 6 [eI, eA, eS, eU] xV1 [.int (xsx E (i + 1)), .int (xsx E (i + 2))] σ) (hkc : 1 ≤ kc) (hks : 6 ≤ ks) (k : ∀ τ, Inv τ → XR E i_L_law 13 (kc - 1) (ks - 6) Post 1463 (lawL E i) [] (xm τ)) : XR E i_L_law 13 kc ks Post 268 (lawL E i) [] (xm σ) := by
  obtain ⟨r, q, h1, h2, h3, h4, h5, h6, h7, h8⟩ := h
  refine XR.aload_n d_L_law_268 rfl ?_
  refine XR.sarg (n := 1) d_L_law_269 d_L_law_270 d_L_law_272 d_L_law_273 d_L_law_274 (by decide) rfl rfl (by omega) hs ?_
  refine XR.sarg (n := 2) d_L_law_275 d_L_law_276 d_L_law_278 d_L_law_279 d_L_law_280 (by decide) rfl rfl (by omega) hs ?_
  refine XR.aload_n d_L_law_281 rfl ?_
  refine XR.cSk (v := some (.int (hpC (hf [eI, eA, eS, eU] 1) r.1))) (w' := xm (hpS r)) (as := [_, _, _, _]) d_L_law_282 l_L_98 ks_L_buyRun (c_L_buyRun h1 (fun X hX => by simpa using h2 X hX) (fun v hv => by obtain ⟨k, hk, -⟩ := h3 v hv; exact ⟨k, hk⟩)) rfl (xle rfl) (xle rfl) hkc hks ?_
  refine XR.istore d_L_law_285 (xle rfl) rfl ?_
  refine XR.aload_n d_L_law_287 rfl ?_
  refine XR.sarg (n := 1) d_L_law_288 d_L_law_289 d_L_law_291 d_L_law_292 d_L_law_293 (by decide) rfl rfl (by omega) hs ?_
  refine XR.sarg (n := 2) d_L_law_294 d_L_law_295 d_L_law_297 d_L_law_298 d_L_law_299 (by decide) rfl rfl (by omega) hs ?_
  refine XR.cV (v := some (.int q.1)) (w' := xm q.2) (as := [_, _]) d_L_law_300 l_L_100 kv_M_buyRun h5 rfl (xle rfl) rfl rfl (xle rfl) (xle rfl) ?_
  refine XR.istore d_L_law_303 (xle rfl) rfl ?_
  exact XR.tail (pc := 305) d_L_law_305 d_L_law_306 d_L_law_309 d_L_law_311 d_L_law_316 d_L_law_318 d_L_law_321 d_L_law_322 d_L_law_323 d_L_law_324 d_L_law_326 d_L_law_327 d_L_law_328 d_L_law_333 (by decide) h6 (fun hc => h7 (h6.trans hc)) (k _ h8)
theorem law_runKey (hi : i + 4 ≤ xsL E) (hs : xsL E ≤ 2048) (h : xStp E Inv i_B_runKey 7 i_M_runKey 3 [eN, eA] xV1 [.int (xsx E (i + 1)), .int (xsx E (i + 2))] σ) (hkc : 1 ≤ kc) (hks : 6 ≤ ks) (k : ∀ τ, Inv τ → XR E i_L_law 13 (kc - 1) (ks - 6) Post 1463 (lawL E i) [] (xm τ)) : XR E i_L_law 13 kc ks Post 336 (lawL E i) [] (xm σ) := by
  obtain ⟨r, q, h1, h2, h3, h4, h5, h6, h7, h8⟩ := h
  refine XR.aload_n d_L_law_336 rfl ?_
  refine XR.sarg (n := 1) d_L_law_337 d_L_law_338 d_L_law_340 d_L_law_341 d_L_law_342 (by decide) rfl rfl (by omega) hs ?_
  refine XR.sarg (n := 2) d_L_law_343 d_L_law_344 d_L_law_346 d_L_law_347 d_L_law_348 (by decide) rfl rfl (by omega) hs ?_
  refine XR.aload_n d_L_law_349 rfl ?_
  refine XR.cSk (v := some (.int (hpC (hf [eN, eA] 1) r.1))) (w' := xm (hpS r)) (as := [_, _, _, _]) d_L_law_350 l_L_101 ks_L_runKey (c_L_runKey h1 (fun X hX => by simpa using h2 X hX) (fun v hv => by obtain ⟨k, hk, -⟩ := h3 v hv; exact ⟨k, hk⟩)) rfl (xle rfl) (xle rfl) hkc hks ?_
  refine XR.istore d_L_law_353 (xle rfl) rfl ?_
  refine XR.aload_n d_L_law_355 rfl ?_
  refine XR.sarg (n := 1) d_L_law_356 d_L_law_357 d_L_law_359 d_L_law_360 d_L_law_361 (by decide) rfl rfl (by omega) hs ?_
  refine XR.sarg (n := 2) d_L_law_362 d_L_law_363 d_L_law_365 d_L_law_366 d_L_law_367 (by decide) rfl rfl (by omega) hs ?_
  refine XR.cV (v := some (.int q.1)) (w' := xm q.2) (as := [_, _]) d_L_law_368 l_L_103 kv_M_runKey h5 rfl (xle rfl) rfl rfl (xle rfl) (xle rfl) ?_
  refine XR.istore d_L_law_371 (xle rfl) rfl ?_
  exact XR.tail (pc := 373) d_L_law_373 d_L_law_374 d_L_law_377 d_L_law_379 d_L_law_384 d_L_law_386 d_L_law_389 d_L_law_390 d_L_law_391 d_L_law_392 d_L_law_394 d_L_law_395 d_L_law_396 d_L_law_401 (by decide) h6 (fun hc => h7 (h6.trans hc)) (k _ h8)
theorem law_sell (hi : i + 4 ≤ xsL E) (hs : xsL E ≤ 2048) (h : xStp E Inv i_B_sell 7 i_M_sell 3 [eN, eA] xV1 [.int (xsx E (i + 1))] σ) (hkc : 1 ≤ kc) (hks : 6 ≤ ks) (k : ∀ τ, Inv τ → XR E i_L_law 13 (kc - 1) (ks - 6) Post 1463 (lawL E i) [] (xm τ)) : XR E i_L_law 13 kc ks Post 404 (lawL E i) [] (xm σ) := by
  obtain ⟨r, q, h1, h2, h3, h4, h5, h6, h7, h8⟩ := h
  refine XR.aload_n d_L_law_404 rfl ?_
  refine XR.sarg (n := 1) d_L_law_405 d_L_law_406 d_L_law_408 d_L_law_409 d_L_law_410 (by decide) rfl rfl (by omega) hs ?_
  refine XR.aload_n d_L_law_411 rfl ?_
  refine XR.cSk (v := some (.int (hpC (hf [eN, eA] 1) r.1))) (w' := xm (hpS r)) (as := [_, _, _]) d_L_law_412 l_L_104 ks_L_sell (c_L_sell h1 (fun X hX => by simpa using h2 X hX) (fun v hv => by obtain ⟨k, hk, -⟩ := h3 v hv; exact ⟨k, hk⟩)) rfl (xle rfl) (xle rfl) hkc hks ?_
  refine XR.istore d_L_law_415 (xle rfl) rfl ?_
  refine XR.aload_n d_L_law_417 rfl ?_
  refine XR.sarg (n := 1) d_L_law_418 d_L_law_419 d_L_law_421 d_L_law_422 d_L_law_423 (by decide) rfl rfl (by omega) hs ?_
  refine XR.cV (v := some (.int q.1)) (w' := xm q.2) (as := [_]) d_L_law_424 l_L_106 kv_M_sell h5 rfl (xle rfl) rfl rfl (xle rfl) (xle rfl) ?_
  refine XR.istore d_L_law_427 (xle rfl) rfl ?_
  exact XR.tail (pc := 429) d_L_law_429 d_L_law_430 d_L_law_433 d_L_law_435 d_L_law_440 d_L_law_442 d_L_law_445 d_L_law_446 d_L_law_447 d_L_law_448 d_L_law_450 d_L_law_451 d_L_law_452 d_L_law_457 (by decide) h6 (fun hc => h7 (h6.trans hc)) (k _ h8)
theorem law_weak (hi : i + 4 ≤ xsL E) (hs : xsL E ≤ 2048) (h : xStp E Inv i_B_weak 7 i_M_weak 3 [eN] xV1 [.int (xsx E (i + 1))] σ) (hkc : 1 ≤ kc) (hks : 6 ≤ ks) (k : ∀ τ, Inv τ → XR E i_L_law 13 (kc - 1) (ks - 6) Post 1463 (lawL E i) [] (xm τ)) : XR E i_L_law 13 kc ks Post 460 (lawL E i) [] (xm σ) := by
  obtain ⟨r, q, h1, h2, h3, h4, h5, h6, h7, h8⟩ := h
  refine XR.aload_n d_L_law_460 rfl ?_
  refine XR.sarg (n := 1) d_L_law_461 d_L_law_462 d_L_law_464 d_L_law_465 d_L_law_466 (by decide) rfl rfl (by omega) hs ?_
  refine XR.aload_n d_L_law_467 rfl ?_
  refine XR.cSk (v := some (.int (hpC (hf [eN] 1) r.1))) (w' := xm (hpS r)) (as := [_, _, _]) d_L_law_468 l_L_107 ks_L_weak (c_L_weak h1 (fun X hX => by simpa using h2 X hX) (fun v hv => by obtain ⟨k, hk, -⟩ := h3 v hv; exact ⟨k, hk⟩)) rfl (xle rfl) (xle rfl) hkc hks ?_
  refine XR.istore d_L_law_471 (xle rfl) rfl ?_
  refine XR.aload_n d_L_law_473 rfl ?_
  refine XR.sarg (n := 1) d_L_law_474 d_L_law_475 d_L_law_477 d_L_law_478 d_L_law_479 (by decide) rfl rfl (by omega) hs ?_
  refine XR.cV (v := some (.int q.1)) (w' := xm q.2) (as := [_]) d_L_law_480 l_L_109 kv_M_weak h5 rfl (xle rfl) rfl rfl (xle rfl) (xle rfl) ?_
  refine XR.istore d_L_law_483 (xle rfl) rfl ?_
  exact XR.tail (pc := 485) d_L_law_485 d_L_law_486 d_L_law_489 d_L_law_491 d_L_law_496 d_L_law_498 d_L_law_501 d_L_law_502 d_L_law_503 d_L_law_504 d_L_law_506 d_L_law_507 d_L_law_508 d_L_law_513 (by decide) h6 (fun hc => h7 (h6.trans hc)) (k _ h8)
theorem law_read (hi : i + 4 ≤ xsL E) (hs : xsL E ≤ 2048) (h : xStp E Inv i_B_read 7 i_M_read 3 [eN, eI] xV1 [.int (xsx E (i + 1)), .int (xsx E (i + 2))] σ) (hkc : 1 ≤ kc) (hks : 6 ≤ ks) (k : ∀ τ, Inv τ → XR E i_L_law 13 (kc - 1) (ks - 6) Post 1463 (lawL E i) [] (xm τ)) : XR E i_L_law 13 kc ks Post 516 (lawL E i) [] (xm σ) := by
  obtain ⟨r, q, h1, h2, h3, h4, h5, h6, h7, h8⟩ := h
  refine XR.aload_n d_L_law_516 rfl ?_
  refine XR.sarg (n := 1) d_L_law_517 d_L_law_518 d_L_law_520 d_L_law_521 d_L_law_522 (by decide) rfl rfl (by omega) hs ?_
  refine XR.sarg (n := 2) d_L_law_523 d_L_law_524 d_L_law_526 d_L_law_527 d_L_law_528 (by decide) rfl rfl (by omega) hs ?_
  refine XR.aload_n d_L_law_529 rfl ?_
  refine XR.cSk (v := some (.int (hpC (hf [eN, eI] 1) r.1))) (w' := xm (hpS r)) (as := [_, _, _, _]) d_L_law_530 l_L_110 ks_L_read (c_L_read h1 (fun X hX => by simpa using h2 X hX) (fun v hv => by obtain ⟨k, hk, -⟩ := h3 v hv; exact ⟨k, hk⟩)) rfl (xle rfl) (xle rfl) hkc hks ?_
  refine XR.istore d_L_law_533 (xle rfl) rfl ?_
  refine XR.aload_n d_L_law_535 rfl ?_
  refine XR.sarg (n := 1) d_L_law_536 d_L_law_537 d_L_law_539 d_L_law_540 d_L_law_541 (by decide) rfl rfl (by omega) hs ?_
  refine XR.sarg (n := 2) d_L_law_542 d_L_law_543 d_L_law_545 d_L_law_546 d_L_law_547 (by decide) rfl rfl (by omega) hs ?_
  refine XR.cV (v := some (.int q.1)) (w' := xm q.2) (as := [_, _]) d_L_law_548 l_L_112 kv_M_read h5 rfl (xle rfl) rfl rfl (xle rfl) (xle rfl) ?_
  refine XR.istore d_L_law_551 (xle rfl) rfl ?_
  exact XR.tail (pc := 553) d_L_law_553 d_L_law_554 d_L_law_557 d_L_law_559 d_L_law_564 d_L_law_566 d_L_law_569 d_L_law_570 d_L_law_571 d_L_law_572 d_L_law_574 d_L_law_575 d_L_law_576 d_L_law_581 (by decide) h6 (fun hc => h7 (h6.trans hc)) (k _ h8)
theorem law_write (hi : i + 4 ≤ xsL E) (hs : xsL E ≤ 2048) (h : xStp E Inv i_B_write 7 i_M_write 3 [eN, eA, eI] xV1 [.int (xsx E (i + 1)), .int (xsx E (i + 2)), .int (xsx E (i + 3))] σ) (hkc : 1 ≤ kc) (hks : 6 ≤ ks) (k : ∀ τ, Inv τ → XR E i_L_law 13 (kc - 1) (ks - 6) Post 1463 (lawL E i) [] (xm τ)) : XR E i_L_law 13 kc ks Post 584 (lawL E i) [] (xm σ) := by
  obtain ⟨r, q, h1, h2, h3, h4, h5, h6, h7, h8⟩ := h
  refine XR.aload_n d_L_law_584 rfl ?_
  refine XR.sarg (n := 1) d_L_law_585 d_L_law_586 d_L_law_588 d_L_law_589 d_L_law_590 (by decide) rfl rfl (by omega) hs ?_
  refine XR.sarg (n := 2) d_L_law_591 d_L_law_592 d_L_law_594 d_L_law_595 d_L_law_596 (by decide) rfl rfl (by omega) hs ?_
  refine XR.sarg (n := 3) d_L_law_597 d_L_law_598 d_L_law_600 d_L_law_601 d_L_law_602 (by decide) rfl rfl (by omega) hs ?_
  refine XR.aload_n d_L_law_603 rfl ?_
  refine XR.cSk (v := some (.int (hpC (hf [eN, eA, eI] 1) r.1))) (w' := xm (hpS r)) (as := [_, _, _, _, _]) d_L_law_604 l_L_113 ks_L_write (c_L_write h1 (fun X hX => by simpa using h2 X hX) (fun v hv => by obtain ⟨k, hk, -⟩ := h3 v hv; exact ⟨k, hk⟩)) rfl (xle rfl) (xle rfl) hkc hks ?_
  refine XR.istore d_L_law_607 (xle rfl) rfl ?_
  refine XR.aload_n d_L_law_609 rfl ?_
  refine XR.sarg (n := 1) d_L_law_610 d_L_law_611 d_L_law_613 d_L_law_614 d_L_law_615 (by decide) rfl rfl (by omega) hs ?_
  refine XR.sarg (n := 2) d_L_law_616 d_L_law_617 d_L_law_619 d_L_law_620 d_L_law_621 (by decide) rfl rfl (by omega) hs ?_
  refine XR.sarg (n := 3) d_L_law_622 d_L_law_623 d_L_law_625 d_L_law_626 d_L_law_627 (by decide) rfl rfl (by omega) hs ?_
  refine XR.cV (v := some (.int q.1)) (w' := xm q.2) (as := [_, _, _]) d_L_law_628 l_L_116 kv_M_write h5 rfl (xle rfl) rfl rfl (xle rfl) (xle rfl) ?_
  refine XR.istore d_L_law_631 (xle rfl) rfl ?_
  exact XR.tail (pc := 633) d_L_law_633 d_L_law_634 d_L_law_637 d_L_law_639 d_L_law_644 d_L_law_646 d_L_law_649 d_L_law_650 d_L_law_651 d_L_law_652 d_L_law_654 d_L_law_655 d_L_law_656 d_L_law_661 (by decide) h6 (fun hc => h7 (h6.trans hc)) (k _ h8)
theorem law_move (hi : i + 4 ≤ xsL E) (hs : xsL E ≤ 2048) (h : xStp E Inv i_B_move 8 i_M_move 4 [eN, eA, eI, eS, eU] xV1 [.int (xsx E (i + 1)), .int (xsx E (i + 2))] σ) (hkc : 1 ≤ kc) (hks : 6 ≤ ks) (k : ∀ τ, Inv τ → XR E i_L_law 13 (kc - 1) (ks - 6) Post 1463 (lawL E i) [] (xm τ)) : XR E i_L_law 13 kc ks Post 664 (lawL E i) [] (xm σ) := by
  obtain ⟨r, q, h1, h2, h3, h4, h5, h6, h7, h8⟩ := h
  refine XR.aload_n d_L_law_664 rfl ?_
  refine XR.sarg (n := 1) d_L_law_665 d_L_law_666 d_L_law_668 d_L_law_669 d_L_law_670 (by decide) rfl rfl (by omega) hs ?_
  refine XR.sarg (n := 2) d_L_law_671 d_L_law_672 d_L_law_674 d_L_law_675 d_L_law_676 (by decide) rfl rfl (by omega) hs ?_
  refine XR.aload_n d_L_law_677 rfl ?_
  refine XR.cSk (v := some (.int (hpC (hf [eN, eA, eI, eS, eU] 1) r.1))) (w' := xm (hpS r)) (as := [_, _, _, _]) d_L_law_678 l_L_117 ks_L_move (c_L_move h1 (fun X hX => by simpa using h2 X hX) (fun v hv => by obtain ⟨k, hk, -⟩ := h3 v hv; exact ⟨k, hk⟩)) rfl (xle rfl) (xle rfl) hkc hks ?_
  refine XR.istore d_L_law_681 (xle rfl) rfl ?_
  refine XR.aload_n d_L_law_683 rfl ?_
  refine XR.sarg (n := 1) d_L_law_684 d_L_law_685 d_L_law_687 d_L_law_688 d_L_law_689 (by decide) rfl rfl (by omega) hs ?_
  refine XR.sarg (n := 2) d_L_law_690 d_L_law_691 d_L_law_693 d_L_law_694 d_L_law_695 (by decide) rfl rfl (by omega) hs ?_
  refine XR.cV (v := some (.int q.1)) (w' := xm q.2) (as := [_, _]) d_L_law_696 l_L_119 kv_M_move h5 rfl (xle rfl) rfl rfl (xle rfl) (xle rfl) ?_
  refine XR.istore d_L_law_699 (xle rfl) rfl ?_
  exact XR.tail (pc := 701) d_L_law_701 d_L_law_702 d_L_law_705 d_L_law_707 d_L_law_712 d_L_law_714 d_L_law_717 d_L_law_718 d_L_law_719 d_L_law_720 d_L_law_722 d_L_law_723 d_L_law_724 d_L_law_729 (by decide) h6 (fun hc => h7 (h6.trans hc)) (k _ h8)
theorem law_limit (hi : i + 4 ≤ xsL E) (hs : xsL E ≤ 2048) (h : xStp E Inv i_B_limit 8 i_M_limit 3 [eI, eA, eS] xV1 [.int (xsx E (i + 1)), .int (xsx E (i + 2))] σ) (hkc : 1 ≤ kc) (hks : 6 ≤ ks) (k : ∀ τ, Inv τ → XR E i_L_law 13 (kc - 1) (ks - 6) Post 1463 (lawL E i) [] (xm τ)) : XR E i_L_law 13 kc ks Post 732 (lawL E i) [] (xm σ) := by
  obtain ⟨r, q, h1, h2, h3, h4, h5, h6, h7, h8⟩ := h
  refine XR.aload_n d_L_law_732 rfl ?_
  refine XR.sarg (n := 1) d_L_law_733 d_L_law_734 d_L_law_736 d_L_law_737 d_L_law_738 (by decide) rfl rfl (by omega) hs ?_
  refine XR.sarg (n := 2) d_L_law_739 d_L_law_740 d_L_law_742 d_L_law_743 d_L_law_744 (by decide) rfl rfl (by omega) hs ?_
  refine XR.aload_n d_L_law_745 rfl ?_
  refine XR.cSk (v := some (.int (hpC (hf [eI, eA, eS] 1) r.1))) (w' := xm (hpS r)) (as := [_, _, _, _]) d_L_law_746 l_L_120 ks_L_limit (c_L_limit h1 (fun X hX => by simpa using h2 X hX) (fun v hv => by obtain ⟨k, hk, -⟩ := h3 v hv; exact ⟨k, hk⟩)) rfl (xle rfl) (xle rfl) hkc hks ?_
  refine XR.istore d_L_law_749 (xle rfl) rfl ?_
  refine XR.aload_n d_L_law_751 rfl ?_
  refine XR.sarg (n := 1) d_L_law_752 d_L_law_753 d_L_law_755 d_L_law_756 d_L_law_757 (by decide) rfl rfl (by omega) hs ?_
  refine XR.sarg (n := 2) d_L_law_758 d_L_law_759 d_L_law_761 d_L_law_762 d_L_law_763 (by decide) rfl rfl (by omega) hs ?_
  refine XR.cV (v := some (.int q.1)) (w' := xm q.2) (as := [_, _]) d_L_law_764 l_L_122 kv_M_limit h5 rfl (xle rfl) rfl rfl (xle rfl) (xle rfl) ?_
  refine XR.istore d_L_law_767 (xle rfl) rfl ?_
  exact XR.tail (pc := 769) d_L_law_769 d_L_law_770 d_L_law_773 d_L_law_775 d_L_law_780 d_L_law_782 d_L_law_785 d_L_law_786 d_L_law_787 d_L_law_788 d_L_law_790 d_L_law_791 d_L_law_792 d_L_law_797 (by decide) h6 (fun hc => h7 (h6.trans hc)) (k _ h8)
theorem law_reserve (hi : i + 4 ≤ xsL E) (hs : xsL E ≤ 2048) (h : xStp E Inv i_B_reserve 8 i_M_reserve 4 [eI, eA, eS, eU] xV1 [.int (xsx E (i + 1)), .int (xsx E (i + 2))] σ) (hkc : 1 ≤ kc) (hks : 6 ≤ ks) (k : ∀ τ, Inv τ → XR E i_L_law 13 (kc - 1) (ks - 6) Post 1463 (lawL E i) [] (xm τ)) : XR E i_L_law 13 kc ks Post 800 (lawL E i) [] (xm σ) := by
  obtain ⟨r, q, h1, h2, h3, h4, h5, h6, h7, h8⟩ := h
  refine XR.aload_n d_L_law_800 rfl ?_
  refine XR.sarg (n := 1) d_L_law_801 d_L_law_802 d_L_law_804 d_L_law_805 d_L_law_806 (by decide) rfl rfl (by omega) hs ?_
  refine XR.sarg (n := 2) d_L_law_807 d_L_law_808 d_L_law_810 d_L_law_811 d_L_law_812 (by decide) rfl rfl (by omega) hs ?_
  refine XR.aload_n d_L_law_813 rfl ?_
  refine XR.cSk (v := some (.int (hpC (hf [eI, eA, eS, eU] 1) r.1))) (w' := xm (hpS r)) (as := [_, _, _, _]) d_L_law_814 l_L_123 ks_L_reserve (c_L_reserve h1 (fun X hX => by simpa using h2 X hX) (fun v hv => by obtain ⟨k, hk, -⟩ := h3 v hv; exact ⟨k, hk⟩)) rfl (xle rfl) (xle rfl) hkc hks ?_
  refine XR.istore d_L_law_817 (xle rfl) rfl ?_
  refine XR.aload_n d_L_law_819 rfl ?_
  refine XR.sarg (n := 1) d_L_law_820 d_L_law_821 d_L_law_823 d_L_law_824 d_L_law_825 (by decide) rfl rfl (by omega) hs ?_
  refine XR.sarg (n := 2) d_L_law_826 d_L_law_827 d_L_law_829 d_L_law_830 d_L_law_831 (by decide) rfl rfl (by omega) hs ?_
  refine XR.cV (v := some (.int q.1)) (w' := xm q.2) (as := [_, _]) d_L_law_832 l_L_125 kv_M_reserve h5 rfl (xle rfl) rfl rfl (xle rfl) (xle rfl) ?_
  refine XR.istore d_L_law_835 (xle rfl) rfl ?_
  exact XR.tail (pc := 837) d_L_law_837 d_L_law_838 d_L_law_841 d_L_law_843 d_L_law_848 d_L_law_850 d_L_law_853 d_L_law_854 d_L_law_855 d_L_law_856 d_L_law_858 d_L_law_859 d_L_law_860 d_L_law_865 (by decide) h6 (fun hc => h7 (h6.trans hc)) (k _ h8)
theorem law_unreserve (hi : i + 4 ≤ xsL E) (hs : xsL E ≤ 2048) (h : xStp E Inv i_B_unreserve 8 i_M_unreserve 3 [eI, eA] xV1 [.int (xsx E (i + 1)), .int (xsx E (i + 2))] σ) (hkc : 1 ≤ kc) (hks : 6 ≤ ks) (k : ∀ τ, Inv τ → XR E i_L_law 13 (kc - 1) (ks - 6) Post 1463 (lawL E i) [] (xm τ)) : XR E i_L_law 13 kc ks Post 868 (lawL E i) [] (xm σ) := by
  obtain ⟨r, q, h1, h2, h3, h4, h5, h6, h7, h8⟩ := h
  refine XR.aload_n d_L_law_868 rfl ?_
  refine XR.sarg (n := 1) d_L_law_869 d_L_law_870 d_L_law_872 d_L_law_873 d_L_law_874 (by decide) rfl rfl (by omega) hs ?_
  refine XR.sarg (n := 2) d_L_law_875 d_L_law_876 d_L_law_878 d_L_law_879 d_L_law_880 (by decide) rfl rfl (by omega) hs ?_
  refine XR.aload_n d_L_law_881 rfl ?_
  refine XR.cSk (v := some (.int (hpC (hf [eI, eA] 1) r.1))) (w' := xm (hpS r)) (as := [_, _, _, _]) d_L_law_882 l_L_126 ks_L_unreserve (c_L_unreserve h1 (fun X hX => by simpa using h2 X hX) (fun v hv => by obtain ⟨k, hk, -⟩ := h3 v hv; exact ⟨k, hk⟩)) rfl (xle rfl) (xle rfl) hkc hks ?_
  refine XR.istore d_L_law_885 (xle rfl) rfl ?_
  refine XR.aload_n d_L_law_887 rfl ?_
  refine XR.sarg (n := 1) d_L_law_888 d_L_law_889 d_L_law_891 d_L_law_892 d_L_law_893 (by decide) rfl rfl (by omega) hs ?_
  refine XR.sarg (n := 2) d_L_law_894 d_L_law_895 d_L_law_897 d_L_law_898 d_L_law_899 (by decide) rfl rfl (by omega) hs ?_
  refine XR.cV (v := some (.int q.1)) (w' := xm q.2) (as := [_, _]) d_L_law_900 l_L_128 kv_M_unreserve h5 rfl (xle rfl) rfl rfl (xle rfl) (xle rfl) ?_
  refine XR.istore d_L_law_903 (xle rfl) rfl ?_
  exact XR.tail (pc := 905) d_L_law_905 d_L_law_906 d_L_law_909 d_L_law_911 d_L_law_916 d_L_law_918 d_L_law_921 d_L_law_922 d_L_law_923 d_L_law_924 d_L_law_926 d_L_law_927 d_L_law_928 d_L_law_933 (by decide) h6 (fun hc => h7 (h6.trans hc)) (k _ h8)
theorem law_freeze (hi : i + 4 ≤ xsL E) (hs : xsL E ≤ 2048) (h : xStp E Inv i_B_freeze 9 i_M_freeze 4 [eI, eA, eS] xVz [.int (xsx E (i + 1)), .int (bz (decide (¬ xsx E (i + 2) = 0)))] σ) (hkc : 1 ≤ kc) (hks : 6 ≤ ks) (k : ∀ τ, Inv τ → XR E i_L_law 13 (kc - 1) (ks - 6) Post 1463 (lawL E i) [] (xm τ)) : XR E i_L_law 13 kc ks Post 936 (lawL E i) [] (xm σ) := by
  obtain ⟨r, q, h1, h2, h3, h4, h5, h6, h7, h8⟩ := h
  by_cases hz : xsx E (i + 2) = 0
  · rw [show decide (¬ xsx E (i + 2) = 0) = false by simp [hz]] at h1 h5
    refine XR.aload_n d_L_law_936 rfl ?_
    refine XR.sarg (n := 1) d_L_law_937 d_L_law_938 d_L_law_940 d_L_law_941 d_L_law_942 (by decide) rfl rfl (by omega) hs ?_
    refine XR.sarg (n := 2) d_L_law_943 d_L_law_944 d_L_law_946 d_L_law_947 d_L_law_948 (by decide) rfl rfl (by omega) hs ?_
    refine XR.if_eq d_L_law_949 (tgt := 956) (by decide) (fun _ => ?_) (fun h => absurd hz h)
    refine XR.iconst d_L_law_956 (v := bz false) (by decide) ?_
    refine XR.aload_n d_L_law_957 rfl ?_
    refine XR.cSk (v := some (.int (hpC (hf [eI, eA, eS] 1) r.1))) (w' := xm (hpS r)) (as := [_, _, _, _]) d_L_law_958 l_L_129 ks_L_freeze (c_L_freeze h1 (fun X hX => by simpa using h2 X hX) (fun v hv => by obtain ⟨k, hk, hz⟩ := h3 v hv; exact ⟨k, hk, hz⟩)) rfl (xle rfl) (xle rfl) hkc hks ?_
    refine XR.istore d_L_law_961 (xle rfl) rfl ?_
    refine XR.aload_n d_L_law_963 rfl ?_
    refine XR.sarg (n := 1) d_L_law_964 d_L_law_965 d_L_law_967 d_L_law_968 d_L_law_969 (by decide) rfl rfl (by omega) hs ?_
    refine XR.sarg (n := 2) d_L_law_970 d_L_law_971 d_L_law_973 d_L_law_974 d_L_law_975 (by decide) rfl rfl (by omega) hs ?_
    refine XR.if_eq d_L_law_976 (tgt := 983) (by decide) (fun _ => ?_) (fun h => absurd hz h)
    refine XR.iconst d_L_law_983 (v := bz false) (by decide) ?_
    refine XR.cV (v := some (.int q.1)) (w' := xm q.2) (as := [_, _]) d_L_law_984 l_L_132 kv_M_freeze h5 rfl (xle rfl) rfl rfl (xle rfl) (xle rfl) ?_
    refine XR.istore d_L_law_987 (xle rfl) rfl ?_
    refine XR.aload_n d_L_law_989 rfl ?_
    refine XR.cV (as := []) d_L_law_990 l_L_90 kv_M_thrown c_M_thrown rfl (xle rfl) rfl rfl (xle rfl) (xle rfl) ?_
    refine XR.iload d_L_law_993 rfl ?_
    refine XR.icmp_eq d_L_law_995 (tgt := 1000) (by decide) (fun _ => ?_) (fun h => absurd h6 h)
    refine XR.iload d_L_law_1000 rfl ?_
    refine XR.if_ne d_L_law_1002 (tgt := 1024) (by decide) (fun _ => ?_) (fun h => ?_)
    · exact XR.goto d_L_law_1024 (tgt := 1463) (by decide) (XR.drop (L := lawL E i) (M := [_, _]) (k _ h8))
    · have hq := h7 (h6.trans h)
      refine XR.aload_n d_L_law_1005 rfl ?_
      refine XR.iconst d_L_law_1006 (v := nI 0) (by decide) ?_
      refine XR.laload d_L_law_1007 (xle rfl) (fun _ => rfl) (vp_in_nI (by decide) (by decide)) ?_
      refine XR.iload d_L_law_1008 rfl ?_
      rcases h4 with h9 | h9
      · rw [h9] at hq
        refine XR.if_eq d_L_law_1010 (tgt := 1017) (by decide) (fun _ => ?_) (fun h => absurd h9 h)
        refine XR.lconst d_L_law_1017 (v := (0 : Int32).toInt64) (by decide) ?_
        refine XR.lcmp d_L_law_1018 ?_
        refine XR.if_eq d_L_law_1019 (tgt := 1024) (by decide) (fun _ => ?_) (fun h' => absurd ?_ h')
        · exact XR.goto d_L_law_1024 (tgt := 1463) (by decide) (XR.drop (L := lawL E i) (M := [_, _]) (k _ h8))
        · rw [show (xm q.2).2.2 25 (nI 0).toNatClampNeg = 0 from hq]; exact lg_same _
      · rw [h9] at hq
        refine XR.if_eq d_L_law_1010 (tgt := 1017) (by decide) (fun h => absurd (h9.symm.trans h) (by decide)) (fun _ => ?_)
        refine XR.lconst d_L_law_1013 (v := (1 : Int32).toInt64) (by decide) ?_
        refine XR.goto d_L_law_1014 (tgt := 1018) (by decide) ?_
        refine XR.lcmp d_L_law_1018 ?_
        refine XR.if_eq d_L_law_1019 (tgt := 1024) (by decide) (fun _ => ?_) (fun h' => absurd ?_ h')
        · exact XR.goto d_L_law_1024 (tgt := 1463) (by decide) (XR.drop (L := lawL E i) (M := [_, _]) (k _ h8))
        · rw [show (xm q.2).2.2 25 (nI 0).toNatClampNeg = 1 from hq]; exact lg_same _
  · rw [show decide (¬ xsx E (i + 2) = 0) = true by simp [hz]] at h1 h5
    refine XR.aload_n d_L_law_936 rfl ?_
    refine XR.sarg (n := 1) d_L_law_937 d_L_law_938 d_L_law_940 d_L_law_941 d_L_law_942 (by decide) rfl rfl (by omega) hs ?_
    refine XR.sarg (n := 2) d_L_law_943 d_L_law_944 d_L_law_946 d_L_law_947 d_L_law_948 (by decide) rfl rfl (by omega) hs ?_
    refine XR.if_eq d_L_law_949 (tgt := 956) (by decide) (fun h => absurd h hz) (fun _ => ?_)
    refine XR.iconst d_L_law_952 (v := bz true) (by decide) ?_
    refine XR.goto d_L_law_953 (tgt := 957) (by decide) ?_
    refine XR.aload_n d_L_law_957 rfl ?_
    refine XR.cSk (v := some (.int (hpC (hf [eI, eA, eS] 1) r.1))) (w' := xm (hpS r)) (as := [_, _, _, _]) d_L_law_958 l_L_129 ks_L_freeze (c_L_freeze h1 (fun X hX => by simpa using h2 X hX) (fun v hv => by obtain ⟨k, hk, hz⟩ := h3 v hv; exact ⟨k, hk, hz⟩)) rfl (xle rfl) (xle rfl) hkc hks ?_
    refine XR.istore d_L_law_961 (xle rfl) rfl ?_
    refine XR.aload_n d_L_law_963 rfl ?_
    refine XR.sarg (n := 1) d_L_law_964 d_L_law_965 d_L_law_967 d_L_law_968 d_L_law_969 (by decide) rfl rfl (by omega) hs ?_
    refine XR.sarg (n := 2) d_L_law_970 d_L_law_971 d_L_law_973 d_L_law_974 d_L_law_975 (by decide) rfl rfl (by omega) hs ?_
    refine XR.if_eq d_L_law_976 (tgt := 983) (by decide) (fun h => absurd h hz) (fun _ => ?_)
    refine XR.iconst d_L_law_979 (v := bz true) (by decide) ?_
    refine XR.goto d_L_law_980 (tgt := 984) (by decide) ?_
    refine XR.cV (v := some (.int q.1)) (w' := xm q.2) (as := [_, _]) d_L_law_984 l_L_132 kv_M_freeze h5 rfl (xle rfl) rfl rfl (xle rfl) (xle rfl) ?_
    refine XR.istore d_L_law_987 (xle rfl) rfl ?_
    refine XR.aload_n d_L_law_989 rfl ?_
    refine XR.cV (as := []) d_L_law_990 l_L_90 kv_M_thrown c_M_thrown rfl (xle rfl) rfl rfl (xle rfl) (xle rfl) ?_
    refine XR.iload d_L_law_993 rfl ?_
    refine XR.icmp_eq d_L_law_995 (tgt := 1000) (by decide) (fun _ => ?_) (fun h => absurd h6 h)
    refine XR.iload d_L_law_1000 rfl ?_
    refine XR.if_ne d_L_law_1002 (tgt := 1024) (by decide) (fun _ => ?_) (fun h => ?_)
    · exact XR.goto d_L_law_1024 (tgt := 1463) (by decide) (XR.drop (L := lawL E i) (M := [_, _]) (k _ h8))
    · have hq := h7 (h6.trans h)
      refine XR.aload_n d_L_law_1005 rfl ?_
      refine XR.iconst d_L_law_1006 (v := nI 0) (by decide) ?_
      refine XR.laload d_L_law_1007 (xle rfl) (fun _ => rfl) (vp_in_nI (by decide) (by decide)) ?_
      refine XR.iload d_L_law_1008 rfl ?_
      rcases h4 with h9 | h9
      · rw [h9] at hq
        refine XR.if_eq d_L_law_1010 (tgt := 1017) (by decide) (fun _ => ?_) (fun h => absurd h9 h)
        refine XR.lconst d_L_law_1017 (v := (0 : Int32).toInt64) (by decide) ?_
        refine XR.lcmp d_L_law_1018 ?_
        refine XR.if_eq d_L_law_1019 (tgt := 1024) (by decide) (fun _ => ?_) (fun h' => absurd ?_ h')
        · exact XR.goto d_L_law_1024 (tgt := 1463) (by decide) (XR.drop (L := lawL E i) (M := [_, _]) (k _ h8))
        · rw [show (xm q.2).2.2 25 (nI 0).toNatClampNeg = 0 from hq]; exact lg_same _
      · rw [h9] at hq
        refine XR.if_eq d_L_law_1010 (tgt := 1017) (by decide) (fun h => absurd (h9.symm.trans h) (by decide)) (fun _ => ?_)
        refine XR.lconst d_L_law_1013 (v := (1 : Int32).toInt64) (by decide) ?_
        refine XR.goto d_L_law_1014 (tgt := 1018) (by decide) ?_
        refine XR.lcmp d_L_law_1018 ?_
        refine XR.if_eq d_L_law_1019 (tgt := 1024) (by decide) (fun _ => ?_) (fun h' => absurd ?_ h')
        · exact XR.goto d_L_law_1024 (tgt := 1463) (by decide) (XR.drop (L := lawL E i) (M := [_, _]) (k _ h8))
        · rw [show (xm q.2).2.2 25 (nI 0).toNatClampNeg = 1 from hq]; exact lg_same _
theorem law_destroy (hi : i + 4 ≤ xsL E) (hs : xsL E ≤ 2048) (h : xStp E Inv i_B_destroy 9 i_M_destroy 4 [eI, eA, eS] xV1 [.int (xsx E (i + 1))] σ) (hkc : 1 ≤ kc) (hks : 6 ≤ ks) (k : ∀ τ, Inv τ → XR E i_L_law 13 (kc - 1) (ks - 6) Post 1463 (lawL E i) [] (xm τ)) : XR E i_L_law 13 kc ks Post 1027 (lawL E i) [] (xm σ) := by
  obtain ⟨r, q, h1, h2, h3, h4, h5, h6, h7, h8⟩ := h
  refine XR.aload_n d_L_law_1027 rfl ?_
  refine XR.sarg (n := 1) d_L_law_1028 d_L_law_1029 d_L_law_1031 d_L_law_1032 d_L_law_1033 (by decide) rfl rfl (by omega) hs ?_
  refine XR.aload_n d_L_law_1034 rfl ?_
  refine XR.cSk (v := some (.int (hpC (hf [eI, eA, eS] 1) r.1))) (w' := xm (hpS r)) (as := [_, _, _]) d_L_law_1035 l_L_133 ks_L_destroy (c_L_destroy h1 (fun X hX => by simpa using h2 X hX) (fun v hv => by obtain ⟨k, hk, -⟩ := h3 v hv; exact ⟨k, hk⟩)) rfl (xle rfl) (xle rfl) hkc hks ?_
  refine XR.istore d_L_law_1038 (xle rfl) rfl ?_
  refine XR.aload_n d_L_law_1040 rfl ?_
  refine XR.sarg (n := 1) d_L_law_1041 d_L_law_1042 d_L_law_1044 d_L_law_1045 d_L_law_1046 (by decide) rfl rfl (by omega) hs ?_
  refine XR.cV (v := some (.int q.1)) (w' := xm q.2) (as := [_]) d_L_law_1047 l_L_135 kv_M_destroy h5 rfl (xle rfl) rfl rfl (xle rfl) (xle rfl) ?_
  refine XR.istore d_L_law_1050 (xle rfl) rfl ?_
  exact XR.tail (pc := 1052) d_L_law_1052 d_L_law_1053 d_L_law_1056 d_L_law_1058 d_L_law_1063 d_L_law_1065 d_L_law_1068 d_L_law_1069 d_L_law_1070 d_L_law_1071 d_L_law_1073 d_L_law_1074 d_L_law_1075 d_L_law_1080 (by decide) h6 (fun hc => h7 (h6.trans hc)) (k _ h8)
theorem law_work (hi : i + 4 ≤ xsL E) (hs : xsL E ≤ 2048) (h : xStp E Inv i_B_work 9 i_M_work 4 [eA] xV1 [.int (xsx E (i + 1))] σ) (hkc : 1 ≤ kc) (hks : 6 ≤ ks) (k : ∀ τ, Inv τ → XR E i_L_law 13 (kc - 1) (ks - 6) Post 1463 (lawL E i) [] (xm τ)) : XR E i_L_law 13 kc ks Post 1083 (lawL E i) [] (xm σ) := by
  obtain ⟨r, q, h1, h2, h3, h4, h5, h6, h7, h8⟩ := h
  refine XR.aload_n d_L_law_1083 rfl ?_
  refine XR.sarg (n := 1) d_L_law_1084 d_L_law_1085 d_L_law_1087 d_L_law_1088 d_L_law_1089 (by decide) rfl rfl (by omega) hs ?_
  refine XR.aload_n d_L_law_1090 rfl ?_
  refine XR.cSk (v := some (.int (hpC (hf [eA] 1) r.1))) (w' := xm (hpS r)) (as := [_, _, _]) d_L_law_1091 l_L_136 ks_L_work (c_L_work h1 (fun X hX => by simpa using h2 X hX) (fun v hv => by obtain ⟨k, hk, -⟩ := h3 v hv; exact ⟨k, hk⟩)) rfl (xle rfl) (xle rfl) hkc hks ?_
  refine XR.istore d_L_law_1094 (xle rfl) rfl ?_
  refine XR.aload_n d_L_law_1096 rfl ?_
  refine XR.sarg (n := 1) d_L_law_1097 d_L_law_1098 d_L_law_1100 d_L_law_1101 d_L_law_1102 (by decide) rfl rfl (by omega) hs ?_
  refine XR.cV (v := some (.int q.1)) (w' := xm q.2) (as := [_]) d_L_law_1103 l_L_138 kv_M_work h5 rfl (xle rfl) rfl rfl (xle rfl) (xle rfl) ?_
  refine XR.istore d_L_law_1106 (xle rfl) rfl ?_
  exact XR.tail (pc := 1108) d_L_law_1108 d_L_law_1109 d_L_law_1112 d_L_law_1114 d_L_law_1119 d_L_law_1121 d_L_law_1124 d_L_law_1125 d_L_law_1126 d_L_law_1127 d_L_law_1129 d_L_law_1130 d_L_law_1131 d_L_law_1136 (by decide) h6 (fun hc => h7 (h6.trans hc)) (k _ h8)
theorem law_handUp (hi : i + 4 ≤ xsL E) (hs : xsL E ≤ 2048) (h : xStp E Inv i_B_handUp 9 i_M_handUp 4 [eI, eA, eS] xV1 [.int (xsx E (i + 1))] σ) (hkc : 1 ≤ kc) (hks : 6 ≤ ks) (k : ∀ τ, Inv τ → XR E i_L_law 13 (kc - 1) (ks - 6) Post 1463 (lawL E i) [] (xm τ)) : XR E i_L_law 13 kc ks Post 1139 (lawL E i) [] (xm σ) := by
  obtain ⟨r, q, h1, h2, h3, h4, h5, h6, h7, h8⟩ := h
  refine XR.aload_n d_L_law_1139 rfl ?_
  refine XR.sarg (n := 1) d_L_law_1140 d_L_law_1141 d_L_law_1143 d_L_law_1144 d_L_law_1145 (by decide) rfl rfl (by omega) hs ?_
  refine XR.aload_n d_L_law_1146 rfl ?_
  refine XR.cSk (v := some (.int (hpC (hf [eI, eA, eS] 1) r.1))) (w' := xm (hpS r)) (as := [_, _, _]) d_L_law_1147 l_L_139 ks_L_handUp (c_L_handUp h1 (fun X hX => by simpa using h2 X hX) (fun v hv => by obtain ⟨k, hk, -⟩ := h3 v hv; exact ⟨k, hk⟩)) rfl (xle rfl) (xle rfl) hkc hks ?_
  refine XR.istore d_L_law_1150 (xle rfl) rfl ?_
  refine XR.aload_n d_L_law_1152 rfl ?_
  refine XR.sarg (n := 1) d_L_law_1153 d_L_law_1154 d_L_law_1156 d_L_law_1157 d_L_law_1158 (by decide) rfl rfl (by omega) hs ?_
  refine XR.cV (v := some (.int q.1)) (w' := xm q.2) (as := [_]) d_L_law_1159 l_L_141 kv_M_handUp h5 rfl (xle rfl) rfl rfl (xle rfl) (xle rfl) ?_
  refine XR.istore d_L_law_1162 (xle rfl) rfl ?_
  exact XR.tail (pc := 1164) d_L_law_1164 d_L_law_1165 d_L_law_1168 d_L_law_1170 d_L_law_1175 d_L_law_1177 d_L_law_1180 d_L_law_1181 d_L_law_1182 d_L_law_1183 d_L_law_1185 d_L_law_1186 d_L_law_1187 d_L_law_1192 (by decide) h6 (fun hc => h7 (h6.trans hc)) (k _ h8)
theorem law_told (hi : i + 4 ≤ xsL E) (hs : xsL E ≤ 2048) (h : xStp E Inv i_B_told 8 i_M_told 4 [eI, eA] xV1 [.int (xsx E (i + 1)), .int (xsx E (i + 2))] σ) (hkc : 1 ≤ kc) (hks : 6 ≤ ks) (k : ∀ τ, Inv τ → XR E i_L_law 13 (kc - 1) (ks - 6) Post 1463 (lawL E i) [] (xm τ)) : XR E i_L_law 13 kc ks Post 1195 (lawL E i) [] (xm σ) := by
  obtain ⟨r, q, h1, h2, h3, h4, h5, h6, h7, h8⟩ := h
  refine XR.aload_n d_L_law_1195 rfl ?_
  refine XR.sarg (n := 1) d_L_law_1196 d_L_law_1197 d_L_law_1199 d_L_law_1200 d_L_law_1201 (by decide) rfl rfl (by omega) hs ?_
  refine XR.sarg (n := 2) d_L_law_1202 d_L_law_1203 d_L_law_1205 d_L_law_1206 d_L_law_1207 (by decide) rfl rfl (by omega) hs ?_
  refine XR.aload_n d_L_law_1208 rfl ?_
  refine XR.cSk (v := some (.int (hpC (hf [eI, eA] 1) r.1))) (w' := xm (hpS r)) (as := [_, _, _, _]) d_L_law_1209 l_L_142 ks_L_told (c_L_told h1 (fun X hX => by simpa using h2 X hX) (fun v hv => by obtain ⟨k, hk, -⟩ := h3 v hv; exact ⟨k, hk⟩)) rfl (xle rfl) (xle rfl) hkc hks ?_
  refine XR.istore d_L_law_1212 (xle rfl) rfl ?_
  refine XR.aload_n d_L_law_1214 rfl ?_
  refine XR.sarg (n := 1) d_L_law_1215 d_L_law_1216 d_L_law_1218 d_L_law_1219 d_L_law_1220 (by decide) rfl rfl (by omega) hs ?_
  refine XR.sarg (n := 2) d_L_law_1221 d_L_law_1222 d_L_law_1224 d_L_law_1225 d_L_law_1226 (by decide) rfl rfl (by omega) hs ?_
  refine XR.cV (v := some (.int q.1)) (w' := xm q.2) (as := [_, _]) d_L_law_1227 l_L_144 kv_M_told h5 rfl (xle rfl) rfl rfl (xle rfl) (xle rfl) ?_
  refine XR.istore d_L_law_1230 (xle rfl) rfl ?_
  exact XR.tail (pc := 1232) d_L_law_1232 d_L_law_1233 d_L_law_1236 d_L_law_1238 d_L_law_1243 d_L_law_1245 d_L_law_1248 d_L_law_1249 d_L_law_1250 d_L_law_1251 d_L_law_1253 d_L_law_1254 d_L_law_1255 d_L_law_1260 (by decide) h6 (fun hc => h7 (h6.trans hc)) (k _ h8)
theorem law_page (hi : i + 4 ≤ xsL E) (hs : xsL E ≤ 2048) (h : xStp E Inv i_B_page 8 i_M_page 3 [eI] xV1 [.int (xsx E (i + 1)), .int (xsx E (i + 2))] σ) (hkc : 1 ≤ kc) (hks : 6 ≤ ks) (k : ∀ τ, Inv τ → XR E i_L_law 13 (kc - 1) (ks - 6) Post 1463 (lawL E i) [] (xm τ)) : XR E i_L_law 13 kc ks Post 1263 (lawL E i) [] (xm σ) := by
  obtain ⟨r, q, h1, h2, h3, h4, h5, h6, h7, h8⟩ := h
  refine XR.aload_n d_L_law_1263 rfl ?_
  refine XR.sarg (n := 1) d_L_law_1264 d_L_law_1265 d_L_law_1267 d_L_law_1268 d_L_law_1269 (by decide) rfl rfl (by omega) hs ?_
  refine XR.sarg (n := 2) d_L_law_1270 d_L_law_1271 d_L_law_1273 d_L_law_1274 d_L_law_1275 (by decide) rfl rfl (by omega) hs ?_
  refine XR.aload_n d_L_law_1276 rfl ?_
  refine XR.cSk (v := some (.int (hpC (hf [eI] 1) r.1))) (w' := xm (hpS r)) (as := [_, _, _, _]) d_L_law_1277 l_L_145 ks_L_page (c_L_page h1 (fun X hX => by simpa using h2 X hX) (fun v hv => by obtain ⟨k, hk, -⟩ := h3 v hv; exact ⟨k, hk⟩)) rfl (xle rfl) (xle rfl) hkc hks ?_
  refine XR.istore d_L_law_1280 (xle rfl) rfl ?_
  refine XR.aload_n d_L_law_1282 rfl ?_
  refine XR.sarg (n := 1) d_L_law_1283 d_L_law_1284 d_L_law_1286 d_L_law_1287 d_L_law_1288 (by decide) rfl rfl (by omega) hs ?_
  refine XR.sarg (n := 2) d_L_law_1289 d_L_law_1290 d_L_law_1292 d_L_law_1293 d_L_law_1294 (by decide) rfl rfl (by omega) hs ?_
  refine XR.cV (v := some (.int q.1)) (w' := xm q.2) (as := [_, _]) d_L_law_1295 l_L_147 kv_M_page h5 rfl (xle rfl) rfl rfl (xle rfl) (xle rfl) ?_
  refine XR.istore d_L_law_1298 (xle rfl) rfl ?_
  exact XR.tail (pc := 1300) d_L_law_1300 d_L_law_1301 d_L_law_1304 d_L_law_1306 d_L_law_1311 d_L_law_1313 d_L_law_1316 d_L_law_1317 d_L_law_1318 d_L_law_1319 d_L_law_1321 d_L_law_1322 d_L_law_1323 d_L_law_1328 (by decide) h6 (fun hc => h7 (h6.trans hc)) (k _ h8)
theorem law_owner (hi : i + 4 ≤ xsL E) (hs : xsL E ≤ 2048) (h : xStp E Inv i_B_owner 7 i_M_owner 3 [eN] xV1 [.int (xsx E (i + 1))] σ) (hkc : 1 ≤ kc) (hks : 6 ≤ ks) (k : ∀ τ, Inv τ → XR E i_L_law 13 (kc - 1) (ks - 6) Post 1463 (lawL E i) [] (xm τ)) : XR E i_L_law 13 kc ks Post 1331 (lawL E i) [] (xm σ) := by
  obtain ⟨r, q, h1, h2, h3, h4, h5, h6, h7, h8⟩ := h
  refine XR.aload_n d_L_law_1331 rfl ?_
  refine XR.sarg (n := 1) d_L_law_1332 d_L_law_1333 d_L_law_1335 d_L_law_1336 d_L_law_1337 (by decide) rfl rfl (by omega) hs ?_
  refine XR.aload_n d_L_law_1338 rfl ?_
  refine XR.cSk (v := some (.int (hpC (hf [eN] 1) r.1))) (w' := xm (hpS r)) (as := [_, _, _]) d_L_law_1339 l_L_148 ks_L_owner (c_L_owner h1 (fun X hX => by simpa using h2 X hX) (fun v hv => by obtain ⟨k, hk, -⟩ := h3 v hv; exact ⟨k, hk⟩)) rfl (xle rfl) (xle rfl) hkc hks ?_
  refine XR.istore d_L_law_1342 (xle rfl) rfl ?_
  refine XR.aload_n d_L_law_1344 rfl ?_
  refine XR.sarg (n := 1) d_L_law_1345 d_L_law_1346 d_L_law_1348 d_L_law_1349 d_L_law_1350 (by decide) rfl rfl (by omega) hs ?_
  refine XR.cV (v := some (.int q.1)) (w' := xm q.2) (as := [_]) d_L_law_1351 l_L_150 kv_M_owner h5 rfl (xle rfl) rfl rfl (xle rfl) (xle rfl) ?_
  refine XR.istore d_L_law_1354 (xle rfl) rfl ?_
  exact XR.tail (pc := 1356) d_L_law_1356 d_L_law_1357 d_L_law_1360 d_L_law_1362 d_L_law_1367 d_L_law_1369 d_L_law_1372 d_L_law_1373 d_L_law_1374 d_L_law_1375 d_L_law_1377 d_L_law_1378 d_L_law_1379 d_L_law_1384 (by decide) h6 (fun hc => h7 (h6.trans hc)) (k _ h8)
theorem law_isAlive (hi : i + 4 ≤ xsL E) (hs : xsL E ≤ 2048) (h : xSt0 E Inv i_B_isAlive 3 i_M_isAlive 3 [.int (xsx E (i + 1))] σ) (k : ∀ τ, Inv τ → XR E i_L_law 13 kc ks Post 1463 (lawL E i) [] (xm τ)) : XR E i_L_law 13 kc ks Post 1387 (lawL E i) [] (xm σ) := by
  obtain ⟨v, τ, ρ, h1, h2, h3⟩ := h
  refine XR.aload_n d_L_law_1387 rfl ?_
  refine XR.sarg (n := 1) d_L_law_1388 d_L_law_1389 d_L_law_1391 d_L_law_1392 d_L_law_1393 (by decide) rfl rfl (by omega) hs ?_
  refine XR.cV (as := [_]) d_L_law_1394 l_L_151 kv_B_isAlive h1 rfl (xle rfl) rfl rfl (xle rfl) (xle rfl) ?_
  refine XR.aload_n d_L_law_1397 rfl ?_
  refine XR.sarg (n := 1) d_L_law_1398 d_L_law_1399 d_L_law_1401 d_L_law_1402 d_L_law_1403 (by decide) rfl rfl (by omega) hs ?_
  refine XR.cV (as := [_]) d_L_law_1404 l_L_155 kv_M_isAlive h2 rfl (xle rfl) rfl rfl (xle rfl) (xle rfl) ?_
  exact XR.icmp_eq d_L_law_1407 (tgt := 1463) (by decide) (fun _ => k _ h3) (fun h => absurd rfl h)
theorem law_refused (hi : i + 4 ≤ xsL E) (hs : xsL E ≤ 2048) (h : xSt0 E Inv i_B_refused 1 i_M_refused 1 [] σ) (k : ∀ τ, Inv τ → XR E i_L_law 13 kc ks Post 1463 (lawL E i) [] (xm τ)) : XR E i_L_law 13 kc ks Post 1412 (lawL E i) [] (xm σ) := by
  obtain ⟨v, τ, ρ, h1, h2, h3⟩ := h
  refine XR.aload_n d_L_law_1412 rfl ?_
  refine XR.cV (as := []) d_L_law_1413 l_L_156 kv_B_refused h1 rfl (xle rfl) rfl rfl (xle rfl) (xle rfl) ?_
  refine XR.aload_n d_L_law_1416 rfl ?_
  refine XR.cV (as := []) d_L_law_1417 l_L_159 kv_M_refused h2 rfl (xle rfl) rfl rfl (xle rfl) (xle rfl) ?_
  exact XR.icmp_eq d_L_law_1420 (tgt := 1463) (by decide) (fun _ => k _ h3) (fun h => absurd rfl h)
theorem law_count (hi : i + 4 ≤ xsL E) (hs : xsL E ≤ 2048) (h : xSt0 E Inv i_B_count 4 i_M_count 3 [.int (xsx E (i + 1))] σ) (k : ∀ τ, Inv τ → XR E i_L_law 13 kc ks Post 1463 (lawL E i) [] (xm τ)) : XR E i_L_law 13 kc ks Post 1425 (lawL E i) [] (xm σ) := by
  obtain ⟨v, τ, ρ, h1, h2, h3⟩ := h
  refine XR.aload_n d_L_law_1425 rfl ?_
  refine XR.sarg (n := 1) d_L_law_1426 d_L_law_1427 d_L_law_1429 d_L_law_1430 d_L_law_1431 (by decide) rfl rfl (by omega) hs ?_
  refine XR.cV (as := [_]) d_L_law_1432 l_L_160 kv_B_count h1 rfl (xle rfl) rfl rfl (xle rfl) (xle rfl) ?_
  refine XR.aload_n d_L_law_1435 rfl ?_
  refine XR.sarg (n := 1) d_L_law_1436 d_L_law_1437 d_L_law_1439 d_L_law_1440 d_L_law_1441 (by decide) rfl rfl (by omega) hs ?_
  refine XR.cV (as := [_]) d_L_law_1442 l_L_163 kv_M_count h2 rfl (xle rfl) rfl rfl (xle rfl) (xle rfl) ?_
  exact XR.icmp_eq d_L_law_1445 (tgt := 1463) (by decide) (fun _ => k _ h3) (fun h => absurd rfl h)
theorem law_astray (hi : i + 4 ≤ xsL E) (hs : xsL E ≤ 2048) (h : xSt0 E Inv i_B_astray 3 i_M_astray 1 [] σ) (k : ∀ τ, Inv τ → XR E i_L_law 13 kc ks Post 1463 (lawL E i) [] (xm τ)) : XR E i_L_law 13 kc ks Post 1450 (lawL E i) [] (xm σ) := by
  obtain ⟨v, τ, ρ, h1, h2, h3⟩ := h
  refine XR.aload_n d_L_law_1450 rfl ?_
  refine XR.cV (as := []) d_L_law_1451 l_L_164 kv_B_astray h1 rfl (xle rfl) rfl rfl (xle rfl) (xle rfl) ?_
  refine XR.aload_n d_L_law_1454 rfl ?_
  refine XR.cV (as := []) d_L_law_1455 l_L_167 kv_M_astray h2 rfl (xle rfl) rfl rfl (xle rfl) (xle rfl) ?_
  exact XR.icmp_eq d_L_law_1458 (tgt := 1463) (by decide) (fun _ => k _ h3) (fun h => absurd rfl h)
end XLaw2
theorem law_sub {L : Nat} (hL : L ≤ 2048) : (Int32.ofNat L - nI 4).toInt = (L : Int) - 4 := by
  have e1 : (nI L).toInt = (L : Int) := nI_toInt (by omega)
  have e2 : (nI 4).toInt = 4 := by decide
  rw [show Int32.ofNat L = nI L from rfl, tiS (by rw [e1, e2]; omega) (by rw [e1, e2]; omega), e1, e2]
theorem law_cmp {L i : Nat} (hL : L ≤ 2048) (hi : i ≤ 2048) (h : L < i + 4) : Int32.ofNat L - nI 4 < nI i := by
  rw [Int32.lt_iff_toInt_lt, law_sub hL, nI_toInt (by omega)]; omega
theorem law_cmp' {L i : Nat} (hL : L ≤ 2048) (hi : i ≤ 2048) (h : ¬ Int32.ofNat L - nI 4 < nI i) : i + 4 ≤ L := by
  rw [Int32.lt_iff_toInt_lt, law_sub hL, nI_toInt (by omega)] at h; omega
section XLaw3
variable {E : xE} {Inv : Nat → xS → Prop}
def lawS (E : xE) (Inv : Nat → xS → Prop) : Prop :=
  (∀ t σ (x y : Int32), t < 512 → Inv t σ → xStp E (Inv (t + 1)) i_B_bank 8 i_M_bank 3 [eI, eA, eS, eU] xV1 [.int x, .int y] σ) ∧
  (∀ t σ (x : Int32), t < 512 → Inv t σ → xStp E (Inv (t + 1)) i_B_buy 9 i_M_buy 6 [eI, eS, eU] xV1 [.int x] σ) ∧
  (∀ t σ (x y : Int32), t < 512 → Inv t σ → xStp E (Inv (t + 1)) i_B_buyRun 9 i_M_buyRun 6 [eI, eA, eS, eU] xV1 [.int x, .int y] σ) ∧
  (∀ t σ (x y : Int32), t < 512 → Inv t σ → xStp E (Inv (t + 1)) i_B_runKey 7 i_M_runKey 3 [eN, eA] xV1 [.int x, .int y] σ) ∧
  (∀ t σ (x : Int32), t < 512 → Inv t σ → xStp E (Inv (t + 1)) i_B_sell 7 i_M_sell 3 [eN, eA] xV1 [.int x] σ) ∧
  (∀ t σ (x : Int32), t < 512 → Inv t σ → xStp E (Inv (t + 1)) i_B_weak 7 i_M_weak 3 [eN] xV1 [.int x] σ) ∧
  (∀ t σ (x y : Int32), t < 512 → Inv t σ → xStp E (Inv (t + 1)) i_B_read 7 i_M_read 3 [eN, eI] xV1 [.int x, .int y] σ) ∧
  (∀ t σ (x y z : Int32), t < 512 → Inv t σ → xStp E (Inv (t + 1)) i_B_write 7 i_M_write 3 [eN, eA, eI] xV1 [.int x, .int y, .int z] σ) ∧
  (∀ t σ (x y : Int32), t < 512 → Inv t σ → xStp E (Inv (t + 1)) i_B_move 8 i_M_move 4 [eN, eA, eI, eS, eU] xV1 [.int x, .int y] σ) ∧
  (∀ t σ (x y : Int32), t < 512 → Inv t σ → xStp E (Inv (t + 1)) i_B_limit 8 i_M_limit 3 [eI, eA, eS] xV1 [.int x, .int y] σ) ∧
  (∀ t σ (x y : Int32), t < 512 → Inv t σ → xStp E (Inv (t + 1)) i_B_reserve 8 i_M_reserve 4 [eI, eA, eS, eU] xV1 [.int x, .int y] σ) ∧
  (∀ t σ (x y : Int32), t < 512 → Inv t σ → xStp E (Inv (t + 1)) i_B_unreserve 8 i_M_unreserve 3 [eI, eA] xV1 [.int x, .int y] σ) ∧
  (∀ t σ (x : Int32) (y : Bool), t < 512 → Inv t σ → xStp E (Inv (t + 1)) i_B_freeze 9 i_M_freeze 4 [eI, eA, eS] xVz [.int x, .int (bz y)] σ) ∧
  (∀ t σ (x : Int32), t < 512 → Inv t σ → xStp E (Inv (t + 1)) i_B_destroy 9 i_M_destroy 4 [eI, eA, eS] xV1 [.int x] σ) ∧
  (∀ t σ (x : Int32), t < 512 → Inv t σ → xStp E (Inv (t + 1)) i_B_work 9 i_M_work 4 [eA] xV1 [.int x] σ) ∧
  (∀ t σ (x : Int32), t < 512 → Inv t σ → xStp E (Inv (t + 1)) i_B_handUp 9 i_M_handUp 4 [eI, eA, eS] xV1 [.int x] σ) ∧
  (∀ t σ (x y : Int32), t < 512 → Inv t σ → xStp E (Inv (t + 1)) i_B_told 8 i_M_told 4 [eI, eA] xV1 [.int x, .int y] σ) ∧
  (∀ t σ (x y : Int32), t < 512 → Inv t σ → xStp E (Inv (t + 1)) i_B_page 8 i_M_page 3 [eI] xV1 [.int x, .int y] σ) ∧
  (∀ t σ (x : Int32), t < 512 → Inv t σ → xStp E (Inv (t + 1)) i_B_owner 7 i_M_owner 3 [eN] xV1 [.int x] σ) ∧
  (∀ t σ (x : Int32), t < 512 → Inv t σ → xSt0 E (Inv (t + 1)) i_B_isAlive 3 i_M_isAlive 3 [.int x] σ) ∧
  (∀ t σ, t < 512 → Inv t σ → xSt0 E (Inv (t + 1)) i_B_refused 1 i_M_refused 1 [] σ) ∧
  (∀ t σ (x : Int32), t < 512 → Inv t σ → xSt0 E (Inv (t + 1)) i_B_count 4 i_M_count 3 [.int x] σ) ∧
  (∀ t σ, t < 512 → Inv t σ → xSt0 E (Inv (t + 1)) i_B_astray 3 i_M_astray 1 [] σ)
theorem law_op (hS : lawS E Inv) (hs : xsL E ≤ 2048) {i t n kc ks : Nat} {σ : xS} (ht : t < 512) (hi : i + 4 ≤ xsL E) (hkc : n + 1 ≤ kc) (hks : 6 * n + 6 ≤ ks) (hI : Inv t σ) (k : ∀ kc ks τ, n ≤ kc → 6 * n ≤ ks → Inv (t + 1) τ → XR E i_L_law 13 kc ks lawP 1463 (lawL E i) [] (xm τ)) (k0 : ∀ σ, Inv t σ → Inv (t + 1) σ) : XR E i_L_law 13 kc ks lawP 32 (lawL E i) [] (xm σ) := by
  obtain ⟨s_bank, s_buy, s_buyRun, s_runKey, s_sell, s_weak, s_read, s_write, s_move, s_limit, s_reserve, s_unreserve, s_freeze, s_destroy, s_work, s_handUp, s_told, s_page, s_owner, s_isAlive, s_refused, s_count, s_astray⟩ := hS
  refine XR.aload_n d_L_law_32 rfl ?_
  refine XR.iload d_L_law_33 rfl ?_
  refine XR.sload d_L_law_35 (vp_in_nI (by omega) (by omega)) ?_
  refine XR.bipush d_L_law_36 (v := 31) (by decide) ?_
  refine XR.iand d_L_law_38 ?_
  obtain ⟨m, hm, hx⟩ := pk_andE (xsx E (nI i).toNatClampNeg) (m := 31) 5 (by decide)
  rw [hx]
  have hc : m = 0 ∨ m = 1 ∨ m = 2 ∨ m = 3 ∨ m = 4 ∨ m = 5 ∨ m = 6 ∨ m = 7 ∨ m = 8 ∨ m = 9 ∨ m = 10 ∨ m = 11 ∨ m = 12 ∨ m = 13 ∨ m = 14 ∨ m = 15 ∨ m = 16 ∨ m = 17 ∨ m = 18 ∨ m = 19 ∨ m = 20 ∨ m = 21 ∨ m = 22 ∨ 22 < m := by omega
  rcases hc with rfl | rfl | rfl | rfl | rfl | rfl | rfl | rfl | rfl | rfl | rfl | rfl | rfl | rfl | rfl | rfl | rfl | rfl | rfl | rfl | rfl | rfl | rfl | hm2
  · refine XR.tableIn d_L_law_39 (tgt := 144) (off := 105) (by decide) (by decide) (by decide) (by decide) ?_
    exact law_bank hi hs (s_bank t σ _ _ ht hI) (by omega) (by omega) (fun τ hτ => k (kc - 1) (ks - 6) τ (by omega) (by omega) hτ)
  · refine XR.tableIn d_L_law_39 (tgt := 212) (off := 173) (by decide) (by decide) (by decide) (by decide) ?_
    exact law_buy hi hs (s_buy t σ _ ht hI) (by omega) (by omega) (fun τ hτ => k (kc - 1) (ks - 6) τ (by omega) (by omega) hτ)
  · refine XR.tableIn d_L_law_39 (tgt := 268) (off := 229) (by decide) (by decide) (by decide) (by decide) ?_
    exact law_buyRun hi hs (s_buyRun t σ _ _ ht hI) (by omega) (by omega) (fun τ hτ => k (kc - 1) (ks - 6) τ (by omega) (by omega) hτ)
  · refine XR.tableIn d_L_law_39 (tgt := 336) (off := 297) (by decide) (by decide) (by decide) (by decide) ?_
    exact law_runKey hi hs (s_runKey t σ _ _ ht hI) (by omega) (by omega) (fun τ hτ => k (kc - 1) (ks - 6) τ (by omega) (by omega) hτ)
  · refine XR.tableIn d_L_law_39 (tgt := 404) (off := 365) (by decide) (by decide) (by decide) (by decide) ?_
    exact law_sell hi hs (s_sell t σ _ ht hI) (by omega) (by omega) (fun τ hτ => k (kc - 1) (ks - 6) τ (by omega) (by omega) hτ)
  · refine XR.tableIn d_L_law_39 (tgt := 460) (off := 421) (by decide) (by decide) (by decide) (by decide) ?_
    exact law_weak hi hs (s_weak t σ _ ht hI) (by omega) (by omega) (fun τ hτ => k (kc - 1) (ks - 6) τ (by omega) (by omega) hτ)
  · refine XR.tableIn d_L_law_39 (tgt := 516) (off := 477) (by decide) (by decide) (by decide) (by decide) ?_
    exact law_read hi hs (s_read t σ _ _ ht hI) (by omega) (by omega) (fun τ hτ => k (kc - 1) (ks - 6) τ (by omega) (by omega) hτ)
  · refine XR.tableIn d_L_law_39 (tgt := 584) (off := 545) (by decide) (by decide) (by decide) (by decide) ?_
    exact law_write hi hs (s_write t σ _ _ _ ht hI) (by omega) (by omega) (fun τ hτ => k (kc - 1) (ks - 6) τ (by omega) (by omega) hτ)
  · refine XR.tableIn d_L_law_39 (tgt := 664) (off := 625) (by decide) (by decide) (by decide) (by decide) ?_
    exact law_move hi hs (s_move t σ _ _ ht hI) (by omega) (by omega) (fun τ hτ => k (kc - 1) (ks - 6) τ (by omega) (by omega) hτ)
  · refine XR.tableIn d_L_law_39 (tgt := 732) (off := 693) (by decide) (by decide) (by decide) (by decide) ?_
    exact law_limit hi hs (s_limit t σ _ _ ht hI) (by omega) (by omega) (fun τ hτ => k (kc - 1) (ks - 6) τ (by omega) (by omega) hτ)
  · refine XR.tableIn d_L_law_39 (tgt := 800) (off := 761) (by decide) (by decide) (by decide) (by decide) ?_
    exact law_reserve hi hs (s_reserve t σ _ _ ht hI) (by omega) (by omega) (fun τ hτ => k (kc - 1) (ks - 6) τ (by omega) (by omega) hτ)
  · refine XR.tableIn d_L_law_39 (tgt := 868) (off := 829) (by decide) (by decide) (by decide) (by decide) ?_
    exact law_unreserve hi hs (s_unreserve t σ _ _ ht hI) (by omega) (by omega) (fun τ hτ => k (kc - 1) (ks - 6) τ (by omega) (by omega) hτ)
  · refine XR.tableIn d_L_law_39 (tgt := 936) (off := 897) (by decide) (by decide) (by decide) (by decide) ?_
    exact law_freeze hi hs (s_freeze t σ _ _ ht hI) (by omega) (by omega) (fun τ hτ => k (kc - 1) (ks - 6) τ (by omega) (by omega) hτ)
  · refine XR.tableIn d_L_law_39 (tgt := 1027) (off := 988) (by decide) (by decide) (by decide) (by decide) ?_
    exact law_destroy hi hs (s_destroy t σ _ ht hI) (by omega) (by omega) (fun τ hτ => k (kc - 1) (ks - 6) τ (by omega) (by omega) hτ)
  · refine XR.tableIn d_L_law_39 (tgt := 1083) (off := 1044) (by decide) (by decide) (by decide) (by decide) ?_
    exact law_work hi hs (s_work t σ _ ht hI) (by omega) (by omega) (fun τ hτ => k (kc - 1) (ks - 6) τ (by omega) (by omega) hτ)
  · refine XR.tableIn d_L_law_39 (tgt := 1139) (off := 1100) (by decide) (by decide) (by decide) (by decide) ?_
    exact law_handUp hi hs (s_handUp t σ _ ht hI) (by omega) (by omega) (fun τ hτ => k (kc - 1) (ks - 6) τ (by omega) (by omega) hτ)
  · refine XR.tableIn d_L_law_39 (tgt := 1195) (off := 1156) (by decide) (by decide) (by decide) (by decide) ?_
    exact law_told hi hs (s_told t σ _ _ ht hI) (by omega) (by omega) (fun τ hτ => k (kc - 1) (ks - 6) τ (by omega) (by omega) hτ)
  · refine XR.tableIn d_L_law_39 (tgt := 1263) (off := 1224) (by decide) (by decide) (by decide) (by decide) ?_
    exact law_page hi hs (s_page t σ _ _ ht hI) (by omega) (by omega) (fun τ hτ => k (kc - 1) (ks - 6) τ (by omega) (by omega) hτ)
  · refine XR.tableIn d_L_law_39 (tgt := 1331) (off := 1292) (by decide) (by decide) (by decide) (by decide) ?_
    exact law_owner hi hs (s_owner t σ _ ht hI) (by omega) (by omega) (fun τ hτ => k (kc - 1) (ks - 6) τ (by omega) (by omega) hτ)
  · refine XR.tableIn d_L_law_39 (tgt := 1387) (off := 1348) (by decide) (by decide) (by decide) (by decide) ?_
    exact law_isAlive hi hs (s_isAlive t σ _ ht hI) (fun τ hτ => k kc ks τ (by omega) (by omega) hτ)
  · refine XR.tableIn d_L_law_39 (tgt := 1412) (off := 1373) (by decide) (by decide) (by decide) (by decide) ?_
    exact law_refused hi hs (s_refused t σ ht hI) (fun τ hτ => k kc ks τ (by omega) (by omega) hτ)
  · refine XR.tableIn d_L_law_39 (tgt := 1425) (off := 1386) (by decide) (by decide) (by decide) (by decide) ?_
    exact law_count hi hs (s_count t σ _ ht hI) (fun τ hτ => k kc ks τ (by omega) (by omega) hτ)
  · refine XR.tableIn d_L_law_39 (tgt := 1450) (off := 1411) (by decide) (by decide) (by decide) (by decide) ?_
    exact law_astray hi hs (s_astray t σ ht hI) (fun τ hτ => k kc ks τ (by omega) (by omega) hτ)
  · refine XR.tableOut d_L_law_39 (tgt := 1463) (Or.inr (by rw [nI_toInt (by omega)]; omega)) (by decide) ?_
    exact k kc ks σ (by omega) (by omega) (k0 σ hI)
theorem law_loop (hS : lawS E Inv) (hs : xsL E ≤ 2048) (k0 : ∀ t σ, Inv t σ → Inv (t + 1) σ) : ∀ (n i t kc ks : Nat) (σ : xS), i = 4 * t → i ≤ 2048 → xsL E < i + 4 * n + 4 → n ≤ kc → 6 * n ≤ ks → Inv t σ → XR E i_L_law 13 kc ks lawP 23 (lawL E i) [] (xm σ) := by
  intro n
  induction n with
  | zero =>
    intro i t kc ks σ hit hi hn hkc hks hI
    refine XR.iload d_L_law_23 rfl ?_
    refine XR.aload_n d_L_law_25 rfl ?_
    refine XR.slen d_L_law_26 ?_
    refine XR.iconst d_L_law_27 (v := nI 4) (by decide) ?_
    refine XR.isub d_L_law_28 ?_
    refine XR.icmp_gt d_L_law_29 (tgt := 1469) (by decide) (fun _ => ?_) (fun h => absurd ?_ h)
    · refine XR.iconst d_L_law_1469 (v := 1) (by decide) ?_
      exact XR.zret1 d_L_law_1470 rfl rfl
    · exact law_cmp hs hi (by omega)
  | succ n ih =>
    intro i t kc ks σ hit hi hn hkc hks hI
    refine XR.iload d_L_law_23 rfl ?_
    refine XR.aload_n d_L_law_25 rfl ?_
    refine XR.slen d_L_law_26 ?_
    refine XR.iconst d_L_law_27 (v := nI 4) (by decide) ?_
    refine XR.isub d_L_law_28 ?_
    refine XR.icmp_gt d_L_law_29 (tgt := 1469) (by decide) (fun _ => ?_) (fun h => ?_)
    · refine XR.iconst d_L_law_1469 (v := 1) (by decide) ?_
      exact XR.zret1 d_L_law_1470 rfl rfl
    · have hi4 : i + 4 ≤ xsL E := law_cmp' hs hi h
      refine law_op hS hs (t := t) (n := n) (by omega) hi4 hkc (by omega) hI (fun kc ks τ h1 h2 h3 => ?_) (k0 t)
      refine XR.iinc d_L_law_1463 rfl (v := nI (i + 4)) (by rw [← nI_add]; rfl) (xle rfl) rfl ?_
      refine XR.goto d_L_law_1466 (tgt := 23) (by decide) ?_
      exact ih (i + 4) (t + 1) kc ks τ (by omega) (by omega) (by omega) h1 h2 h3
theorem law_body (hS : lawS E Inv) (hs : xsL E ≤ 2048) (k0 : ∀ t σ, Inv t σ → Inv (t + 1) σ) (hI : Inv 0 xsM) : XR E i_L_law 13 538 6767 lawP 0 [.ref (xsb E)] [] (0, 0, xz0) := by
  refine XR.newc (kc := 537) (ks := 6764) (N := 3) (n := 0) (r := 0) (σ := xz0) d_L_law_0 (xle rfl) c_L_8 in_PageBanks it_PageBanks rfl uin_B tyB_ok (df_B E) rfl ?_
  refine XR.dup d_L_law_3 rfl ?_
  refine XR.cI d_L_law_4 l_L_80 ki_B_init c_B_init rfl (xle rfl) (xle rfl) (xle rfl) (xle rfl) ?_
  refine XR.astore_n d_L_law_7 (xle rfl) rfl ?_
  refine XR.newc (kc := 523) (ks := 4809) (N := 14) (n := 14) (r := 13) (σ := xsB) d_L_law_8 (xle rfl) c_L_81 in_PageBanksModel it_PageBanksModel rfl uin_M tyM_ok (df_M E) rfl ?_
  refine XR.dup d_L_law_11 rfl ?_
  refine XR.cI d_L_law_12 l_L_83 ki_M_init c_M_init rfl (xle rfl) (xle rfl) (xle rfl) (xle rfl) ?_
  refine XR.astore_n d_L_law_15 (xle rfl) rfl ?_
  refine XR.iconst d_L_law_16 (v := nI 1) (by decide) ?_
  refine XR.newaJ (a := 1) (kc := 512) (ks := 3072) d_L_law_17 rfl (xle rfl) ar_long (by decide) (by decide) (by decide) rfl ?_
  refine XR.astore_n d_L_law_19 (xle rfl) rfl ?_
  refine XR.iconst d_L_law_20 (v := nI 0) (by decide) ?_
  refine XR.istore d_L_law_21 (xle rfl) rfl ?_
  exact law_loop hS hs k0 512 0 0 _ _ xsM rfl (xle rfl) (by omega) (xle rfl) (xle rfl) hI
end XLaw3
