/-! the locals -/
def xst : List Value → Nat → Value → List Value
  | [], 0, v => [v]
  | [], _ + 1, _ => []
  | _ :: r, 0, v => v :: r
  | a :: r, i + 1, v => a :: xst r i v
theorem xst_get (v : Value) : ∀ (L : List Value) (i j : Nat) (u : Value), (xst L i v)[j]? = some u → (j = i ∧ u = v) ∨ (j ≠ i ∧ L[j]? = some u)
  | [], 0, 0, u, h => by simp [xst] at h; exact Or.inl ⟨rfl, h.symm⟩
  | [], 0, j + 1, u, h => by simp [xst] at h
  | [], i + 1, j, u, h => by simp [xst] at h
  | a :: r, 0, 0, u, h => by simp [xst] at h; exact Or.inl ⟨rfl, h.symm⟩
  | a :: r, 0, j + 1, u, h => by simp [xst] at h; exact Or.inr ⟨by omega, by simpa using h⟩
  | a :: r, i + 1, 0, u, h => by simp [xst] at h; exact Or.inr ⟨by omega, by simpa using h⟩
  | a :: r, i + 1, j + 1, u, h => by
    simp only [xst, List.getElem?_cons_succ] at h
    rcases xst_get v r i j u h with ⟨h1, h2⟩ | ⟨h1, h2⟩
    · exact Or.inl ⟨by omega, h2⟩
    · exact Or.inr ⟨by omega, by simpa using h2⟩
def xz : Nat → List Value → List (Nat × Value)
  | _, [] => []
  | k, v :: r => (k, v) :: xz (k + 1) r
theorem xz_get : ∀ (L : List Value) (k i : Nat) (v : Value), L[i]? = some v → (xz k L)[i]? = some (k + i, v)
  | [], k, i, v, h => by simp at h
  | a :: r, k, 0, v, h => by simp at h; simp [xz, h]
  | a :: r, k, i + 1, v, h => by
    have := xz_get r (k + 1) i v (by simpa using h)
    simp only [xz, List.getElem?_cons_succ, this]
    congr 2; omega
theorem xz_mem : ∀ (L : List Value) (k : Nat) (q : Nat × Value), q ∈ xz k L → ∃ i, q.1 = k + i ∧ L[i]? = some q.2
  | [], k, q, h => by simp [xz] at h
  | a :: r, k, q, h => by
    simp only [xz, List.mem_cons] at h
    rcases h with rfl | h
    · exact ⟨0, rfl, rfl⟩
    · obtain ⟨i, h1, h2⟩ := xz_mem r (k + 1) q h
      exact ⟨i + 1, by omega, by simpa using h2⟩
theorem xL.has {ls : Array Slot} {n : Nat} {L : List Value} (h : xL ls n L) : lv_has ls n (xz 0 L) :=
  ⟨h.1, h.2.1, fun q hq => by obtain ⟨i, h1, h2⟩ := xz_mem L 0 q hq; rw [h1, Nat.zero_add]; exact h.2.2.2 i _ h2⟩
theorem xL.stored {ls ls' : Array Slot} {n i : Nat} {L : List Value} {v : Value} (h : xL ls n L) (hv : v.category = 1) (h' : lv_has ls' n ((i, v) :: (xz 0 L).filter (fun q => !(q.1 == i) && !(q.1 + 1 == i && q.2.category == 2)))) : xL ls' n (xst L i v) := by
  refine ⟨h'.1, h'.2.1, fun u hu => ?_, fun j u hj => ?_⟩
  · obtain ⟨j, hj⟩ := List.getElem?_of_mem hu
    rcases xst_get v L i j u hj with ⟨-, rfl⟩ | ⟨-, h2⟩
    · exact hv
    · exact h.2.2.1 u (List.mem_of_getElem? h2)
  · rcases xst_get v L i j u hj with ⟨rfl, rfl⟩ | ⟨h1, h2⟩
    · exact h'.2.2 (j, u) List.mem_cons_self
    · refine h'.2.2 (j, u) (List.mem_cons_of_mem _ (List.mem_filter.mpr ⟨List.mem_of_getElem? (by simpa using xz_get L 0 j u h2), ?_⟩))
      have hc := h.2.2.1 u (List.mem_of_getElem? h2)
      simp [h1, hc]
theorem xL.entry {vs : List Value} {n : Nat} (hc : ∀ v ∈ vs, v.category = 1) (h : vs.length ≤ n) : xL ((lg_sl vs ++ List.replicate (n - (lg_sl vs).length) Slot.unset).toArray) n vs := by
  have e1 : ∀ vs : List Value, (∀ v ∈ vs, v.category = 1) → (lg_sl vs).length = vs.length := by
    intro vs
    induction vs with
    | nil => intro _; rfl
    | cons a r ih =>
      intro h
      have h1 := h a List.mem_cons_self
      have h2 := ih fun v hv => h v (List.mem_cons_of_mem _ hv)
      simp [lg_sl, h1] at h2 ⊢
      omega
  have e2 : ∀ (vs : List Value) (k : Nat), (∀ v ∈ vs, v.category = 1) → lv_args k vs = xz k vs := by
    intro vs
    induction vs with
    | nil => intro k _; rfl
    | cons a r ih =>
      intro k h
      have h1 := h a List.mem_cons_self
      simp [lv_args, xz, h1, ih (k + 1) fun v hv => h v (List.mem_cons_of_mem _ hv)]
  have h2 := lv_entry vs (n := n) (by rw [e1 vs hc]; exact h)
  rw [e2 vs 0 hc] at h2
  refine ⟨h2.1, h2.2.1, hc, fun i v hi => ?_⟩
  have := h2.2.2 (0 + i, v) (List.mem_of_getElem? (xz_get vs 0 i v hi))
  simpa using this
theorem xL.sub {ls : Array Slot} {n : Nat} {L L' : List Value} (h : xL ls n L) (hs : ∀ (i : Nat) (v : Value), L'[i]? = some v → L[i]? = some v) : xL ls n L' :=
  ⟨h.1, h.2.1, fun v hv => by obtain ⟨j, hj⟩ := List.getElem?_of_mem hv; exact h.2.2.1 v (List.mem_of_getElem? (hs j v hj)), fun i v hi => h.2.2.2 i v (hs i v hi)⟩
section XRules
variable {E : xE} {mi : xMI} {d kc ks pc : Nat} {Post : xO → xWd → Prop} {L st : List Value} {w : xWd}
theorem XR.lift {pc2 : Nat} {st2 : List Value} (h : ∀ {p : Program} {l : Launch} {e : Env} {R : Room} {s : State} {m : MethodId} {args : Array Value} {below : List Frame} {meth : Method} {c : Code} {H : Heap} {locs : List Loc} {cells slots : Nat} {Q : State → Prop} {ls : Array Slot}, p.tables.exec = Jvm.exec → c.code = xcc mi → xL ls (xnL mi) L → W p l e R s m args below meth c H locs cells slots Q (F0 m pc2 ls st2) → W p l e R s m args below meth c H locs cells slots Q (F0 m pc ls st))
    (k : XR E mi d kc ks Post pc2 L st2 w) : XR E mi d kc ks Post pc L st w :=
  fun p e R s m args below meth c hB H locs cells slots ls hl hH hS h1 h2 => h hB.1 hB.2.1 hl (k p e R s m args below meth c hB H locs cells slots ls hl hH hS h1 h2)
theorem XR.iconst {n : Int} {v : Int32} (hd : decode (xcc mi) pc = .ok (.iconst n, 1)) (hv : Int32.ofInt n = v) (k : XR E mi d kc ks Post (pc + 1) L (.int v :: st) w) : XR E mi d kc ks Post pc L st w :=
  XR.lift (fun hx hb _ kk => lv_iconst hx hb hd hv kk) k
theorem XR.bipush {n : Int} {v : Int32} (hd : decode (xcc mi) pc = .ok (.bipush n, 2)) (hv : (Int8.ofInt n).toInt32 = v) (k : XR E mi d kc ks Post (pc + 2) L (.int v :: st) w) : XR E mi d kc ks Post pc L st w :=
  XR.lift (fun hx hb _ kk => lv_bipush hx hb hd hv kk) k
theorem XR.sipush {n : Int} {v : Int32} (hd : decode (xcc mi) pc = .ok (.sipush n, 3)) (hv : (Int16.ofInt n).toInt32 = v) (k : XR E mi d kc ks Post (pc + 3) L (.int v :: st) w) : XR E mi d kc ks Post pc L st w :=
  XR.lift (fun hx hb _ kk => lv_sipush hx hb hd hv kk) k
theorem XR.lconst {n : Fin 2} {v : Int64} (hd : decode (xcc mi) pc = .ok (.lconst n, 1)) (hv : Int64.ofNat (n : Nat) = v) (k : XR E mi d kc ks Post (pc + 1) L (.long v :: st) w) : XR E mi d kc ks Post pc L st w :=
  XR.lift (fun hx hb _ kk => lv_lconst hx hb hd hv kk) k
theorem XR.iload_n {j : Fin 4} {x : Int32} (hd : decode (xcc mi) pc = .ok (.iload_n j, 1)) (hl : L[(j : Nat)]? = some (.int x)) (k : XR E mi d kc ks Post (pc + 1) L (.int x :: st) w) : XR E mi d kc ks Post pc L st w :=
  XR.lift (fun hx hb h kk => lv_iload_n hx hb hd rfl (h.2.2.2 _ _ hl) kk) k
theorem XR.iload {i : Nat} {x : Int32} (hd : decode (xcc mi) pc = .ok (.iload i, 2)) (hl : L[i]? = some (.int x)) (k : XR E mi d kc ks Post (pc + 2) L (.int x :: st) w) : XR E mi d kc ks Post pc L st w :=
  XR.lift (fun hx hb h kk => lv_iload hx hb hd (h.2.2.2 _ _ hl) kk) k
theorem XR.aload_n {j : Fin 4} {x : Nat} (hd : decode (xcc mi) pc = .ok (.aload_n j, 1)) (hl : L[(j : Nat)]? = some (.ref x)) (k : XR E mi d kc ks Post (pc + 1) L (.ref x :: st) w) : XR E mi d kc ks Post pc L st w :=
  XR.lift (fun hx hb h kk => lv_aload_n hx hb hd rfl (h.2.2.2 _ _ hl) kk) k
theorem XR.aload {i x : Nat} (hd : decode (xcc mi) pc = .ok (.aload i, 2)) (hl : L[i]? = some (.ref x)) (k : XR E mi d kc ks Post (pc + 2) L (.ref x :: st) w) : XR E mi d kc ks Post pc L st w :=
  XR.lift (fun hx hb h kk => lv_aload hx hb hd (h.2.2.2 _ _ hl) kk) k
theorem XR.istore_n {j : Fin 4} {x : Int32} {L' : List Value} (hd : decode (xcc mi) pc = .ok (.istore_n j, 1)) (hj : (j : Nat) < xnL mi) (hl : xst L (j : Nat) (.int x) = L') (k : XR E mi d kc ks Post (pc + 1) L' st w) : XR E mi d kc ks Post pc L (.int x :: st) w := by
  subst hl
  intro p e R s m args below meth c hB H locs cells slots ls hl hH hS h1 h2
  exact lv_istore_n hB.1 hB.2.1 hd rfl hl.has hj rfl fun ls' h' => k p e R s m args below meth c hB H locs cells slots ls' (hl.stored rfl h') hH hS h1 h2
theorem XR.istore {i : Nat} {x : Int32} {L' : List Value} (hd : decode (xcc mi) pc = .ok (.istore i, 2)) (hj : i < xnL mi) (hl : xst L i (.int x) = L') (k : XR E mi d kc ks Post (pc + 2) L' st w) : XR E mi d kc ks Post pc L (.int x :: st) w := by
  subst hl
  intro p e R s m args below meth c hB H locs cells slots ls hl hH hS h1 h2
  exact lv_istore hB.1 hB.2.1 hd hl.has hj rfl fun ls' h' => k p e R s m args below meth c hB H locs cells slots ls' (hl.stored rfl h') hH hS h1 h2
theorem XR.astore_n {j : Fin 4} {x : Nat} {L' : List Value} (hd : decode (xcc mi) pc = .ok (.astore_n j, 1)) (hj : (j : Nat) < xnL mi) (hl : xst L (j : Nat) (.ref x) = L') (k : XR E mi d kc ks Post (pc + 1) L' st w) : XR E mi d kc ks Post pc L (.ref x :: st) w := by
  subst hl
  intro p e R s m args below meth c hB H locs cells slots ls hl hH hS h1 h2
  exact lv_astore_n hB.1 hB.2.1 hd rfl hl.has hj rfl fun ls' h' => k p e R s m args below meth c hB H locs cells slots ls' (hl.stored rfl h') hH hS h1 h2
theorem XR.astore {i x : Nat} {L' : List Value} (hd : decode (xcc mi) pc = .ok (.astore i, 2)) (hj : i < xnL mi) (hl : xst L i (.ref x) = L') (k : XR E mi d kc ks Post (pc + 2) L' st w) : XR E mi d kc ks Post pc L (.ref x :: st) w := by
  subst hl
  intro p e R s m args below meth c hB H locs cells slots ls hl hH hS h1 h2
  exact lv_astore hB.1 hB.2.1 hd hl.has hj rfl fun ls' h' => k p e R s m args below meth c hB H locs cells slots ls' (hl.stored rfl h') hH hS h1 h2
theorem XR.iinc {i : Nat} {n : Int} {x v : Int32} {L' : List Value} (hd : decode (xcc mi) pc = .ok (.iinc i n, 3)) (hi : L[i]? = some (.int x)) (hv : x + Int32.ofInt n = v) (hj : i < xnL mi) (hl : xst L i (.int v) = L') (k : XR E mi d kc ks Post (pc + 3) L' st w) : XR E mi d kc ks Post pc L st w := by
  subst hl
  intro p e R s m args below meth c hB H locs cells slots ls hl hH hS h1 h2
  exact lv_iinc hB.1 hB.2.1 hd hl.has (by simpa using xz_get L 0 i _ hi) hv hj rfl fun ls' h' => k p e R s m args below meth c hB H locs cells slots ls' (hl.stored rfl h') hH hS h1 h2
theorem XR.iadd {x y : Int32} (hd : decode (xcc mi) pc = .ok (.iadd, 1)) (k : XR E mi d kc ks Post (pc + 1) L (.int (x + y) :: st) w) : XR E mi d kc ks Post pc L (.int y :: .int x :: st) w := XR.lift (fun hx hb _ kk => lv_iadd hx hb hd kk) k
theorem XR.isub {x y : Int32} (hd : decode (xcc mi) pc = .ok (.isub, 1)) (k : XR E mi d kc ks Post (pc + 1) L (.int (x - y) :: st) w) : XR E mi d kc ks Post pc L (.int y :: .int x :: st) w := XR.lift (fun hx hb _ kk => lv_isub hx hb hd kk) k
theorem XR.imul {x y : Int32} (hd : decode (xcc mi) pc = .ok (.imul, 1)) (k : XR E mi d kc ks Post (pc + 1) L (.int (x * y) :: st) w) : XR E mi d kc ks Post pc L (.int y :: .int x :: st) w := XR.lift (fun hx hb _ kk => lv_imul hx hb hd kk) k
theorem XR.iand {x y : Int32} (hd : decode (xcc mi) pc = .ok (.iand, 1)) (k : XR E mi d kc ks Post (pc + 1) L (.int (x &&& y) :: st) w) : XR E mi d kc ks Post pc L (.int y :: .int x :: st) w := XR.lift (fun hx hb _ kk => lv_iand hx hb hd kk) k
theorem XR.ior {x y : Int32} (hd : decode (xcc mi) pc = .ok (.ior, 1)) (k : XR E mi d kc ks Post (pc + 1) L (.int (x ||| y) :: st) w) : XR E mi d kc ks Post pc L (.int y :: .int x :: st) w := XR.lift (fun hx hb _ kk => lv_ior hx hb hd kk) k
theorem XR.ixor {x y : Int32} (hd : decode (xcc mi) pc = .ok (.ixor, 1)) (k : XR E mi d kc ks Post (pc + 1) L (.int (x ^^^ y) :: st) w) : XR E mi d kc ks Post pc L (.int y :: .int x :: st) w := XR.lift (fun hx hb _ kk => lv_ixor hx hb hd kk) k
theorem XR.ishr {x y : Int32} (hd : decode (xcc mi) pc = .ok (.ishr, 1)) (k : XR E mi d kc ks Post (pc + 1) L (.int (x >>> (y &&& 31)) :: st) w) : XR E mi d kc ks Post pc L (.int y :: .int x :: st) w := XR.lift (fun hx hb _ kk => lv_ishr hx hb hd kk) k
theorem XR.idiv {x y : Int32} (hd : decode (xcc mi) pc = .ok (.idiv, 1)) (hy : ¬ y = 0) (k : XR E mi d kc ks Post (pc + 1) L (.int (x / y) :: st) w) : XR E mi d kc ks Post pc L (.int y :: .int x :: st) w := XR.lift (fun hx hb _ kk => lv_idiv hx hb hd hy kk) k
theorem XR.irem {x y : Int32} (hd : decode (xcc mi) pc = .ok (.irem, 1)) (hy : ¬ y = 0) (k : XR E mi d kc ks Post (pc + 1) L (.int (x - x / y * y) :: st) w) : XR E mi d kc ks Post pc L (.int y :: .int x :: st) w := XR.lift (fun hx hb _ kk => lv_irem hx hb hd hy kk) k
theorem XR.ineg {x : Int32} (hd : decode (xcc mi) pc = .ok (.ineg, 1)) (k : XR E mi d kc ks Post (pc + 1) L (.int (-x) :: st) w) : XR E mi d kc ks Post pc L (.int x :: st) w := XR.lift (fun hx hb _ kk => lv_ineg hx hb hd kk) k
theorem XR.i2l {x : Int32} (hd : decode (xcc mi) pc = .ok (.i2l, 1)) (k : XR E mi d kc ks Post (pc + 1) L (.long x.toInt64 :: st) w) : XR E mi d kc ks Post pc L (.int x :: st) w := XR.lift (fun hx hb _ kk => lv_i2l hx hb hd rfl kk) k
theorem XR.lcmp {x y : Int64} (hd : decode (xcc mi) pc = .ok (.lcmp, 1)) (k : XR E mi d kc ks Post (pc + 1) L (.int (lg_cmp x y) :: st) w) : XR E mi d kc ks Post pc L (.long y :: .long x :: st) w := XR.lift (fun hx hb _ kk => W.lcmp hx hb hd kk) k
theorem XR.dup {v : Value} (hd : decode (xcc mi) pc = .ok (.dup, 1)) (hv : v.category = 1) (k : XR E mi d kc ks Post (pc + 1) L (v :: v :: st) w) : XR E mi d kc ks Post pc L (v :: st) w := XR.lift (fun hx hb _ kk => lv_dup hx hb hd hv kk) k
theorem XR.dup2 {u v : Value} (hd : decode (xcc mi) pc = .ok (.dup2, 1)) (hu : u.category = 1) (hv : v.category = 1) (k : XR E mi d kc ks Post (pc + 1) L (u :: v :: u :: v :: st) w) : XR E mi d kc ks Post pc L (u :: v :: st) w := XR.lift (fun hx hb _ kk => lv_dup2_11 hx hb hd hu hv kk) k
theorem XR.pop {v : Value} (hd : decode (xcc mi) pc = .ok (.pop, 1)) (hv : v.category = 1) (k : XR E mi d kc ks Post (pc + 1) L st w) : XR E mi d kc ks Post pc L (v :: st) w := XR.lift (fun hx hb _ kk => lv_pop hx hb hd hv kk) k
theorem XR.goto {off : Int} {tgt : Nat} (hd : decode (xcc mi) pc = .ok (.goto off, 3)) (ht : (pc : Int) + off = (tgt : Int)) (k : XR E mi d kc ks Post tgt L st w) : XR E mi d kc ks Post pc L st w := XR.lift (fun hx hb _ kk => lv_goto hx hb hd ht kk) k
theorem XR.if_eq {x : Int32} {off : Int} {tgt : Nat} (hd : decode (xcc mi) pc = .ok (.ifCond .eq off, 3)) (ht : (pc : Int) + off = (tgt : Int)) (kt : x = 0 → XR E mi d kc ks Post tgt L st w) (kf : ¬ x = 0 → XR E mi d kc ks Post (pc + 3) L st w) : XR E mi d kc ks Post pc L (.int x :: st) w :=
  fun p e R s m args below meth c hB H locs cells slots ls hl hH hS h1 h2 => lv_if_eq hB.1 hB.2.1 hd ht (fun q => kt q p e R s m args below meth c hB H locs cells slots ls hl hH hS h1 h2) (fun q => kf q p e R s m args below meth c hB H locs cells slots ls hl hH hS h1 h2)
theorem XR.icmp_eq {x y : Int32} {off : Int} {tgt : Nat} (hd : decode (xcc mi) pc = .ok (.if_icmp .eq off, 3)) (ht : (pc : Int) + off = (tgt : Int)) (kt : x = y → XR E mi d kc ks Post tgt L st w) (kf : ¬ x = y → XR E mi d kc ks Post (pc + 3) L st w) : XR E mi d kc ks Post pc L (.int y :: .int x :: st) w :=
  fun p e R s m args below meth c hB H locs cells slots ls hl hH hS h1 h2 => lv_icmp_eq hB.1 hB.2.1 hd ht (fun q => kt q p e R s m args below meth c hB H locs cells slots ls hl hH hS h1 h2) (fun q => kf q p e R s m args below meth c hB H locs cells slots ls hl hH hS h1 h2)
theorem XR.if_ne {x : Int32} {off : Int} {tgt : Nat} (hd : decode (xcc mi) pc = .ok (.ifCond .ne off, 3)) (ht : (pc : Int) + off = (tgt : Int)) (kt : ¬ x = 0 → XR E mi d kc ks Post tgt L st w) (kf : x = 0 → XR E mi d kc ks Post (pc + 3) L st w) : XR E mi d kc ks Post pc L (.int x :: st) w :=
  fun p e R s m args below meth c hB H locs cells slots ls hl hH hS h1 h2 => lv_if_ne hB.1 hB.2.1 hd ht (fun q => kt q p e R s m args below meth c hB H locs cells slots ls hl hH hS h1 h2) (fun q => kf q p e R s m args below meth c hB H locs cells slots ls hl hH hS h1 h2)
theorem XR.icmp_ne {x y : Int32} {off : Int} {tgt : Nat} (hd : decode (xcc mi) pc = .ok (.if_icmp .ne off, 3)) (ht : (pc : Int) + off = (tgt : Int)) (kt : ¬ x = y → XR E mi d kc ks Post tgt L st w) (kf : x = y → XR E mi d kc ks Post (pc + 3) L st w) : XR E mi d kc ks Post pc L (.int y :: .int x :: st) w :=
  fun p e R s m args below meth c hB H locs cells slots ls hl hH hS h1 h2 => lv_icmp_ne hB.1 hB.2.1 hd ht (fun q => kt q p e R s m args below meth c hB H locs cells slots ls hl hH hS h1 h2) (fun q => kf q p e R s m args below meth c hB H locs cells slots ls hl hH hS h1 h2)
theorem XR.if_lt {x : Int32} {off : Int} {tgt : Nat} (hd : decode (xcc mi) pc = .ok (.ifCond .lt off, 3)) (ht : (pc : Int) + off = (tgt : Int)) (kt : x < 0 → XR E mi d kc ks Post tgt L st w) (kf : ¬ x < 0 → XR E mi d kc ks Post (pc + 3) L st w) : XR E mi d kc ks Post pc L (.int x :: st) w :=
  fun p e R s m args below meth c hB H locs cells slots ls hl hH hS h1 h2 => lv_if_lt hB.1 hB.2.1 hd ht (fun q => kt q p e R s m args below meth c hB H locs cells slots ls hl hH hS h1 h2) (fun q => kf q p e R s m args below meth c hB H locs cells slots ls hl hH hS h1 h2)
theorem XR.icmp_lt {x y : Int32} {off : Int} {tgt : Nat} (hd : decode (xcc mi) pc = .ok (.if_icmp .lt off, 3)) (ht : (pc : Int) + off = (tgt : Int)) (kt : x < y → XR E mi d kc ks Post tgt L st w) (kf : ¬ x < y → XR E mi d kc ks Post (pc + 3) L st w) : XR E mi d kc ks Post pc L (.int y :: .int x :: st) w :=
  fun p e R s m args below meth c hB H locs cells slots ls hl hH hS h1 h2 => lv_icmp_lt hB.1 hB.2.1 hd ht (fun q => kt q p e R s m args below meth c hB H locs cells slots ls hl hH hS h1 h2) (fun q => kf q p e R s m args below meth c hB H locs cells slots ls hl hH hS h1 h2)
theorem XR.if_ge {x : Int32} {off : Int} {tgt : Nat} (hd : decode (xcc mi) pc = .ok (.ifCond .ge off, 3)) (ht : (pc : Int) + off = (tgt : Int)) (kt : 0 ≤ x → XR E mi d kc ks Post tgt L st w) (kf : ¬ 0 ≤ x → XR E mi d kc ks Post (pc + 3) L st w) : XR E mi d kc ks Post pc L (.int x :: st) w :=
  fun p e R s m args below meth c hB H locs cells slots ls hl hH hS h1 h2 => lv_if_ge hB.1 hB.2.1 hd ht (fun q => kt q p e R s m args below meth c hB H locs cells slots ls hl hH hS h1 h2) (fun q => kf q p e R s m args below meth c hB H locs cells slots ls hl hH hS h1 h2)
theorem XR.icmp_ge {x y : Int32} {off : Int} {tgt : Nat} (hd : decode (xcc mi) pc = .ok (.if_icmp .ge off, 3)) (ht : (pc : Int) + off = (tgt : Int)) (kt : y ≤ x → XR E mi d kc ks Post tgt L st w) (kf : ¬ y ≤ x → XR E mi d kc ks Post (pc + 3) L st w) : XR E mi d kc ks Post pc L (.int y :: .int x :: st) w :=
  fun p e R s m args below meth c hB H locs cells slots ls hl hH hS h1 h2 => lv_icmp_ge hB.1 hB.2.1 hd ht (fun q => kt q p e R s m args below meth c hB H locs cells slots ls hl hH hS h1 h2) (fun q => kf q p e R s m args below meth c hB H locs cells slots ls hl hH hS h1 h2)
theorem XR.if_gt {x : Int32} {off : Int} {tgt : Nat} (hd : decode (xcc mi) pc = .ok (.ifCond .gt off, 3)) (ht : (pc : Int) + off = (tgt : Int)) (kt : 0 < x → XR E mi d kc ks Post tgt L st w) (kf : ¬ 0 < x → XR E mi d kc ks Post (pc + 3) L st w) : XR E mi d kc ks Post pc L (.int x :: st) w :=
  fun p e R s m args below meth c hB H locs cells slots ls hl hH hS h1 h2 => lv_if_gt hB.1 hB.2.1 hd ht (fun q => kt q p e R s m args below meth c hB H locs cells slots ls hl hH hS h1 h2) (fun q => kf q p e R s m args below meth c hB H locs cells slots ls hl hH hS h1 h2)
theorem XR.icmp_gt {x y : Int32} {off : Int} {tgt : Nat} (hd : decode (xcc mi) pc = .ok (.if_icmp .gt off, 3)) (ht : (pc : Int) + off = (tgt : Int)) (kt : y < x → XR E mi d kc ks Post tgt L st w) (kf : ¬ y < x → XR E mi d kc ks Post (pc + 3) L st w) : XR E mi d kc ks Post pc L (.int y :: .int x :: st) w :=
  fun p e R s m args below meth c hB H locs cells slots ls hl hH hS h1 h2 => lv_icmp_gt hB.1 hB.2.1 hd ht (fun q => kt q p e R s m args below meth c hB H locs cells slots ls hl hH hS h1 h2) (fun q => kf q p e R s m args below meth c hB H locs cells slots ls hl hH hS h1 h2)
theorem XR.if_le {x : Int32} {off : Int} {tgt : Nat} (hd : decode (xcc mi) pc = .ok (.ifCond .le off, 3)) (ht : (pc : Int) + off = (tgt : Int)) (kt : x ≤ 0 → XR E mi d kc ks Post tgt L st w) (kf : ¬ x ≤ 0 → XR E mi d kc ks Post (pc + 3) L st w) : XR E mi d kc ks Post pc L (.int x :: st) w :=
  fun p e R s m args below meth c hB H locs cells slots ls hl hH hS h1 h2 => lv_if_le hB.1 hB.2.1 hd ht (fun q => kt q p e R s m args below meth c hB H locs cells slots ls hl hH hS h1 h2) (fun q => kf q p e R s m args below meth c hB H locs cells slots ls hl hH hS h1 h2)
theorem XR.icmp_le {x y : Int32} {off : Int} {tgt : Nat} (hd : decode (xcc mi) pc = .ok (.if_icmp .le off, 3)) (ht : (pc : Int) + off = (tgt : Int)) (kt : x ≤ y → XR E mi d kc ks Post tgt L st w) (kf : ¬ x ≤ y → XR E mi d kc ks Post (pc + 3) L st w) : XR E mi d kc ks Post pc L (.int y :: .int x :: st) w :=
  fun p e R s m args below meth c hB H locs cells slots ls hl hH hS h1 h2 => lv_icmp_le hB.1 hB.2.1 hd ht (fun q => kt q p e R s m args below meth c hB H locs cells slots ls hl hH hS h1 h2) (fun q => kf q p e R s m args below meth c hB H locs cells slots ls hl hH hS h1 h2)
theorem XR.tableOut {dflt lo hi : Int} {offs : Array Int} {len : Nat} {x : Int32} {tgt : Nat} (hd : decode (xcc mi) pc = .ok (.tableswitch dflt lo hi offs, len)) (h : x.toInt < lo ∨ hi < x.toInt) (ht : (pc : Int) + dflt = (tgt : Int)) (k : XR E mi d kc ks Post tgt L st w) : XR E mi d kc ks Post pc L (.int x :: st) w :=
  XR.lift (fun hx hb _ kk => lv_tableOut hx hb hd h ht kk) k
theorem XR.tableIn {dflt lo hi : Int} {offs : Array Int} {len : Nat} {x : Int32} {off : Int} {tgt : Nat} (hd : decode (xcc mi) pc = .ok (.tableswitch dflt lo hi offs, len)) (h1 : ¬ x.toInt < lo) (h2 : ¬ hi < x.toInt) (ho : offs[(x.toInt - lo).toNat]? = some off) (ht : (pc : Int) + off = (tgt : Int)) (k : XR E mi d kc ks Post tgt L st w) : XR E mi d kc ks Post pc L (.int x :: st) w :=
  XR.lift (fun hx hb _ kk => lv_tableIn hx hb hd h1 h2 ho ht kk) k
theorem XR.locals {L' : List Value} (hs : ∀ (i : Nat) (v : Value), L'[i]? = some v → L[i]? = some v) (k : XR E mi d kc ks Post pc L' st w) : XR E mi d kc ks Post pc L st w :=
  fun p e R s m args below meth c hB H locs cells slots ls hl hH hS h1 h2 => k p e R s m args below meth c hB H locs cells slots ls (hl.sub hs) hH hS h1 h2
theorem xW.imp {p : Program} {l : Launch} {e : Env} {R : Room} {s : State} {m : MethodId} {args : Array Value} {below : List Frame} {meth : Method} {c : Code} {H : Heap} {locs : List Loc} {cells slots : Nat} {Q Q' : State → Prop} {g : JFrame} (h : ∀ t, Q t → Q' t) (k : W p l e R s m args below meth c H locs cells slots Q g) : W p l e R s m args below meth c H locs cells slots Q' g :=
  fun T hT X => by obtain ⟨t, a, b⟩ := k T hT X; exact ⟨t, a, h t b⟩
theorem xS.old {s : State} {H : Heap} {locs : List Loc} (hC : xCx E s) (hS : va_S (fun q => xB E ≤ q) s.heap H locs) (q : Nat) (hq : q < xB E) : H[q]? = s.heap[q]? :=
  hS.2.1 q (Nat.lt_of_lt_of_le hq hC.2.2.1) (Nat.not_le.mpr hq)
theorem xMQ.of {below : List Frame} {s t : State} {mc ms : Nat} {H : Heap} {v : Option Value} {args : Array Value} (hH : xH E w H) (hold : ∀ q, q < xB E → H[q]? = s.heap[q]?) (hP : Post (.inl v) w)
    (h : MQ below (fun _ _ o t => o = .returned v ∧ t.heap = H) args s mc ms (fun q => xB E ≤ q) t) : xMQ E below Post mc ms s t := by
  obtain ⟨o, h1, h2, ⟨rfl, h3⟩, L, ⟨-, hW, hs⟩, hL⟩ := h
  exact ⟨.returned v, h1, h2, ⟨w, hP, by rw [h3]; exact hH⟩, hW, fun q hq => by rw [h3]; exact hold q hq, L, hs, hL⟩
theorem XR.ireturn {x : Int32} {ty : FieldType} (hd : decode (xcc mi) pc = .ok (.ireturn, 1)) (hty : xrt mi = some ty) (hn : narrow ty (.int x) = .int x) (hP : Post (.inl (some (.int x))) w) : XR E mi d kc ks Post pc L [.int x] w := by
  intro p e R s m args below meth c hB H locs cells slots ls hl hH hS h1 h2
  have hC := hB.2.2.2.2.2.2.2.2.2.1
  have hr : meth.sig.returnType = some ty := hB.2.2.2.2.2.1.trans hty
  exact W.widen (Nat.le_add_right cells kc) (Nat.le_add_right slots ks) (xW.imp (fun t ht => xMQ.of hH (xS.old hC hS) hP ht) (W.zret hB.1 hB.2.1 hr hn (fun t ht _ => ⟨rfl, ht⟩) hS.2.2 hd hB.2.2.2.2.2.2.1))
theorem XR.return_ (hd : decode (xcc mi) pc = .ok (.return_, 1)) (hty : xrt mi = none) (hP : Post (.inl none) w) : XR E mi d kc ks Post pc L [] w := by
  intro p e R s m args below meth c hB H locs cells slots ls hl hH hS h1 h2
  have hC := hB.2.2.2.2.2.2.2.2.2.1
  have hr : meth.sig.returnType = none := hB.2.2.2.2.2.1.trans hty
  exact W.widen (Nat.le_add_right cells kc) (Nat.le_add_right slots ks) (xW.imp (fun t ht => xMQ.of hH (xS.old hC hS) hP ht) (W.vret hB.1 hB.2.1 hr (fun t ht _ => ⟨rfl, ht⟩) hS.2.2 hd hB.2.2.2.2.2.2.1))
/-! cells -/
def xup (σ : xS) (q : Nat) (f : Nat → Int32) : xS := fun k => if k = q then f else σ k
def xu (σ : xS) (q i : Nat) (v : Int32) : xS := xup σ q (fun j => if j = i then v else σ q j)
theorem xup_same (σ : xS) (q : Nat) (f : Nat → Int32) : xup σ q f q = f := if_pos rfl
theorem xup_ne {σ : xS} {q k : Nat} {f : Nat → Int32} (h : k ≠ q) : xup σ q f k = σ k := if_neg h
theorem xH.set {n r r' q : Nat} {σ : xS} {f : Nat → Int32} {H H1 : Heap} (h : xH E (n, r, σ) H) (he : va_at (xD E) vwCl (xB E + q, xen E r' q f) H1) (hr : ∀ j g, j ≠ q → xen E r' j g = xen E r j g) (hz : H1.size = H.size) (ho : ∀ a, a ≠ xB E + q → H1[a]? = H[a]?) : xH E (n, r', xup σ q f) H1 := by
  refine ⟨fun k hk => ?_, by rw [hz]; exact h.2.1, by rw [hz]; exact h.2.2⟩
  by_cases hkq : k = q
  · subst hkq
    show va_at (xD E) vwCl (xB E + k, xen E r' k (xup σ k f k)) H1
    rw [xup_same]; exact he
  · show va_at (xD E) vwCl (xB E + k, xen E r' k (xup σ q f k)) H1
    rw [xup_ne hkq, hr k _ hkq]
    exact (h.1 k hk).kept (ho _ (show xB E + k ≠ xB E + q by omega))
theorem xS.put {s : State} {H H1 : Heap} {locs : List Loc} {q i : Nat} (hS : va_S (fun q => xB E ≤ q) s.heap H locs) (hz : H1.size = H.size) (ho : ∀ a, a ≠ xB E + q → H1[a]? = H[a]?) : va_S (fun q => xB E ≤ q) s.heap H1 (locs ++ [⟨xB E + q, i⟩]) :=
  hS.put hz ho (Nat.le_add_right _ _)
/-- an array's element is read -/
theorem XR.iaload {q n : Nat} {x : Int32} (hd : decode (xcc mi) pc = .ok (.iaload, 1)) (hq : q < w.1) (he : ∀ f, xen E w.2.1 q f = .inl (xcI E, n, .inl f)) (hx : vp_in x n) (k : XR E mi d kc ks Post (pc + 1) L (.int (w.2.2 q x.toNatClampNeg) :: st) w) : XR E mi d kc ks Post pc L (.int x :: .ref (xB E + q) :: st) w := by
  intro p e R s m args below meth c hB H locs cells slots ls hl hH hS h1 h2
  have hC := hB.2.2.2.2.2.2.2.2.2.1
  have ha := hH.1 q hq
  rw [he] at ha
  refine va_iald (D := xD E) (cl := vwCl) (ws := [(xB E + q, .inl (xcI E, n, .inl (w.2.2 q)))]) hB.1 hB.2.1 hC.2.1 (fun j y hy => ?_) 0 0 rfl rfl hx hd (k p e R s m args below meth c hB H locs cells slots ls hl hH hS h1 h2)
  have : j = 0 := by have := (List.getElem?_eq_some_iff.mp hy).1; simp at this; exact this
  subst this; cases hy; exact ha
theorem XR.baload {q n : Nat} {x : Int32} (hd : decode (xcc mi) pc = .ok (.baload, 1)) (hq : q < w.1) (he : ∀ f, xen E w.2.1 q f = .inl (xcZ E, n, .inl f)) (hx : vp_in x n) (k : XR E mi d kc ks Post (pc + 1) L (.int (w.2.2 q x.toNatClampNeg) :: st) w) : XR E mi d kc ks Post pc L (.int x :: .ref (xB E + q) :: st) w := by
  intro p e R s m args below meth c hB H locs cells slots ls hl hH hS h1 h2
  have hC := hB.2.2.2.2.2.2.2.2.2.1
  have ha := hH.1 q hq
  rw [he] at ha
  refine va_zald (D := xD E) (cl := vwCl) (ws := [(xB E + q, .inl (xcZ E, n, .inl (w.2.2 q)))]) hB.1 hB.2.1 hC.2.1 (fun j y hy => ?_) 0 2 rfl rfl hx hd (k p e R s m args below meth c hB H locs cells slots ls hl hH hS h1 h2)
  have : j = 0 := by have := (List.getElem?_eq_some_iff.mp hy).1; simp at this; exact this
  subst this; cases hy; exact ha
theorem XR.laload {q n : Nat} {x : Int32} (hd : decode (xcc mi) pc = .ok (.laload, 1)) (hq : q < w.1) (he : ∀ f, xen E w.2.1 q f = .inl (xcJ E, n, .inr (.inl (fun i => (f i).toInt64)))) (hx : vp_in x n) (k : XR E mi d kc ks Post (pc + 1) L (.long (w.2.2 q x.toNatClampNeg).toInt64 :: st) w) : XR E mi d kc ks Post pc L (.int x :: .ref (xB E + q) :: st) w := by
  intro p e R s m args below meth c hB H locs cells slots ls hl hH hS h1 h2
  have hC := hB.2.2.2.2.2.2.2.2.2.1
  have ha := hH.1 q hq
  rw [he] at ha
  refine va_lald (D := xD E) (cl := vwCl) (ws := [(xB E + q, .inl (xcJ E, n, .inr (.inl (fun i => (w.2.2 q i).toInt64))))]) hB.1 hB.2.1 hC.2.1 (fun j y hy => ?_) 0 1 rfl rfl hx hd (k p e R s m args below meth c hB H locs cells slots ls hl hH hS h1 h2)
  have : j = 0 := by have := (List.getElem?_eq_some_iff.mp hy).1; simp at this; exact this
  subst this; cases hy; exact ha
theorem XR.alen {q n : Nat} {cA : ClassId} {ty : FieldType} {x : vp_A} {v : Int32} (hd : decode (xcc mi) pc = .ok (.arraylength, 1)) (hq : q < w.1) (he : xen E w.2.1 q (w.2.2 q) = .inl (xcI E, x)) (hv : Int32.ofNat x.1 = v) (k : XR E mi d kc ks Post (pc + 1) L (.int v :: st) w) : XR E mi d kc ks Post pc L (.ref (xB E + q) :: st) w := by
  intro p e R s m args below meth c hB H locs cells slots ls hl hH hS h1 h2
  have hC := hB.2.2.2.2.2.2.2.2.2.1
  have ha := hH.1 q hq
  rw [he] at ha
  refine va_alen (D := xD E) (cl := vwCl) (ws := [(xB E + q, .inl (xcI E, x))]) hB.1 hB.2.1 hC.2.1 (fun j y hy => ?_) 0 0 rfl (ty := .int) rfl hv hd (k p e R s m args below meth c hB H locs cells slots ls hl hH hS h1 h2)
  have : j = 0 := by have := (List.getElem?_eq_some_iff.mp hy).1; simp at this; exact this
  subst this; cases hy; exact ha
/-- the script's elements and its length -/
theorem XR.sload {x : Int32} (hd : decode (xcc mi) pc = .ok (.iaload, 1)) (hx : vp_in x (xsL E)) (k : XR E mi d kc ks Post (pc + 1) L (.int (xsx E x.toNatClampNeg) :: st) w) : XR E mi d kc ks Post pc L (.int x :: .ref (xsb E) :: st) w := by
  intro p e R s m args below meth c hB H locs cells slots ls hl hH hS h1 h2
  have hC := hB.2.2.2.2.2.2.2.2.2.1
  exact va_sld (A := fun q => xB E ≤ q) hB.1 hB.2.1 hC.2.2.2.1.1 (Nat.lt_of_lt_of_le hC.2.2.2.1.2 hC.2.2.1) (Nat.not_le.mpr hC.2.2.2.1.2) hS hx hd (k p e R s m args below meth c hB H locs cells slots ls hl hH hS h1 h2)
theorem XR.slen (hd : decode (xcc mi) pc = .ok (.arraylength, 1)) (k : XR E mi d kc ks Post (pc + 1) L (.int (Int32.ofNat (xsL E)) :: st) w) : XR E mi d kc ks Post pc L (.ref (xsb E) :: st) w := by
  intro p e R s m args below meth c hB H locs cells slots ls hl hH hS h1 h2
  have hC := hB.2.2.2.2.2.2.2.2.2.1
  exact va_slen (A := fun q => xB E ≤ q) hB.1 hB.2.1 hC.2.2.2.1.1 (Nat.lt_of_lt_of_le hC.2.2.2.1.2 hC.2.2.1) (Nat.not_le.mpr hC.2.2.2.1.2) hS hd (k p e R s m args below meth c hB H locs cells slots ls hl hH hS h1 h2)
theorem XR.iastore {n r q a : Nat} {σ : xS} {i x : Int32} (hd : decode (xcc mi) pc = .ok (.iastore, 1)) (hq : q < n) (he : ∀ f, xen E r q f = .inl (xcI E, a, .inl f)) (hx : vp_in i a) (k : XR E mi d kc ks Post (pc + 1) L st (n, r, xu σ q i.toNatClampNeg x)) : XR E mi d kc ks Post pc L (.int x :: .int i :: .ref (xB E + q) :: st) (n, r, σ) := by
  intro p e R s m args below meth c hB H locs cells slots ls hl hH hS h1 h2
  have hC := hB.2.2.2.2.2.2.2.2.2.1
  have ha : H[xB E + q]? = some (arrV (xcI E) a (fun j => .int (σ q j))) := by have := hH.1 q hq; rw [he] at this; exact this
  refine W.iast hB.1 hB.2.1 ha ((hC.2.1.2 0 _ rfl).1 _ _) (fun h => by cases h) (by rw [arrV_size]; exact hx) rfl rfl hd fun H' e1 e2 e3 => ?_
  rw [arrV_store] at e1
  refine k p e R s m args below meth c hB H' _ cells slots ls hl (hH.set ?_ (fun _ _ _ => rfl) e2 e3) (xS.put hS e2 e3) h1 h2
  rw [he]
  show H'[xB E + q]? = some (arrV (xcI E) a (fun j => .int (if j = i.toNatClampNeg then x else σ q j)))
  rw [e1]
  congr 2
  funext j
  simp only [updV]
  split <;> simp_all
theorem XR.bastore {n r q a : Nat} {σ : xS} {i x : Int32} (hd : decode (xcc mi) pc = .ok (.bastore, 1)) (hq : q < n) (he : ∀ f, xen E r q f = .inl (xcZ E, a, .inl f)) (hx : vp_in i a) (hn : narrow .boolean (.int x) = .int x) (k : XR E mi d kc ks Post (pc + 1) L st (n, r, xu σ q i.toNatClampNeg x)) : XR E mi d kc ks Post pc L (.int x :: .int i :: .ref (xB E + q) :: st) (n, r, σ) := by
  intro p e R s m args below meth c hB H locs cells slots ls hl hH hS h1 h2
  have hC := hB.2.2.2.2.2.2.2.2.2.1
  have ha : H[xB E + q]? = some (arrV (xcZ E) a (fun j => .int (σ q j))) := by have := hH.1 q hq; rw [he] at this; exact this
  refine W.zast hB.1 hB.2.1 ha ((hC.2.1.2 2 _ rfl).1 _ _) (fun h => by cases h) (by rw [arrV_size]; exact hx) rfl rfl hd fun H' e1 e2 e3 => ?_
  rw [hn, arrV_store] at e1
  refine k p e R s m args below meth c hB H' _ cells slots ls hl (hH.set ?_ (fun _ _ _ => rfl) e2 e3) (xS.put hS e2 e3) h1 h2
  rw [he]
  show H'[xB E + q]? = some (arrV (xcZ E) a (fun j => .int (if j = i.toNatClampNeg then x else σ q j)))
  rw [e1]
  congr 2
  funext j
  simp only [updV]
  split <;> simp_all
theorem XR.lastore {n r q a : Nat} {σ : xS} {i x : Int32} (hd : decode (xcc mi) pc = .ok (.lastore, 1)) (hq : q < n) (he : ∀ f, xen E r q f = .inl (xcJ E, a, .inr (.inl (fun i => (f i).toInt64)))) (hx : vp_in i a) (k : XR E mi d kc ks Post (pc + 1) L st (n, r, xu σ q i.toNatClampNeg x)) : XR E mi d kc ks Post pc L (.long x.toInt64 :: .int i :: .ref (xB E + q) :: st) (n, r, σ) := by
  intro p e R s m args below meth c hB H locs cells slots ls hl hH hS h1 h2
  have hC := hB.2.2.2.2.2.2.2.2.2.1
  have ha : H[xB E + q]? = some (arrV (xcJ E) a (fun j => .long (σ q j).toInt64)) := by have := hH.1 q hq; rw [he] at this; exact this
  refine W.last hB.1 hB.2.1 ha ((hC.2.1.2 1 _ rfl).1 _ _) (fun h => by cases h) (by rw [arrV_size]; exact hx) rfl rfl hd fun H' e1 e2 e3 => ?_
  rw [arrV_store] at e1
  refine k p e R s m args below meth c hB H' _ cells slots ls hl (hH.set ?_ (fun _ _ _ => rfl) e2 e3) (xS.put hS e2 e3) h1 h2
  rw [he]
  show H'[xB E + q]? = some (arrV (xcJ E) a (fun j => .long (if j = i.toNatClampNeg then x else σ q j).toInt64))
  rw [e1]
  congr 2
  funext j
  simp only [updV]
  split <;> simp_all
/-! fields -/
theorem XR.getfield {q ci fk index N : Nat} {C : String} {T : u_T} {fs : List Value} {v : Value} (hd : decode (xcc mi) pc = .ok (.getfield index, 3)) (hq : q < w.1) (he : xen E w.2.1 q (w.2.2 q) = .inr (ci, fs)) (hc : vwCl[ci]? = some (C, T, N)) (hin : ∀ x ∈ u_ws C T N, x ∈ xTs) (hk : fk < N) (hl : Cond.fieldLink (xy mi).cls index (T fk).1 (T fk).2.1 (T fk).2.2.1 ∈ xTs) (hv : fs[fk]? = some v)
    (k : XR E mi d kc ks Post (pc + 3) L (v :: st) w) : XR E mi d kc ks Post pc L (.ref (xB E + q) :: st) w := by
  intro p e R s m args below meth c hB H locs cells slots ls hl2 hH hS h1 h2
  have hC := hB.2.2.2.2.2.2.2.2.2.1
  have ha := hH.1 q hq
  rw [he] at ha
  refine va_get (D := xD E) (cl := vwCl) (ws := [(xB E + q, .inr (ci, fs))]) hB.1 hB.2.1 hB.2.2.2.2.1 hin hB.2.2.2.1 hC.2.1 (fun j y hy => ?_) 0 rfl hc fk hk (hB.2.2.2.2.1 _ hl) (fun _ h => h) hv hd (k p e R s m args below meth c hB H locs cells slots ls hl2 hH hS h1 h2)
  have : j = 0 := by have := (List.getElem?_eq_some_iff.mp hy).1; simp at this; exact this
  subst this; cases hy; exact ha
theorem xup_id (σ : xS) (q : Nat) : xup σ q (σ q) = σ := by
  funext k
  unfold xup
  split
  · next h => rw [h]
  · rfl
theorem XR.putfield {n r q ci fk index N : Nat} {σ : xS} {x : Int32} {C : String} {T : u_T} {F : (Nat → Int32) → List Value} {ty0 : Nat → FieldType} (hd : decode (xcc mi) pc = .ok (.putfield index, 3)) (hq : q < n) (he : ∀ f, xen E r q f = .inr (ci, F f)) (hc : vwCl[ci]? = some (C, T, N)) (hin : ∀ x ∈ u_ws C T N, x ∈ xTs)
    (hty : ∀ k, k < N → parseFieldDescriptor (T k).2.2.1 = some (ty0 k)) (hnm : ∀ a, a < N → ∀ b, b < N → a ≠ b → (T a).2.1 ≠ (T b).2.1) (hk : fk < N) (hl : Cond.fieldLink (xy mi).cls index (T fk).1 (T fk).2.1 (T fk).2.2.1 ∈ xTs) (hfin : (T fk).2.2.2 = false) (hti : ty0 fk = .int)
    (hF : ∀ f, F (fun j => if j = fk then x else f j) = (F f).set fk (.int x)) (hlen : ∀ f, fk < (F f).length)
    (k : XR E mi d kc ks Post (pc + 3) L st (n, r, xu σ q fk x)) : XR E mi d kc ks Post pc L (.int x :: .ref (xB E + q) :: st) (n, r, σ) := by
  intro p e R s m args below meth c hB H locs cells slots ls hl2 hH hS h1 h2
  have hC := hB.2.2.2.2.2.2.2.2.2.1
  have hts := hB.2.2.2.2.1
  have hap := va_apart (own := (xy mi).cls) hts hin ty0 hty hnm hC.2.1 hc
  obtain ⟨r0, g1, cell, q1, q2, q3, q4⟩ : va_at (xD E) vwCl (xB E + q, .inr (ci, F (σ q))) H := by have := hH.1 q hq; rw [he] at this; exact this
  have hr0 : r0 = (C, T, N) := Option.some.inj (g1.symm.trans hc)
  subst hr0
  obtain ⟨hSl, hfc, kC, hkC, hkind⟩ := hC.2.1.1 ci _ hc
  obtain ⟨cf, kf, fi, f, hi, hsl⟩ := hSl fk hk
  have hlay := hts _ (hin _ (u_in_lay hk))
  unfold u_lay at hlay
  rw [if_neg (by rw [hfin]; decide)] at hlay
  have hst := (u_facts hfc hkC (u_lays hts hin hk) hi).1
  have h6 := u_store (v := .int x) hfc hkC hkind hlay hi (hty fk hk) (by rw [hti]; rfl) (by rw [hti]; rfl)
  refine W.putK hB.1 hB.2.1 (f := f) ⟨hB.2.2.2.1, hts _ hl, ⟨_, _, _, hi⟩, hst⟩ (by rw [q2]; exact h6) q1 q3 (by rw [hsl]; exact k2_hasslot (q4 fk hk)) rfl rfl hd fun H' e1 e2 e3 => ?_
  rw [hsl] at e1 ⊢
  refine k p e R s m args below meth c hB H' _ cells slots ls hl2 (hH.set ?_ (fun _ _ _ => rfl) e2 e3) (xS.put hS e2 e3) h1 h2
  rw [he, hF]
  exact ⟨_, hc, t_OB.to (V := updV (vp_V (F (σ q))) fk (.int x)) ⟨_, e1, q2, q3, t_set q4 hap hk (.int x)⟩ (fun j _ => vp_updV_set (hlen _) (.int x) j)⟩
theorem XR.putref {n r q ci fk index N : Nat} {σ : xS} {v : Value} {C : String} {T : u_T} {fs : List Value} {ty0 : Nat → FieldType} (hd : decode (xcc mi) pc = .ok (.putfield index, 3)) (hq : q < n) (he : xen E r q (σ q) = .inr (ci, fs)) (he' : xen E (r + 1) q (σ q) = .inr (ci, fs.set fk v)) (hr : ∀ j g, j ≠ q → xen E (r + 1) j g = xen E r j g) (hc : vwCl[ci]? = some (C, T, N)) (hin : ∀ x ∈ u_ws C T N, x ∈ xTs)
    (hty : ∀ k, k < N → parseFieldDescriptor (T k).2.2.1 = some (ty0 k)) (hnm : ∀ a, a < N → ∀ b, b < N → a ≠ b → (T a).2.1 ≠ (T b).2.1) (hk : fk < N) (hl : Cond.fieldLink (xy mi).cls index (T fk).1 (T fk).2.1 (T fk).2.2.1 ∈ xTs) (hfin : (T fk).2.2.2 = true) (hini : (xy mi).name = "<init>") (hdecl : (T fk).1 = (xy mi).cls)
    (hnar : narrow (ty0 fk) v = v) (hfit : fits (ty0 fk) v = true) (hlen : fk < fs.length)
    (k : XR E mi d kc ks Post (pc + 3) L st (n, r + 1, σ)) : XR E mi d kc ks Post pc L (v :: .ref (xB E + q) :: st) (n, r, σ) := by
  intro p e R s m args below meth c hB H locs cells slots ls hl2 hH hS h1 h2
  have hC := hB.2.2.2.2.2.2.2.2.2.1
  have hts := hB.2.2.2.2.1
  have hap := va_apart (own := (xy mi).cls) hts hin ty0 hty hnm hC.2.1 hc
  obtain ⟨r0, g1, cell, q1, q2, q3, q4⟩ : va_at (xD E) vwCl (xB E + q, .inr (ci, fs)) H := by have := hH.1 q hq; rw [he] at this; exact this
  have hr0 : r0 = (C, T, N) := Option.some.inj (g1.symm.trans hc)
  subst hr0
  obtain ⟨hSl, hfc, kC, hkC, hkind⟩ := hC.2.1.1 ci _ hc
  obtain ⟨cf, kf, fi, f, hi, hsl⟩ := hSl fk hk
  have hlay := hts _ (hin _ (u_in_lay hk))
  unfold u_lay at hlay
  rw [if_pos hfin] at hlay
  have hst := (u_facts hfc hkC (u_lays hts hin hk) hi).1
  have hcf : m.cls = cf := by
    obtain ⟨_, _, c', _, _, _, -, -, hf', -, -, -, hown2, -⟩ := Cond.laysFinal_spec hlay
    have e1 : c' = cf := by have := hi.symm.trans hf'; simp at this; exact this.1.symm
    rw [hdecl] at hown2
    rw [← e1]; exact Option.some.inj (hB.2.2.2.1.symm.trans hown2)
  have h6 := u_fits hfc hkC hkind (Or.inr hlay) hi (hty fk hk) hnar hfit
  refine W.putFinK hB.1 hB.2.1 hB.2.2.2.1 (hts _ hl) hi hst hcf (hB.2.2.2.2.2.2.2.1.trans hini) (by rw [q2]; exact h6) q1 q3 (by rw [hsl]; exact k2_hasslot (q4 fk hk)) rfl rfl hd fun H' e1 e2 e3 => ?_
  rw [hsl] at e1 ⊢
  have hset := hH.set (r' := r + 1) (q := q) (f := σ q) (H1 := H') (by
    rw [he']
    exact ⟨_, hc, t_OB.to (V := updV (vp_V fs) fk v) ⟨_, e1, q2, q3, t_set q4 hap hk v⟩ (fun j _ => vp_updV_set hlen v j)⟩) hr e2 e3
  rw [xup_id] at hset
  exact k p e R s m args below meth c hB H' _ cells slots ls hl2 hset (xS.put hS e2 e3) h1 h2
/-! new cells, while the world is being made -/
theorem xH.push {n r : Nat} {σ : xS} {H H1 : Heap} (h : xH E (n, r, σ) H) (hn : n < 26) (he : va_at (xD E) vwCl (xB E + n, xen E r n (σ n)) H1) (hz : H1.size = xB E + n + 1) (ho : ∀ a, a < xB E + n → H1[a]? = H[a]?) : xH E (n + 1, r, σ) H1 := by
  refine ⟨fun k hk => ?_, by rw [hz]; exact Nat.le_refl _, fun _ => hz⟩
  by_cases hkq : k = n
  · subst hkq
    exact he
  · have hk' : k < n := by have : k < n + 1 := hk; omega
    exact (h.1 k hk').kept (ho _ (show xB E + k < xB E + n by omega))
theorem xS.push {s : State} {H H1 : Heap} {locs : List Loc} {h : Nat} (hS : va_S (fun q => xB E ≤ q) s.heap H locs) (hh : H.size = h) (hz : H1.size = h + 1) (ho : ∀ a, a < h → H1[a]? = H[a]?) : va_S (fun q => xB E ≤ q) s.heap H1 locs :=
  ⟨by have := hS.1; omega, fun q hq hn => (ho q (by have := hS.1; omega)).trans (hS.2.1 q hq hn), hS.2.2⟩
theorem XR.newc {n r ci N index : Nat} {σ : xS} {C : String} {T : u_T} {ty : Nat → FieldType} {fs : List Value} (hd : decode (xcc mi) pc = .ok (.new index, 3)) (hn : n < 26) (hcl : Cond.classLink (xy mi).cls index C ∈ xTs) (hins : Cond.instantiable C N ∈ xTs) (hini : Cond.initialized C ∈ xTs) (hc : vwCl[ci]? = some (C, T, N)) (hin : ∀ x ∈ u_ws C T N, x ∈ xTs)
    (hty : ∀ k, k < N → parseFieldDescriptor (T k).2.2.1 = some (ty k)) (hfs : ∀ j, j < N → defaultValue (ty j) = vp_V fs j) (he : xen E r n (σ n) = .inr (ci, fs)) (k : XR E mi d kc ks Post (pc + 3) L (.ref (xB E + n) :: st) (n + 1, r, σ)) : XR E mi d (kc + 1) (ks + N) Post pc L st (n, r, σ) := by
  intro p e R s m args below meth c hB H locs cells slots ls hl2 hH hS h1 h2
  have hC := hB.2.2.2.2.2.2.2.2.2.1
  have hts := hB.2.2.2.2.1
  have hsz := hH.2.2 hn
  have hKn := hC.2.1.1 ci _ hc
  have e1 : cells + (kc + 1) = cells + 1 + kc := by omega
  have e2 : slots + (ks + N) = slots + N + ks := by omega
  rw [e1, e2]
  refine W.newcK hB.1 hB.2.1 hB.2.2.2.1 (hts _ hcl) (hts _ hins) (hts _ hini) rfl hd (by omega) (by omega) hKn.2.1 hsz fun H1 kC hkC g1 g2 g3 => ?_
  refine k p e R s m args below meth c hB H1 locs (cells + 1) (slots + N) ls hl2 (hH.push hn ?_ g2 g3) (xS.push hS hsz g2 g3) (by omega) (by omega)
  rw [he]
  exact ⟨_, hc, (u_born ty hts hin hKn hkC g1 hty).to hfs⟩
theorem XR.newaI {n r a : Nat} {σ : xS} {x : Int32} {atype : ArrayType} (hd : decode (xcc mi) pc = .ok (.newarray atype, 2)) (hat : newarray.typeOf atype = .int) (hn : n < 26) (harr : Cond.arrayClass .int ∈ xTs) (hx : ¬ x < 0) (hN : x.toNatClampNeg = a) (hby : a * componentBytes .int ≤ 536870912) (he : xen E r n (σ n) = .inl (xcI E, (a, .inl (fun _ => 0)))) (k : XR E mi d kc ks Post (pc + 2) L (.ref (xB E + n) :: st) (n + 1, r, σ)) : XR E mi d (kc + 1) (ks + a) Post pc L (.int x :: st) (n, r, σ) := by
  intro p e R s m args below meth c hB H locs cells slots ls hl2 hH hS h1 h2
  have hC := hB.2.2.2.2.2.2.2.2.2.1
  have hts := hB.2.2.2.2.1
  have hsz := hH.2.2 hn
  have e1 : cells + (kc + 1) = cells + 1 + kc := by omega
  have e2 : slots + (ks + a) = slots + a + ks := by omega
  rw [e1, e2]
  refine va_newaK (atype := atype) hB.1 hB.2.1 (by rw [hat]; exact hts _ harr) rfl hd rfl hx hN (by rw [hat]; exact hby) (by omega) (by omega) hsz fun H1 cA g1 g2 g3 g4 g5 => ?_
  rw [hat] at g1 g5
  have hcA : cA = xcI E := Option.some.inj (g5.symm.trans (hC.2.1.2 0 _ rfl).2)
  subst hcA
  refine k p e R s m args below meth c hB H1 locs (cells + 1) (slots + a) ls hl2 (hH.push hn ?_ g2 g3) (xS.push hS hsz g2 g3) (by omega) (by omega)
  rw [he]
  exact g1
theorem XR.newaJ {n r a : Nat} {σ : xS} {x : Int32} {atype : ArrayType} (hd : decode (xcc mi) pc = .ok (.newarray atype, 2)) (hat : newarray.typeOf atype = .long) (hn : n < 26) (harr : Cond.arrayClass .long ∈ xTs) (hx : ¬ x < 0) (hN : x.toNatClampNeg = a) (hby : a * componentBytes .long ≤ 536870912) (he : xen E r n (σ n) = .inl (xcJ E, (a, .inr (.inl (fun _ => 0))))) (k : XR E mi d kc ks Post (pc + 2) L (.ref (xB E + n) :: st) (n + 1, r, σ)) : XR E mi d (kc + 1) (ks + a) Post pc L (.int x :: st) (n, r, σ) := by
  intro p e R s m args below meth c hB H locs cells slots ls hl2 hH hS h1 h2
  have hC := hB.2.2.2.2.2.2.2.2.2.1
  have hts := hB.2.2.2.2.1
  have hsz := hH.2.2 hn
  have e1 : cells + (kc + 1) = cells + 1 + kc := by omega
  have e2 : slots + (ks + a) = slots + a + ks := by omega
  rw [e1, e2]
  refine va_newaK (atype := atype) hB.1 hB.2.1 (by rw [hat]; exact hts _ harr) rfl hd rfl hx hN (by rw [hat]; exact hby) (by omega) (by omega) hsz fun H1 cA g1 g2 g3 g4 g5 => ?_
  rw [hat] at g1 g5
  have hcA : cA = xcJ E := Option.some.inj (g5.symm.trans (hC.2.1.2 1 _ rfl).2)
  subst hcA
  refine k p e R s m args below meth c hB H1 locs (cells + 1) (slots + a) ls hl2 (hH.push hn ?_ g2 g3) (xS.push hS hsz g2 g3) (by omega) (by omega)
  rw [he]
  exact g1
theorem XR.newaZ {n r a : Nat} {σ : xS} {x : Int32} {atype : ArrayType} (hd : decode (xcc mi) pc = .ok (.newarray atype, 2)) (hat : newarray.typeOf atype = .boolean) (hn : n < 26) (harr : Cond.arrayClass .boolean ∈ xTs) (hx : ¬ x < 0) (hN : x.toNatClampNeg = a) (hby : a * componentBytes .boolean ≤ 536870912) (he : xen E r n (σ n) = .inl (xcZ E, (a, .inl (fun _ => 0)))) (k : XR E mi d kc ks Post (pc + 2) L (.ref (xB E + n) :: st) (n + 1, r, σ)) : XR E mi d (kc + 1) (ks + a) Post pc L (.int x :: st) (n, r, σ) := by
  intro p e R s m args below meth c hB H locs cells slots ls hl2 hH hS h1 h2
  have hC := hB.2.2.2.2.2.2.2.2.2.1
  have hts := hB.2.2.2.2.1
  have hsz := hH.2.2 hn
  have e1 : cells + (kc + 1) = cells + 1 + kc := by omega
  have e2 : slots + (ks + a) = slots + a + ks := by omega
  rw [e1, e2]
  refine va_newaK (atype := atype) hB.1 hB.2.1 (by rw [hat]; exact hts _ harr) rfl hd rfl hx hN (by rw [hat]; exact hby) (by omega) (by omega) hsz fun H1 cA g1 g2 g3 g4 g5 => ?_
  rw [hat] at g1 g5
  have hcA : cA = xcZ E := Option.some.inj (g5.symm.trans (hC.2.1.2 2 _ rfl).2)
  subst hcA
  refine k p e R s m args below meth c hB H1 locs (cells + 1) (slots + a) ls hl2 (hH.push hn ?_ g2 g3) (xS.push hS hsz g2 g3) (by omega) (by omega)
  rw [he]
  exact g1
theorem XR.objInit {a idx : Nat} (hd : decode (xcc mi) pc = .ok (.invokespecial idx, 3)) (hl : Cond.methodLink (xy mi).cls idx Lib.objectInit ∈ xTs) (hi : Cond.instanceMethod Lib.objectInit ∈ xTs) (hcd : Cond.code Lib.objectInit ⟨#[0xb1]⟩ 1 none ∈ xTs) (hd1 : 1 ≤ d) (hst : (st.map fun v => v.category).sum ≤ 16) (k : XR E mi d kc ks Post (pc + 3) L st w) : XR E mi d kc ks Post pc L (.ref a :: st) w := by
  intro p e R s m args below meth c hB H locs cells slots ls hl2 hH hS h1 h2
  have hts := hB.2.2.2.2.1
  have hR := hB.2.2.2.2.2.2.2.2.2.2
  refine W.objInit hB.1 hB.2.1 hB.2.2.2.1 (hts _ hl) (hts _ hi) (hts _ hcd) rfl (by rw [hB.2.2.1]; exact hl2.1) rfl hd (by omega) ?_ (k p e R s m args below meth c hB H locs cells slots ls hl2 hH hS h1 h2)
  have := hR.2
  unfold xlo at this
  show 2 * 0 + _ + 12 ≤ _
  omega
end XRules
