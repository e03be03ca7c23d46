/-! the machine layer: worlds, contracts of invocations that return or throw -/
abbrev xS : Type := Nat → Nat → Int32
abbrev xWd : Type := Nat × Nat × xS
abbrev xO : Type := Option Value ⊕ String
/-- launch; class numbers and slots; array classes of int, long, boolean; the first address of the world; the script: its address, length, ints -/
abbrev xE : Type := Launch × va_G × (ClassId × ClassId × ClassId) × Nat × (Nat × Nat × (Nat → Int32))
abbrev xl (E : xE) : Launch := E.1
abbrev xD (E : xE) : va_G := E.2.1
abbrev xcI (E : xE) : ClassId := E.2.2.1.1
abbrev xcJ (E : xE) : ClassId := E.2.2.1.2.1
abbrev xcZ (E : xE) : ClassId := E.2.2.1.2.2
abbrev xB (E : xE) : Nat := E.2.2.2.1
abbrev xsb (E : xE) : Nat := E.2.2.2.2.1
abbrev xsL (E : xE) : Nat := E.2.2.2.2.2.1
abbrev xsx (E : xE) : Nat → Int32 := E.2.2.2.2.2.2
/-- a reference field: the o-th that the constructors set -/
def xob (E : xE) (r o k : Nat) : Value := if o < r then .ref (xB E + k) else .null
/-- the entry at a place -/
def xen (E : xE) (r : Nat) (k : Nat) (f : Nat → Int32) : va_E := match k with
  | 0 => .inr (xkB, [xob E r 5 1, xob E r 12 7, .int (f 2)])
  | 1 => .inr (xkT, [xob E r 0 2, xob E r 1 3, xob E r 2 4, xob E r 3 5, xob E r 4 6])
  | 2 => .inl (xcI E, 40, .inl f)
  | 3 => .inl (xcI E, 40, .inl f)
  | 4 => .inl (xcI E, 40, .inl f)
  | 5 => .inl (xcI E, 40, .inl f)
  | 6 => .inl (xcI E, 40, .inl f)
  | 7 => .inr (xkS, [xob E r 6 8, xob E r 7 9, xob E r 8 10, xob E r 9 11, xob E r 10 12, xob E r 11 13, .int (f 6), .int (f 7)])
  | 8 => .inl (xcI E, 192, .inl f)
  | 9 => .inl (xcI E, 192, .inl f)
  | 10 => .inl (xcI E, 192, .inl f)
  | 11 => .inl (xcI E, 768, .inl f)
  | 12 => .inl (xcI E, 192, .inl f)
  | 13 => .inl (xcI E, 192, .inl f)
  | 14 => .inr (xkM, [.int (f 0), xob E r 13 15, xob E r 14 16, xob E r 15 17, xob E r 16 18, xob E r 17 19, .int (f 6), .int (f 7), xob E r 18 20, xob E r 19 21, xob E r 20 22, xob E r 21 23, xob E r 22 24, .int (f 13)])
  | 15 => .inl (xcI E, 192, .inl f)
  | 16 => .inl (xcI E, 192, .inl f)
  | 17 => .inl (xcI E, 192, .inl f)
  | 18 => .inl (xcI E, 192, .inl f)
  | 19 => .inl (xcI E, 768, .inl f)
  | 20 => .inl (xcZ E, 40, .inl f)
  | 21 => .inl (xcI E, 40, .inl f)
  | 22 => .inl (xcI E, 40, .inl f)
  | 23 => .inl (xcI E, 40, .inl f)
  | 24 => .inl (xcI E, 40, .inl f)
  | _ => .inl (xcJ E, 1, .inr (.inl (fun i => (f i).toInt64)))
/-- the heap holds the world: the first w.1 places; while it is being made, nothing lies behind them -/
def xH (E : xE) (w : xWd) (H : Heap) : Prop :=
  (∀ k, k < w.1 → va_at (xD E) vwCl (xB E + k, xen E w.2.1 k (w.2.2 k)) H) ∧ xB E + w.1 ≤ H.size ∧ (w.1 < 26 → H.size = xB E + w.1)
/-- the words on the statics of Throwable hold wherever the old cells do -/
def xThr (E : xE) (U : State) : Prop := ∀ V : State, U.vm.Alike V.vm → (∀ q, q < xB E → V.heap[q]? = U.heap[q]?) → ∀ (A : Array Value), ∀ w ∈ xTw, w.before A V = true
def xCx (E : xE) (U : State) : Prop :=
  (xl E).stackTraces = false ∧ va_K (xD E) vwCl [(xcI E, .int), (xcJ E, .long), (xcZ E, .boolean)] U ∧ xB E ≤ U.heap.size ∧ (va_X (xsb E) (xsL E) (xsx E) U U.heap ∧ xsb E < xB E) ∧ xThr E U
theorem xThr.moved {E : xE} {U V : State} (h : xThr E U) (hvm : U.vm.Alike V.vm) (hq : ∀ q, q < xB E → V.heap[q]? = U.heap[q]?) : xThr E V :=
  fun Z h1 h2 => h Z (hvm.trans h1) (fun q hk => (h2 q hk).trans (hq q hk))
theorem xCx.moved {E : xE} {U V : State} (h : xCx E U) (hvm : U.vm.Alike V.vm) (hs : U.heap.size ≤ V.heap.size) (hq : ∀ q, q < xB E → V.heap[q]? = U.heap[q]?) : xCx E V :=
  ⟨h.1, h.2.1.moved hvm, Nat.le_trans h.2.2.1 hs, ⟨(h.2.2.2.1.1.moved hvm).kept (hq _ h.2.2.2.1.2), h.2.2.2.1.2⟩, h.2.2.2.2.moved hvm hq⟩
/-- the words of the room -/
def xlo (d : Nat) : Nat := 28 * d + 90
def xrm (d kc ks : Nat) : Room := { frames := d, cells := kc + 1, slots := ks + 6, locals := xlo d }
/-- a thrown object -/
def xEx (E : xE) (C : String) (a : Nat) (vm : Vm) (H : Heap) : Prop := ∃ cell : Cell, H[a]? = some cell ∧ cell.vm.isStatics = false ∧ vm.findClass C = some cell.cls ∧ xB E ≤ a
/-- what an invocation leaves -/
def xFr (E : xE) (s t : State) (mc ms : Nat) : Prop := s.WarmedH t.vm ∧ (∀ q, q < xB E → t.heap[q]? = s.heap[q]?) ∧ ∃ L : List Loc, s.sameButNew ({ t with vm := s.vm } : State) L mc ms ∧ ∀ q ∈ L, xB E ≤ q.base
def xQ (E : xE) (Post : xO → xWd → Prop) (mc ms : Nat) (s : State) (o : Outcome) (t : State) : Prop := match o with
  | .returned v => (∃ w, Post (.inl v) w ∧ xH E w t.heap) ∧ xFr E s t mc ms
  | .threw a => (∃ w C, Post (.inr C) w ∧ xH E w t.heap ∧ xEx E C a t.vm t.heap) ∧ xFr E s t (mc + 1) (ms + 6)
def xMQ (E : xE) (below : List Frame) (Post : xO → xWd → Prop) (mc ms : Nat) (s : State) : State → Prop := fun t => ∃ o, t.status = .running ∧ Ended t below o ∧ xQ E Post mc ms s o t
/-- a method: its name, code, number of locals, what it returns, its handlers (from, to, target, type) -/
abbrev xMI : Type := MethodName × ByteArray × Nat × Option FieldType × List (Nat × Nat × Nat × Nat)
abbrev xy (mi : xMI) : MethodName := mi.1
abbrev xcc (mi : xMI) : ByteArray := mi.2.1
abbrev xnL (mi : xMI) : Nat := mi.2.2.1
abbrev xrt (mi : xMI) : Option FieldType := mi.2.2.2.1
abbrev xhs (mi : xMI) : List (Nat × Nat × Nat × Nat) := mi.2.2.2.2
/-- the contract of an invocation with these arguments in this world -/
def XC (E : xE) (mi : xMI) (d kc ks : Nat) (as : List Value) (w : xWd) (Post : xO → xWd → Prop) : Prop :=
  MetFree (xl E) (xy mi) (headSpec xTs (xrm d kc ks)) (fun a U => a = as.toArray ∧ xH E w U.heap ∧ xCx E U) (fun _ _ _ _ _ => True) (fun _ st o t => xQ E Post kc ks st o t)
/-- what a body's walk knows -/
def xB0 (E : xE) (mi : xMI) (d : Nat) (p : Program) (R : Room) (s : State) (m : MethodId) (args : Array Value) (meth : Method) (c : Code) : Prop :=
  p.tables.exec = Jvm.exec ∧ c.code = xcc mi ∧ c.maxLocals = xnL mi ∧ s.vm.findClass (xy mi).cls = some m.cls ∧ (∀ w ∈ xTs, w.before args s = true) ∧ meth.sig.returnType = xrt mi ∧ meth.locks = false ∧ meth.name = (xy mi).name ∧
  (c.exceptionTable.toList.map fun x => (x.startPc, x.endPc, x.handlerPc, x.catchType)) = xhs mi ∧ xCx E s ∧ d ≤ R.frames ∧ xlo d ≤ R.locals
/-- the locals, by their numbers; all of one word -/
def xL (ls : Array Slot) (n : Nat) (L : List Value) : Prop := ls.size = n ∧ lv_wf ls ∧ (∀ v ∈ L, v.category = 1) ∧ ∀ (i : Nat) (v : Value), L[i]? = some v → ls[i]? = some (.val v)
/-- from this point of the body on the invocation ends so -/
def XR (E : xE) (mi : xMI) (d kc ks : Nat) (Post : xO → xWd → Prop) (pc : Nat) (L st : List Value) (w : xWd) : Prop :=
  ∀ (p : Program) (e : Env) (R : Room) (s : State) (m : MethodId) (args : Array Value) (below : List Frame) (meth : Method) (c : Code), xB0 E mi d p R s m args meth c →
  ∀ (H : Heap) (locs : List Loc) (cells slots : Nat) (ls : Array Slot), xL ls (xnL mi) L → xH E w H → va_S (fun q => xB E ≤ q) s.heap H locs → cells + kc + 1 ≤ R.cells → slots + ks + 6 ≤ R.slots →
    W p (xl E) e R s m args below meth c H locs cells slots (xMQ E below Post (cells + kc) (slots + ks) s) (F0 m pc ls st)
/-- .. and from this point on, with an exception thrown there -/
def xWT (p : Program) (l : Launch) (e : Env) (R : Room) (s : State) (m : MethodId) (args : Array Value) (below : List Frame) (meth : Method) (c : Code) (H : Heap) (locs : List Loc) (cells slots : Nat) (Q : State → Prop) (g : JFrame) (x : Addr) : Prop :=
  ∀ T : State, T.heap = H → Stand p l e R s m args below meth c T locs cells slots → ∃ t, Steps p.tables e below ((T.setTop g).pushFrame (.throwing x)) t ∧ Q t
def XT (E : xE) (mi : xMI) (d kc ks : Nat) (Post : xO → xWd → Prop) (pc : Nat) (L : List Value) (C : String) (w : xWd) : Prop :=
  ∀ (p : Program) (e : Env) (R : Room) (s : State) (m : MethodId) (args : Array Value) (below : List Frame) (meth : Method) (c : Code), xB0 E mi d p R s m args meth c →
  ∀ (H : Heap) (locs : List Loc) (cells slots : Nat) (ls : Array Slot) (st : List Value) (x : Addr), xL ls (xnL mi) L → xH E w H → xEx E C x s.vm H → va_S (fun q => xB E ≤ q) s.heap H locs → cells + kc ≤ R.cells → slots + ks ≤ R.slots →
    xWT p (xl E) e R s m args below meth c H locs cells slots (xMQ E below Post (cells + kc - 1) (slots + ks - 6) s) (F0 m pc ls st) x
