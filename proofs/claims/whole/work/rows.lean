section
-- ===== PART A: goes FIRST, ahead of the names: the tables' words, and 'selects' of the private methods out of them =====
/-- a private method of a class that the tables say can be made, by its rows of tables_1 -/
def lw_okq (q : MethodName × Nat) : Prop := (q.1.cls ≠ "java/lang/invoke/MethodHandle" ∧ q.1.cls ≠ "java/lang/invoke/VarHandle") ∧ Cond.instantiable q.1.cls q.2 ∈ tables_1 ∧ Cond.privateMethod q.1 ∈ tables_1 ∧ Cond.instanceMethod q.1 ∈ tables_1
theorem lw_p0 : lw_okq (⟨"PageBanks", "isWithoutBank", "(I)Z"⟩, 3) := ⟨⟨by decide +kernel, by decide +kernel⟩, List.mem_of_getElem? (i := 17) (by decide +kernel), List.mem_of_getElem? (i := 183) (by decide +kernel), List.mem_of_getElem? (i := 184) (by decide +kernel)⟩
theorem lw_p1 : lw_okq (⟨"PageBanks", "requireBank", "(I)V"⟩, 3) := ⟨⟨by decide +kernel, by decide +kernel⟩, List.mem_of_getElem? (i := 17) (by decide +kernel), List.mem_of_getElem? (i := 199) (by decide +kernel), List.mem_of_getElem? (i := 200) (by decide +kernel)⟩
theorem lw_p2 : lw_okq (⟨"java/lang/Throwable", "fillInStackTrace", "(I)Ljava/lang/Throwable;"⟩, 6) := ⟨⟨by decide +kernel, by decide +kernel⟩, List.mem_of_getElem? (i := 246) (by decide +kernel), List.mem_of_getElem? (i := 244) (by decide +kernel), List.mem_of_getElem? (i := 245) (by decide +kernel)⟩
theorem lw_p3 : lw_okq (⟨"PageBanks", "requireLive", "(I)V"⟩, 3) := ⟨⟨by decide +kernel, by decide +kernel⟩, List.mem_of_getElem? (i := 17) (by decide +kernel), List.mem_of_getElem? (i := 292) (by decide +kernel), List.mem_of_getElem? (i := 293) (by decide +kernel)⟩
theorem lw_p4 : lw_okq (⟨"PageBanks", "refuse", "(I)V"⟩, 3) := ⟨⟨by decide +kernel, by decide +kernel⟩, List.mem_of_getElem? (i := 17) (by decide +kernel), List.mem_of_getElem? (i := 326) (by decide +kernel), List.mem_of_getElem? (i := 327) (by decide +kernel)⟩
theorem lw_p5 : lw_okq (⟨"PageBanks", "buyNeighbours", "(II)I"⟩, 3) := ⟨⟨by decide +kernel, by decide +kernel⟩, List.mem_of_getElem? (i := 17) (by decide +kernel), List.mem_of_getElem? (i := 356) (by decide +kernel), List.mem_of_getElem? (i := 357) (by decide +kernel)⟩
theorem lw_p6 : lw_okq (⟨"PageBanks", "requireUse", "(II)V"⟩, 3) := ⟨⟨by decide +kernel, by decide +kernel⟩, List.mem_of_getElem? (i := 17) (by decide +kernel), List.mem_of_getElem? (i := 367) (by decide +kernel), List.mem_of_getElem? (i := 368) (by decide +kernel)⟩
theorem lw_p7 : lw_okq (⟨"PageBanks", "requireAlive", "(I)V"⟩, 3) := ⟨⟨by decide +kernel, by decide +kernel⟩, List.mem_of_getElem? (i := 17) (by decide +kernel), List.mem_of_getElem? (i := 418) (by decide +kernel), List.mem_of_getElem? (i := 419) (by decide +kernel)⟩
theorem lw_p8 : lw_okq (⟨"PageBanks", "requireOtherThanRoot", "(I)V"⟩, 3) := ⟨⟨by decide +kernel, by decide +kernel⟩, List.mem_of_getElem? (i := 17) (by decide +kernel), List.mem_of_getElem? (i := 536) (by decide +kernel), List.mem_of_getElem? (i := 537) (by decide +kernel)⟩
theorem lw_p9 : lw_okq (⟨"PageBanks", "dyingPages", "()I"⟩, 3) := ⟨⟨by decide +kernel, by decide +kernel⟩, List.mem_of_getElem? (i := 17) (by decide +kernel), List.mem_of_getElem? (i := 561) (by decide +kernel), List.mem_of_getElem? (i := 562) (by decide +kernel)⟩
theorem lw_p10 : lw_okq (⟨"PageBanks", "isDyingPage", "(I)Z"⟩, 3) := ⟨⟨by decide +kernel, by decide +kernel⟩, List.mem_of_getElem? (i := 17) (by decide +kernel), List.mem_of_getElem? (i := 565) (by decide +kernel), List.mem_of_getElem? (i := 566) (by decide +kernel)⟩
theorem lw_p11 : lw_okq (⟨"PageBanksModel", "isBank", "(I)Z"⟩, 14) := ⟨⟨by decide +kernel, by decide +kernel⟩, List.mem_of_getElem? (i := 627) (by decide +kernel), List.mem_of_getElem? (i := 685) (by decide +kernel), List.mem_of_getElem? (i := 686) (by decide +kernel)⟩
theorem lw_p12 : lw_okq (⟨"PageBanksModel", "isOpen", "(I)Z"⟩, 14) := ⟨⟨by decide +kernel, by decide +kernel⟩, List.mem_of_getElem? (i := 627) (by decide +kernel), List.mem_of_getElem? (i := 692) (by decide +kernel), List.mem_of_getElem? (i := 693) (by decide +kernel)⟩
theorem lw_p13 : lw_okq (⟨"PageBanksModel", "depthOf", "(I)I"⟩, 14) := ⟨⟨by decide +kernel, by decide +kernel⟩, List.mem_of_getElem? (i := 627) (by decide +kernel), List.mem_of_getElem? (i := 696) (by decide +kernel), List.mem_of_getElem? (i := 697) (by decide +kernel)⟩
theorem lw_p14 : lw_okq (⟨"PageBanksModel", "unsupported", "(II)I"⟩, 14) := ⟨⟨by decide +kernel, by decide +kernel⟩, List.mem_of_getElem? (i := 627) (by decide +kernel), List.mem_of_getElem? (i := 700) (by decide +kernel), List.mem_of_getElem? (i := 701) (by decide +kernel)⟩
theorem lw_p15 : lw_okq (⟨"PageBanksModel", "bought", "(III)I"⟩, 14) := ⟨⟨by decide +kernel, by decide +kernel⟩, List.mem_of_getElem? (i := 627) (by decide +kernel), List.mem_of_getElem? (i := 708) (by decide +kernel), List.mem_of_getElem? (i := 709) (by decide +kernel)⟩
def lw_privs_1 : List (MethodName × Nat) := [(⟨"PageBanks", "isWithoutBank", "(I)Z"⟩, 3), (⟨"PageBanks", "requireBank", "(I)V"⟩, 3), (⟨"java/lang/Throwable", "fillInStackTrace", "(I)Ljava/lang/Throwable;"⟩, 6), (⟨"PageBanks", "requireLive", "(I)V"⟩, 3), (⟨"PageBanks", "refuse", "(I)V"⟩, 3), (⟨"PageBanks", "buyNeighbours", "(II)I"⟩, 3), (⟨"PageBanks", "requireUse", "(II)V"⟩, 3), (⟨"PageBanks", "requireAlive", "(I)V"⟩, 3), (⟨"PageBanks", "requireOtherThanRoot", "(I)V"⟩, 3), (⟨"PageBanks", "dyingPages", "()I"⟩, 3), (⟨"PageBanks", "isDyingPage", "(I)Z"⟩, 3), (⟨"PageBanksModel", "isBank", "(I)Z"⟩, 14), (⟨"PageBanksModel", "isOpen", "(I)Z"⟩, 14), (⟨"PageBanksModel", "depthOf", "(I)I"⟩, 14), (⟨"PageBanksModel", "unsupported", "(II)I"⟩, 14), (⟨"PageBanksModel", "bought", "(III)I"⟩, 14)]
theorem lw_r1 : ∀ q ∈ lw_privs_1, lw_okq q := List.forall_mem_cons.mpr ⟨lw_p0, List.forall_mem_cons.mpr ⟨lw_p1, List.forall_mem_cons.mpr ⟨lw_p2, List.forall_mem_cons.mpr ⟨lw_p3, List.forall_mem_cons.mpr ⟨lw_p4, List.forall_mem_cons.mpr ⟨lw_p5, List.forall_mem_cons.mpr ⟨lw_p6, List.forall_mem_cons.mpr ⟨lw_p7, List.forall_mem_cons.mpr ⟨lw_p8, List.forall_mem_cons.mpr ⟨lw_p9, List.forall_mem_cons.mpr ⟨lw_p10, List.forall_mem_cons.mpr ⟨lw_p11, List.forall_mem_cons.mpr ⟨lw_p12, List.forall_mem_cons.mpr ⟨lw_p13, List.forall_mem_cons.mpr ⟨lw_p14, List.forall_mem_cons.mpr ⟨lw_p15, fun _ h => absurd h List.not_mem_nil⟩⟩⟩⟩⟩⟩⟩⟩⟩⟩⟩⟩⟩⟩⟩⟩
theorem lw_p16 : lw_okq (⟨"PageBanksModel", "refuser", "(II)I"⟩, 14) := ⟨⟨by decide +kernel, by decide +kernel⟩, List.mem_of_getElem? (i := 627) (by decide +kernel), List.mem_of_getElem? (i := 712) (by decide +kernel), List.mem_of_getElem? (i := 713) (by decide +kernel)⟩
theorem lw_p17 : lw_okq (⟨"PageBanksModel", "useOf", "(I)I"⟩, 14) := ⟨⟨by decide +kernel, by decide +kernel⟩, List.mem_of_getElem? (i := 627) (by decide +kernel), List.mem_of_getElem? (i := 716) (by decide +kernel), List.mem_of_getElem? (i := 717) (by decide +kernel)⟩
theorem lw_p18 : lw_okq (⟨"PageBanksModel", "isUnder", "(II)Z"⟩, 14) := ⟨⟨by decide +kernel, by decide +kernel⟩, List.mem_of_getElem? (i := 627) (by decide +kernel), List.mem_of_getElem? (i := 720) (by decide +kernel), List.mem_of_getElem? (i := 721) (by decide +kernel)⟩
theorem lw_p19 : lw_okq (⟨"PageBanksModel", "owned", "(I)I"⟩, 14) := ⟨⟨by decide +kernel, by decide +kernel⟩, List.mem_of_getElem? (i := 627) (by decide +kernel), List.mem_of_getElem? (i := 724) (by decide +kernel), List.mem_of_getElem? (i := 725) (by decide +kernel)⟩
theorem lw_p20 : lw_okq (⟨"PageBanksModel", "room", "(I)I"⟩, 14) := ⟨⟨by decide +kernel, by decide +kernel⟩, List.mem_of_getElem? (i := 627) (by decide +kernel), List.mem_of_getElem? (i := 728) (by decide +kernel), List.mem_of_getElem? (i := 729) (by decide +kernel)⟩
theorem lw_p21 : lw_okq (⟨"PageBanksModel", "isFree", "(I)Z"⟩, 14) := ⟨⟨by decide +kernel, by decide +kernel⟩, List.mem_of_getElem? (i := 627) (by decide +kernel), List.mem_of_getElem? (i := 732) (by decide +kernel), List.mem_of_getElem? (i := 733) (by decide +kernel)⟩
theorem lw_p22 : lw_okq (⟨"PageBanksModel", "own", "(II)V"⟩, 14) := ⟨⟨by decide +kernel, by decide +kernel⟩, List.mem_of_getElem? (i := 627) (by decide +kernel), List.mem_of_getElem? (i := 736) (by decide +kernel), List.mem_of_getElem? (i := 737) (by decide +kernel)⟩
theorem lw_p23 : lw_okq (⟨"PageBanksModel", "lives", "(I)Z"⟩, 14) := ⟨⟨by decide +kernel, by decide +kernel⟩, List.mem_of_getElem? (i := 627) (by decide +kernel), List.mem_of_getElem? (i := 751) (by decide +kernel), List.mem_of_getElem? (i := 752) (by decide +kernel)⟩
theorem lw_p24 : lw_okq (⟨"PageBanksModel", "wrong", "(I)I"⟩, 14) := ⟨⟨by decide +kernel, by decide +kernel⟩, List.mem_of_getElem? (i := 627) (by decide +kernel), List.mem_of_getElem? (i := 797) (by decide +kernel), List.mem_of_getElem? (i := 798) (by decide +kernel)⟩
theorem lw_p25 : lw_okq (⟨"PageBanksModel", "clear", "()V"⟩, 14) := ⟨⟨by decide +kernel, by decide +kernel⟩, List.mem_of_getElem? (i := 627) (by decide +kernel), List.mem_of_getElem? (i := 805) (by decide +kernel), List.mem_of_getElem? (i := 806) (by decide +kernel)⟩
theorem lw_p26 : lw_okq (⟨"PageBanksModel", "isParent", "(I)Z"⟩, 14) := ⟨⟨by decide +kernel, by decide +kernel⟩, List.mem_of_getElem? (i := 627) (by decide +kernel), List.mem_of_getElem? (i := 809) (by decide +kernel), List.mem_of_getElem? (i := 810) (by decide +kernel)⟩
theorem lw_p27 : lw_okq (⟨"PageBanksModel", "toBeFreed", "()I"⟩, 14) := ⟨⟨by decide +kernel, by decide +kernel⟩, List.mem_of_getElem? (i := 627) (by decide +kernel), List.mem_of_getElem? (i := 813) (by decide +kernel), List.mem_of_getElem? (i := 814) (by decide +kernel)⟩
theorem lw_p28 : lw_okq (⟨"PageBanksModel", "isToBeFreed", "(I)Z"⟩, 14) := ⟨⟨by decide +kernel, by decide +kernel⟩, List.mem_of_getElem? (i := 627) (by decide +kernel), List.mem_of_getElem? (i := 817) (by decide +kernel), List.mem_of_getElem? (i := 818) (by decide +kernel)⟩
theorem lw_p29 : lw_okq (⟨"PageBanksModel", "placeOfPage", "(II)I"⟩, 14) := ⟨⟨by decide +kernel, by decide +kernel⟩, List.mem_of_getElem? (i := 627) (by decide +kernel), List.mem_of_getElem? (i := 829) (by decide +kernel), List.mem_of_getElem? (i := 830) (by decide +kernel)⟩
theorem lw_p30 : lw_okq (⟨"PageBanksModel", "banksUnder", "(I)I"⟩, 14) := ⟨⟨by decide +kernel, by decide +kernel⟩, List.mem_of_getElem? (i := 627) (by decide +kernel), List.mem_of_getElem? (i := 837) (by decide +kernel), List.mem_of_getElem? (i := 838) (by decide +kernel)⟩
def lw_privs_2 : List (MethodName × Nat) := [(⟨"PageBanksModel", "refuser", "(II)I"⟩, 14), (⟨"PageBanksModel", "useOf", "(I)I"⟩, 14), (⟨"PageBanksModel", "isUnder", "(II)Z"⟩, 14), (⟨"PageBanksModel", "owned", "(I)I"⟩, 14), (⟨"PageBanksModel", "room", "(I)I"⟩, 14), (⟨"PageBanksModel", "isFree", "(I)Z"⟩, 14), (⟨"PageBanksModel", "own", "(II)V"⟩, 14), (⟨"PageBanksModel", "lives", "(I)Z"⟩, 14), (⟨"PageBanksModel", "wrong", "(I)I"⟩, 14), (⟨"PageBanksModel", "clear", "()V"⟩, 14), (⟨"PageBanksModel", "isParent", "(I)Z"⟩, 14), (⟨"PageBanksModel", "toBeFreed", "()I"⟩, 14), (⟨"PageBanksModel", "isToBeFreed", "(I)Z"⟩, 14), (⟨"PageBanksModel", "placeOfPage", "(II)I"⟩, 14), (⟨"PageBanksModel", "banksUnder", "(I)I"⟩, 14)]
theorem lw_r2 : ∀ q ∈ lw_privs_2, lw_okq q := List.forall_mem_cons.mpr ⟨lw_p16, List.forall_mem_cons.mpr ⟨lw_p17, List.forall_mem_cons.mpr ⟨lw_p18, List.forall_mem_cons.mpr ⟨lw_p19, List.forall_mem_cons.mpr ⟨lw_p20, List.forall_mem_cons.mpr ⟨lw_p21, List.forall_mem_cons.mpr ⟨lw_p22, List.forall_mem_cons.mpr ⟨lw_p23, List.forall_mem_cons.mpr ⟨lw_p24, List.forall_mem_cons.mpr ⟨lw_p25, List.forall_mem_cons.mpr ⟨lw_p26, List.forall_mem_cons.mpr ⟨lw_p27, List.forall_mem_cons.mpr ⟨lw_p28, List.forall_mem_cons.mpr ⟨lw_p29, List.forall_mem_cons.mpr ⟨lw_p30, fun _ h => absurd h List.not_mem_nil⟩⟩⟩⟩⟩⟩⟩⟩⟩⟩⟩⟩⟩⟩⟩
def lw_privs : List (MethodName × Nat) := lw_privs_1 ++ (lw_privs_2)
def lw_tbl : List Cond := k2_sels lw_privs ++ tables_1
theorem lw_privs_ok : ∀ q ∈ lw_privs, lw_okq q := by
  show ∀ q ∈ lw_privs_1 ++ (lw_privs_2), lw_okq q
  exact List.forall_mem_append.mpr ⟨lw_r1, lw_r2⟩
end
section
/-! names of the classes, their fields, the methods; the words that all contracts stand on -/
def RS : String := "PageBanks$Store"
def TS : u_T := fun k => match k with
  | 0 => ("PageBanks$Store", "version", "[I", true)
  | 1 => ("PageBanks$Store", "owners", "[I", true)
  | 2 => ("PageBanks$Store", "run", "[I", true)
  | 3 => ("PageBanks$Store", "words", "[I", true)
  | 4 => ("PageBanks$Store", "order", "[I", true)
  | 5 => ("PageBanks$Store", "spare", "[I", true)
  | 6 => ("PageBanks$Store", "listed", "I", false)
  | _ => ("PageBanks$Store", "runs", "I", false)
def tyS : Nat → FieldType := fun k => match k with
  | 0 => .array .int
  | 1 => .array .int
  | 2 => .array .int
  | 3 => .array .int
  | 4 => .array .int
  | 5 => .array .int
  | 6 => .int
  | _ => .int
theorem nmS : ∀ a, a < 8 → ∀ b, b < 8 → a ≠ b → (TS a).2.1 ≠ (TS b).2.1 := by decide +kernel
theorem tyS_ok : ∀ k, k < 8 → parseFieldDescriptor (TS k).2.2.1 = some (tyS k) := by decide +kernel
def RT : String := "PageBanks$Tree"
def TT : u_T := fun k => match k with
  | 0 => ("PageBanks$Tree", "state", "[I", true)
  | 1 => ("PageBanks$Tree", "parent", "[I", true)
  | 2 => ("PageBanks$Tree", "limits", "[I", true)
  | 3 => ("PageBanks$Tree", "reserved", "[I", true)
  | _ => ("PageBanks$Tree", "use", "[I", true)
def tyT : Nat → FieldType := fun k => match k with
  | 0 => .array .int
  | 1 => .array .int
  | 2 => .array .int
  | 3 => .array .int
  | _ => .array .int
theorem nmT : ∀ a, a < 5 → ∀ b, b < 5 → a ≠ b → (TT a).2.1 ≠ (TT b).2.1 := by decide +kernel
theorem tyT_ok : ∀ k, k < 5 → parseFieldDescriptor (TT k).2.2.1 = some (tyT k) := by decide +kernel
def RB : String := "PageBanks"
def TB : u_T := fun k => match k with
  | 0 => ("PageBanks", "tree", "LPageBanks$Tree;", true)
  | 1 => ("PageBanks", "store", "LPageBanks$Store;", true)
  | _ => ("PageBanks", "lastRefuser", "I", false)
def tyB : Nat → FieldType := fun k => match k with
  | 0 => .object "PageBanks$Tree"
  | 1 => .object "PageBanks$Store"
  | _ => .int
theorem nmB : ∀ a, a < 3 → ∀ b, b < 3 → a ≠ b → (TB a).2.1 ≠ (TB b).2.1 := by decide +kernel
theorem tyB_ok : ∀ k, k < 3 → parseFieldDescriptor (TB k).2.2.1 = some (tyB k) := by decide +kernel
def RM : String := "PageBanksModel"
def TM : u_T := fun k => match k with
  | 0 => ("PageBanksModel", "code", "I", false)
  | 1 => ("PageBanksModel", "owners", "[I", true)
  | 2 => ("PageBanksModel", "versions", "[I", true)
  | 3 => ("PageBanksModel", "runs", "[I", true)
  | 4 => ("PageBanksModel", "stamps", "[I", true)
  | 5 => ("PageBanksModel", "words", "[I", true)
  | 6 => ("PageBanksModel", "runCount", "I", false)
  | 7 => ("PageBanksModel", "stampCount", "I", false)
  | 8 => ("PageBanksModel", "there", "[Z", true)
  | 9 => ("PageBanksModel", "parents", "[I", true)
  | 10 => ("PageBanksModel", "limits", "[I", true)
  | 11 => ("PageBanksModel", "states", "[I", true)
  | 12 => ("PageBanksModel", "reserves", "[I", true)
  | _ => ("PageBanksModel", "refusedBy", "I", false)
def tyM : Nat → FieldType := fun k => match k with
  | 0 => .int
  | 1 => .array .int
  | 2 => .array .int
  | 3 => .array .int
  | 4 => .array .int
  | 5 => .array .int
  | 6 => .int
  | 7 => .int
  | 8 => .array .boolean
  | 9 => .array .int
  | 10 => .array .int
  | 11 => .array .int
  | 12 => .array .int
  | _ => .int
theorem nmM : ∀ a, a < 14 → ∀ b, b < 14 → a ≠ b → (TM a).2.1 ≠ (TM b).2.1 := by decide +kernel
theorem tyM_ok : ∀ k, k < 14 → parseFieldDescriptor (TM k).2.2.1 = some (tyM k) := by decide +kernel
abbrev vwCl : List vw_C := [(RS, TS, 8), (RT, TT, 5), (RB, TB, 3), (RM, TM, 14)]
abbrev xkS : Nat := 0
abbrev xkT : Nat := 1
abbrev xkB : Nat := 2
abbrev xkM : Nat := 3
def xNeg : List Cond := [.not (.castable "java/lang/IndexOutOfBoundsException" "java/lang/IllegalArgumentException"), .not (.castable "java/lang/IndexOutOfBoundsException" "java/lang/IllegalStateException"), .not (.castable "java/lang/IndexOutOfBoundsException" "java/lang/UnsupportedOperationException"), .not (.castable "java/lang/IndexOutOfBoundsException" "java/util/NoSuchElementException"), .not (.castable "java/lang/IllegalArgumentException" "java/lang/IndexOutOfBoundsException"), .not (.castable "java/lang/IllegalArgumentException" "java/lang/IllegalStateException"), .not (.castable "java/lang/IllegalArgumentException" "java/lang/UnsupportedOperationException"), .not (.castable "java/lang/IllegalArgumentException" "java/util/NoSuchElementException"), .not (.castable "java/lang/IllegalStateException" "java/lang/IndexOutOfBoundsException"), .not (.castable "java/lang/IllegalStateException" "java/lang/IllegalArgumentException"), .not (.castable "java/lang/IllegalStateException" "java/lang/UnsupportedOperationException"), .not (.castable "java/lang/IllegalStateException" "java/util/NoSuchElementException"), .not (.castable "java/lang/UnsupportedOperationException" "java/lang/IndexOutOfBoundsException"), .not (.castable "java/lang/UnsupportedOperationException" "java/lang/IllegalArgumentException"), .not (.castable "java/lang/UnsupportedOperationException" "java/lang/IllegalStateException"), .not (.castable "java/lang/UnsupportedOperationException" "java/util/NoSuchElementException"), .not (.castable "java/util/NoSuchElementException" "java/lang/IndexOutOfBoundsException"), .not (.castable "java/util/NoSuchElementException" "java/lang/IllegalArgumentException"), .not (.castable "java/util/NoSuchElementException" "java/lang/IllegalStateException"), .not (.castable "java/util/NoSuchElementException" "java/lang/UnsupportedOperationException")]
def xgb (w : Cond) : Bool := (w.keepsFace && w.onTables) || (match w with | .not (.castable _ _) => true | .arrayClass _ => true | _ => false)
def xTs : List Cond := (lw_tbl ++ xNeg).filter xgb
def xTw : List Cond := [.isRef (.static "java/lang/Throwable" "UNASSIGNED_STACK" "[Ljava/lang/StackTraceElement;"), .isRef (.static "java/lang/Throwable" "SUPPRESSED_SENTINEL" "Ljava/util/List;")]
theorem xT {w : Cond} (i : Nat) (h : lw_tbl[i]? = some w) (hg : xgb w = true) : w ∈ xTs := List.mem_filter.mpr ⟨List.mem_append_left _ (List.mem_of_getElem? h), hg⟩
theorem xTn {w : Cond} (i : Nat) (h : xNeg[i]? = some w) (hg : xgb w = true) : w ∈ xTs := List.mem_filter.mpr ⟨List.mem_append_right _ (List.mem_of_getElem? h), hg⟩
end
section
/-! the machine layer: worlds, contracts of invocations that return or throw -/
abbrev xS : Type := Nat → Nat → Int32
abbrev xWd : Type := Nat × Nat × xS
abbrev xO : Type := Option Value ⊕ String
/-- launch; class numbers and slots; array classes of int, long, boolean; the first address of the world; the script: its address, length, ints -/
abbrev xE : Type := Launch × va_G × (ClassId × ClassId × ClassId) × Nat × (Nat × Nat × (Nat → Int32))
abbrev xl (E : xE) : Launch := E.1
abbrev xD (E : xE) : va_G := E.2.1
abbrev xcI (E : xE) : ClassId := E.2.2.1.1
abbrev xcJ (E : xE) : ClassId := E.2.2.1.2.1
abbrev xcZ (E : xE) : ClassId := E.2.2.1.2.2
abbrev xB (E : xE) : Nat := E.2.2.2.1
abbrev xsb (E : xE) : Nat := E.2.2.2.2.1
abbrev xsL (E : xE) : Nat := E.2.2.2.2.2.1
abbrev xsx (E : xE) : Nat → Int32 := E.2.2.2.2.2.2
/-- a reference field: the o-th that the constructors set -/
def xob (E : xE) (r o k : Nat) : Value := if o < r then .ref (xB E + k) else .null
/-- the entry at a place -/
def xen (E : xE) (r : Nat) (k : Nat) (f : Nat → Int32) : va_E := match k with
  | 0 => .inr (xkB, [xob E r 5 1, xob E r 12 7, .int (f 2)])
  | 1 => .inr (xkT, [xob E r 0 2, xob E r 1 3, xob E r 2 4, xob E r 3 5, xob E r 4 6])
  | 2 => .inl (xcI E, 40, .inl f)
  | 3 => .inl (xcI E, 40, .inl f)
  | 4 => .inl (xcI E, 40, .inl f)
  | 5 => .inl (xcI E, 40, .inl f)
  | 6 => .inl (xcI E, 40, .inl f)
  | 7 => .inr (xkS, [xob E r 6 8, xob E r 7 9, xob E r 8 10, xob E r 9 11, xob E r 10 12, xob E r 11 13, .int (f 6), .int (f 7)])
  | 8 => .inl (xcI E, 192, .inl f)
  | 9 => .inl (xcI E, 192, .inl f)
  | 10 => .inl (xcI E, 192, .inl f)
  | 11 => .inl (xcI E, 768, .inl f)
  | 12 => .inl (xcI E, 192, .inl f)
  | 13 => .inl (xcI E, 192, .inl f)
  | 14 => .inr (xkM, [.int (f 0), xob E r 13 15, xob E r 14 16, xob E r 15 17, xob E r 16 18, xob E r 17 19, .int (f 6), .int (f 7), xob E r 18 20, xob E r 19 21, xob E r 20 22, xob E r 21 23, xob E r 22 24, .int (f 13)])
  | 15 => .inl (xcI E, 192, .inl f)
  | 16 => .inl (xcI E, 192, .inl f)
  | 17 => .inl (xcI E, 192, .inl f)
  | 18 => .inl (xcI E, 192, .inl f)
  | 19 => .inl (xcI E, 768, .inl f)
  | 20 => .inl (xcZ E, 40, .inl f)
  | 21 => .inl (xcI E, 40, .inl f)
  | 22 => .inl (xcI E, 40, .inl f)
  | 23 => .inl (xcI E, 40, .inl f)
  | 24 => .inl (xcI E, 40, .inl f)
  | _ => .inl (xcJ E, 1, .inr (.inl (fun i => (f i).toInt64)))
/-- the heap holds the world: the first w.1 places; while it is being made, nothing lies behind them -/
def xH (E : xE) (w : xWd) (H : Heap) : Prop :=
  (∀ k, k < w.1 → va_at (xD E) vwCl (xB E + k, xen E w.2.1 k (w.2.2 k)) H) ∧ xB E + w.1 ≤ H.size ∧ (w.1 < 26 → H.size = xB E + w.1)
/-- the words on the statics of Throwable hold wherever the old cells do -/
def xThr (E : xE) (U : State) : Prop := ∀ V : State, U.vm.Alike V.vm → (∀ q, q < xB E → V.heap[q]? = U.heap[q]?) → ∀ (A : Array Value), ∀ w ∈ xTw, w.before A V = true
def xCx (E : xE) (U : State) : Prop :=
  (xl E).stackTraces = false ∧ va_K (xD E) vwCl [(xcI E, .int), (xcJ E, .long), (xcZ E, .boolean)] U ∧ xB E ≤ U.heap.size ∧ (va_X (xsb E) (xsL E) (xsx E) U U.heap ∧ xsb E < xB E) ∧ xThr E U
theorem xThr.moved {E : xE} {U V : State} (h : xThr E U) (hvm : U.vm.Alike V.vm) (hq : ∀ q, q < xB E → V.heap[q]? = U.heap[q]?) : xThr E V :=
  fun Z h1 h2 => h Z (hvm.trans h1) (fun q hk => (h2 q hk).trans (hq q hk))
theorem xCx.moved {E : xE} {U V : State} (h : xCx E U) (hvm : U.vm.Alike V.vm) (hs : U.heap.size ≤ V.heap.size) (hq : ∀ q, q < xB E → V.heap[q]? = U.heap[q]?) : xCx E V :=
  ⟨h.1, h.2.1.moved hvm, Nat.le_trans h.2.2.1 hs, ⟨(h.2.2.2.1.1.moved hvm).kept (hq _ h.2.2.2.1.2), h.2.2.2.1.2⟩, h.2.2.2.2.moved hvm hq⟩
/-- the words of the room -/
def xlo (d : Nat) : Nat := 28 * d + 90
def xrm (d kc ks : Nat) : Room := { frames := d, cells := kc + 1, slots := ks + 6, locals := xlo d }
/-- a thrown object -/
def xEx (E : xE) (C : String) (a : Nat) (vm : Vm) (H : Heap) : Prop := ∃ cell : Cell, H[a]? = some cell ∧ cell.vm.isStatics = false ∧ vm.findClass C = some cell.cls ∧ xB E ≤ a
/-- what an invocation leaves -/
def xFr (E : xE) (s t : State) (mc ms : Nat) : Prop := s.WarmedH t.vm ∧ (∀ q, q < xB E → t.heap[q]? = s.heap[q]?) ∧ ∃ L : List Loc, s.sameButNew ({ t with vm := s.vm } : State) L mc ms ∧ ∀ q ∈ L, xB E ≤ q.base
def xQ (E : xE) (Post : xO → xWd → Prop) (mc ms : Nat) (s : State) (o : Outcome) (t : State) : Prop := match o with
  | .returned v => (∃ w, Post (.inl v) w ∧ xH E w t.heap) ∧ xFr E s t mc ms
  | .threw a => (∃ w C, Post (.inr C) w ∧ xH E w t.heap ∧ xEx E C a t.vm t.heap) ∧ xFr E s t (mc + 1) (ms + 6)
def xMQ (E : xE) (below : List Frame) (Post : xO → xWd → Prop) (mc ms : Nat) (s : State) : State → Prop := fun t => ∃ o, t.status = .running ∧ Ended t below o ∧ xQ E Post mc ms s o t
/-- a method: its name, code, number of locals, what it returns, its handlers (from, to, target, type) -/
abbrev xMI : Type := MethodName × ByteArray × Nat × Option FieldType × List (Nat × Nat × Nat × Nat)
abbrev xy (mi : xMI) : MethodName := mi.1
abbrev xcc (mi : xMI) : ByteArray := mi.2.1
abbrev xnL (mi : xMI) : Nat := mi.2.2.1
abbrev xrt (mi : xMI) : Option FieldType := mi.2.2.2.1
abbrev xhs (mi : xMI) : List (Nat × Nat × Nat × Nat) := mi.2.2.2.2
/-- the contract of an invocation with these arguments in this world -/
def XC (E : xE) (mi : xMI) (d kc ks : Nat) (as : List Value) (w : xWd) (Post : xO → xWd → Prop) : Prop :=
  MetFree (xl E) (xy mi) (headSpec xTs (xrm d kc ks)) (fun a U => a = as.toArray ∧ xH E w U.heap ∧ xCx E U) (fun _ _ _ _ _ => True) (fun _ st o t => xQ E Post kc ks st o t)
/-- what a body's walk knows -/
def xB0 (E : xE) (mi : xMI) (d : Nat) (p : Program) (R : Room) (s : State) (m : MethodId) (args : Array Value) (meth : Method) (c : Code) : Prop :=
  p.tables.exec = Jvm.exec ∧ c.code = xcc mi ∧ c.maxLocals = xnL mi ∧ s.vm.findClass (xy mi).cls = some m.cls ∧ (∀ w ∈ xTs, w.before args s = true) ∧ meth.sig.returnType = xrt mi ∧ meth.locks = false ∧ meth.name = (xy mi).name ∧
  (c.exceptionTable.toList.map fun x => (x.startPc, x.endPc, x.handlerPc, x.catchType)) = xhs mi ∧ xCx E s ∧ d ≤ R.frames ∧ xlo d ≤ R.locals
/-- the locals, by their numbers; all of one word -/
def xL (ls : Array Slot) (n : Nat) (L : List Value) : Prop := ls.size = n ∧ lv_wf ls ∧ (∀ v ∈ L, v.category = 1) ∧ ∀ (i : Nat) (v : Value), L[i]? = some v → ls[i]? = some (.val v)
/-- from this point of the body on the invocation ends so -/
def XR (E : xE) (mi : xMI) (d kc ks : Nat) (Post : xO → xWd → Prop) (pc : Nat) (L st : List Value) (w : xWd) : Prop :=
  ∀ (p : Program) (e : Env) (R : Room) (s : State) (m : MethodId) (args : Array Value) (below : List Frame) (meth : Method) (c : Code), xB0 E mi d p R s m args meth c →
  ∀ (H : Heap) (locs : List Loc) (cells slots : Nat) (ls : Array Slot), xL ls (xnL mi) L → xH E w H → va_S (fun q => xB E ≤ q) s.heap H locs → cells + kc + 1 ≤ R.cells → slots + ks + 6 ≤ R.slots →
    W p (xl E) e R s m args below meth c H locs cells slots (xMQ E below Post (cells + kc) (slots + ks) s) (F0 m pc ls st)
/-- .. and from this point on, with an exception thrown there -/
def xWT (p : Program) (l : Launch) (e : Env) (R : Room) (s : State) (m : MethodId) (args : Array Value) (below : List Frame) (meth : Method) (c : Code) (H : Heap) (locs : List Loc) (cells slots : Nat) (Q : State → Prop) (g : JFrame) (x : Addr) : Prop :=
  ∀ T : State, T.heap = H → Stand p l e R s m args below meth c T locs cells slots → ∃ t, Steps p.tables e below ((T.setTop g).pushFrame (.throwing x)) t ∧ Q t
def XT (E : xE) (mi : xMI) (d kc ks : Nat) (Post : xO → xWd → Prop) (pc : Nat) (L : List Value) (C : String) (w : xWd) : Prop :=
  ∀ (p : Program) (e : Env) (R : Room) (s : State) (m : MethodId) (args : Array Value) (below : List Frame) (meth : Method) (c : Code), xB0 E mi d p R s m args meth c →
  ∀ (H : Heap) (locs : List Loc) (cells slots : Nat) (ls : Array Slot) (st : List Value) (x : Addr), xL ls (xnL mi) L → xH E w H → xEx E C x s.vm H → va_S (fun q => xB E ≤ q) s.heap H locs → cells + kc ≤ R.cells → slots + ks ≤ R.slots →
    xWT p (xl E) e R s m args below meth c H locs cells slots (xMQ E below Post (cells + kc - 1) (slots + ks - 6) s) (F0 m pc ls st) x
end
section
/-! the locals -/
def xst : List Value → Nat → Value → List Value
  | [], 0, v => [v]
  | [], _ + 1, _ => []
  | _ :: r, 0, v => v :: r
  | a :: r, i + 1, v => a :: xst r i v
theorem xst_get (v : Value) : ∀ (L : List Value) (i j : Nat) (u : Value), (xst L i v)[j]? = some u → (j = i ∧ u = v) ∨ (j ≠ i ∧ L[j]? = some u)
  | [], 0, 0, u, h => by simp [xst] at h; exact Or.inl ⟨rfl, h.symm⟩
  | [], 0, j + 1, u, h => by simp [xst] at h
  | [], i + 1, j, u, h => by simp [xst] at h
  | a :: r, 0, 0, u, h => by simp [xst] at h; exact Or.inl ⟨rfl, h.symm⟩
  | a :: r, 0, j + 1, u, h => by simp [xst] at h; exact Or.inr ⟨by omega, by simpa using h⟩
  | a :: r, i + 1, 0, u, h => by simp [xst] at h; exact Or.inr ⟨by omega, by simpa using h⟩
  | a :: r, i + 1, j + 1, u, h => by
    simp only [xst, List.getElem?_cons_succ] at h
    rcases xst_get v r i j u h with ⟨h1, h2⟩ | ⟨h1, h2⟩
    · exact Or.inl ⟨by omega, h2⟩
    · exact Or.inr ⟨by omega, by simpa using h2⟩
def xz : Nat → List Value → List (Nat × Value)
  | _, [] => []
  | k, v :: r => (k, v) :: xz (k + 1) r
theorem xz_get : ∀ (L : List Value) (k i : Nat) (v : Value), L[i]? = some v → (xz k L)[i]? = some (k + i, v)
  | [], k, i, v, h => by simp at h
  | a :: r, k, 0, v, h => by simp at h; simp [xz, h]
  | a :: r, k, i + 1, v, h => by
    have := xz_get r (k + 1) i v (by simpa using h)
    simp only [xz, List.getElem?_cons_succ, this]
    congr 2; omega
theorem xz_mem : ∀ (L : List Value) (k : Nat) (q : Nat × Value), q ∈ xz k L → ∃ i, q.1 = k + i ∧ L[i]? = some q.2
  | [], k, q, h => by simp [xz] at h
  | a :: r, k, q, h => by
    simp only [xz, List.mem_cons] at h
    rcases h with rfl | h
    · exact ⟨0, rfl, rfl⟩
    · obtain ⟨i, h1, h2⟩ := xz_mem r (k + 1) q h
      exact ⟨i + 1, by omega, by simpa using h2⟩
theorem xL.has {ls : Array Slot} {n : Nat} {L : List Value} (h : xL ls n L) : lv_has ls n (xz 0 L) :=
  ⟨h.1, h.2.1, fun q hq => by obtain ⟨i, h1, h2⟩ := xz_mem L 0 q hq; rw [h1, Nat.zero_add]; exact h.2.2.2 i _ h2⟩
theorem xL.stored {ls ls' : Array Slot} {n i : Nat} {L : List Value} {v : Value} (h : xL ls n L) (hv : v.category = 1) (h' : lv_has ls' n ((i, v) :: (xz 0 L).filter (fun q => !(q.1 == i) && !(q.1 + 1 == i && q.2.category == 2)))) : xL ls' n (xst L i v) := by
  refine ⟨h'.1, h'.2.1, fun u hu => ?_, fun j u hj => ?_⟩
  · obtain ⟨j, hj⟩ := List.getElem?_of_mem hu
    rcases xst_get v L i j u hj with ⟨-, rfl⟩ | ⟨-, h2⟩
    · exact hv
    · exact h.2.2.1 u (List.mem_of_getElem? h2)
  · rcases xst_get v L i j u hj with ⟨rfl, rfl⟩ | ⟨h1, h2⟩
    · exact h'.2.2 (j, u) List.mem_cons_self
    · refine h'.2.2 (j, u) (List.mem_cons_of_mem _ (List.mem_filter.mpr ⟨List.mem_of_getElem? (by simpa using xz_get L 0 j u h2), ?_⟩))
      have hc := h.2.2.1 u (List.mem_of_getElem? h2)
      simp [h1, hc]
theorem xL.entry {vs : List Value} {n : Nat} (hc : ∀ v ∈ vs, v.category = 1) (h : vs.length ≤ n) : xL ((lg_sl vs ++ List.replicate (n - (lg_sl vs).length) Slot.unset).toArray) n vs := by
  have e1 : ∀ vs : List Value, (∀ v ∈ vs, v.category = 1) → (lg_sl vs).length = vs.length := by
    intro vs
    induction vs with
    | nil => intro _; rfl
    | cons a r ih =>
      intro h
      have h1 := h a List.mem_cons_self
      have h2 := ih fun v hv => h v (List.mem_cons_of_mem _ hv)
      simp [lg_sl, h1] at h2 ⊢
      omega
  have e2 : ∀ (vs : List Value) (k : Nat), (∀ v ∈ vs, v.category = 1) → lv_args k vs = xz k vs := by
    intro vs
    induction vs with
    | nil => intro k _; rfl
    | cons a r ih =>
      intro k h
      have h1 := h a List.mem_cons_self
      simp [lv_args, xz, h1, ih (k + 1) fun v hv => h v (List.mem_cons_of_mem _ hv)]
  have h2 := lv_entry vs (n := n) (by rw [e1 vs hc]; exact h)
  rw [e2 vs 0 hc] at h2
  refine ⟨h2.1, h2.2.1, hc, fun i v hi => ?_⟩
  have := h2.2.2 (0 + i, v) (List.mem_of_getElem? (xz_get vs 0 i v hi))
  simpa using this
theorem xL.sub {ls : Array Slot} {n : Nat} {L L' : List Value} (h : xL ls n L) (hs : ∀ (i : Nat) (v : Value), L'[i]? = some v → L[i]? = some v) : xL ls n L' :=
  ⟨h.1, h.2.1, fun v hv => by obtain ⟨j, hj⟩ := List.getElem?_of_mem hv; exact h.2.2.1 v (List.mem_of_getElem? (hs j v hj)), fun i v hi => h.2.2.2 i v (hs i v hi)⟩
section XRules
variable {E : xE} {mi : xMI} {d kc ks pc : Nat} {Post : xO → xWd → Prop} {L st : List Value} {w : xWd}
theorem XR.lift {pc2 : Nat} {st2 : List Value} (h : ∀ {p : Program} {l : Launch} {e : Env} {R : Room} {s : State} {m : MethodId} {args : Array Value} {below : List Frame} {meth : Method} {c : Code} {H : Heap} {locs : List Loc} {cells slots : Nat} {Q : State → Prop} {ls : Array Slot}, p.tables.exec = Jvm.exec → c.code = xcc mi → xL ls (xnL mi) L → W p l e R s m args below meth c H locs cells slots Q (F0 m pc2 ls st2) → W p l e R s m args below meth c H locs cells slots Q (F0 m pc ls st))
    (k : XR E mi d kc ks Post pc2 L st2 w) : XR E mi d kc ks Post pc L st w :=
  fun p e R s m args below meth c hB H locs cells slots ls hl hH hS h1 h2 => h hB.1 hB.2.1 hl (k p e R s m args below meth c hB H locs cells slots ls hl hH hS h1 h2)
theorem XR.iconst {n : Int} {v : Int32} (hd : decode (xcc mi) pc = .ok (.iconst n, 1)) (hv : Int32.ofInt n = v) (k : XR E mi d kc ks Post (pc + 1) L (.int v :: st) w) : XR E mi d kc ks Post pc L st w :=
  XR.lift (fun hx hb _ kk => lv_iconst hx hb hd hv kk) k
theorem XR.bipush {n : Int} {v : Int32} (hd : decode (xcc mi) pc = .ok (.bipush n, 2)) (hv : (Int8.ofInt n).toInt32 = v) (k : XR E mi d kc ks Post (pc + 2) L (.int v :: st) w) : XR E mi d kc ks Post pc L st w :=
  XR.lift (fun hx hb _ kk => lv_bipush hx hb hd hv kk) k
theorem XR.sipush {n : Int} {v : Int32} (hd : decode (xcc mi) pc = .ok (.sipush n, 3)) (hv : (Int16.ofInt n).toInt32 = v) (k : XR E mi d kc ks Post (pc + 3) L (.int v :: st) w) : XR E mi d kc ks Post pc L st w :=
  XR.lift (fun hx hb _ kk => lv_sipush hx hb hd hv kk) k
theorem XR.lconst {n : Fin 2} {v : Int64} (hd : decode (xcc mi) pc = .ok (.lconst n, 1)) (hv : Int64.ofNat (n : Nat) = v) (k : XR E mi d kc ks Post (pc + 1) L (.long v :: st) w) : XR E mi d kc ks Post pc L st w :=
  XR.lift (fun hx hb _ kk => lv_lconst hx hb hd hv kk) k
theorem XR.iload_n {j : Fin 4} {x : Int32} (hd : decode (xcc mi) pc = .ok (.iload_n j, 1)) (hl : L[(j : Nat)]? = some (.int x)) (k : XR E mi d kc ks Post (pc + 1) L (.int x :: st) w) : XR E mi d kc ks Post pc L st w :=
  XR.lift (fun hx hb h kk => lv_iload_n hx hb hd rfl (h.2.2.2 _ _ hl) kk) k
theorem XR.iload {i : Nat} {x : Int32} (hd : decode (xcc mi) pc = .ok (.iload i, 2)) (hl : L[i]? = some (.int x)) (k : XR E mi d kc ks Post (pc + 2) L (.int x :: st) w) : XR E mi d kc ks Post pc L st w :=
  XR.lift (fun hx hb h kk => lv_iload hx hb hd (h.2.2.2 _ _ hl) kk) k
theorem XR.aload_n {j : Fin 4} {x : Nat} (hd : decode (xcc mi) pc = .ok (.aload_n j, 1)) (hl : L[(j : Nat)]? = some (.ref x)) (k : XR E mi d kc ks Post (pc + 1) L (.ref x :: st) w) : XR E mi d kc ks Post pc L st w :=
  XR.lift (fun hx hb h kk => lv_aload_n hx hb hd rfl (h.2.2.2 _ _ hl) kk) k
theorem XR.aload {i x : Nat} (hd : decode (xcc mi) pc = .ok (.aload i, 2)) (hl : L[i]? = some (.ref x)) (k : XR E mi d kc ks Post (pc + 2) L (.ref x :: st) w) : XR E mi d kc ks Post pc L st w :=
  XR.lift (fun hx hb h kk => lv_aload hx hb hd (h.2.2.2 _ _ hl) kk) k
theorem XR.istore_n {j : Fin 4} {x : Int32} {L' : List Value} (hd : decode (xcc mi) pc = .ok (.istore_n j, 1)) (hj : (j : Nat) < xnL mi) (hl : xst L (j : Nat) (.int x) = L') (k : XR E mi d kc ks Post (pc + 1) L' st w) : XR E mi d kc ks Post pc L (.int x :: st) w := by
  subst hl
  intro p e R s m args below meth c hB H locs cells slots ls hl hH hS h1 h2
  exact lv_istore_n hB.1 hB.2.1 hd rfl hl.has hj rfl fun ls' h' => k p e R s m args below meth c hB H locs cells slots ls' (hl.stored rfl h') hH hS h1 h2
theorem XR.istore {i : Nat} {x : Int32} {L' : List Value} (hd : decode (xcc mi) pc = .ok (.istore i, 2)) (hj : i < xnL mi) (hl : xst L i (.int x) = L') (k : XR E mi d kc ks Post (pc + 2) L' st w) : XR E mi d kc ks Post pc L (.int x :: st) w := by
  subst hl
  intro p e R s m args below meth c hB H locs cells slots ls hl hH hS h1 h2
  exact lv_istore hB.1 hB.2.1 hd hl.has hj rfl fun ls' h' => k p e R s m args below meth c hB H locs cells slots ls' (hl.stored rfl h') hH hS h1 h2
theorem XR.astore_n {j : Fin 4} {x : Nat} {L' : List Value} (hd : decode (xcc mi) pc = .ok (.astore_n j, 1)) (hj : (j : Nat) < xnL mi) (hl : xst L (j : Nat) (.ref x) = L') (k : XR E mi d kc ks Post (pc + 1) L' st w) : XR E mi d kc ks Post pc L (.ref x :: st) w := by
  subst hl
  intro p e R s m args below meth c hB H locs cells slots ls hl hH hS h1 h2
  exact lv_astore_n hB.1 hB.2.1 hd rfl hl.has hj rfl fun ls' h' => k p e R s m args below meth c hB H locs cells slots ls' (hl.stored rfl h') hH hS h1 h2
theorem XR.astore {i x : Nat} {L' : List Value} (hd : decode (xcc mi) pc = .ok (.astore i, 2)) (hj : i < xnL mi) (hl : xst L i (.ref x) = L') (k : XR E mi d kc ks Post (pc + 2) L' st w) : XR E mi d kc ks Post pc L (.ref x :: st) w := by
  subst hl
  intro p e R s m args below meth c hB H locs cells slots ls hl hH hS h1 h2
  exact lv_astore hB.1 hB.2.1 hd hl.has hj rfl fun ls' h' => k p e R s m args below meth c hB H locs cells slots ls' (hl.stored rfl h') hH hS h1 h2
theorem XR.iinc {i : Nat} {n : Int} {x v : Int32} {L' : List Value} (hd : decode (xcc mi) pc = .ok (.iinc i n, 3)) (hi : L[i]? = some (.int x)) (hv : x + Int32.ofInt n = v) (hj : i < xnL mi) (hl : xst L i (.int v) = L') (k : XR E mi d kc ks Post (pc + 3) L' st w) : XR E mi d kc ks Post pc L st w := by
  subst hl
  intro p e R s m args below meth c hB H locs cells slots ls hl hH hS h1 h2
  exact lv_iinc hB.1 hB.2.1 hd hl.has (by simpa using xz_get L 0 i _ hi) hv hj rfl fun ls' h' => k p e R s m args below meth c hB H locs cells slots ls' (hl.stored rfl h') hH hS h1 h2
theorem XR.iadd {x y : Int32} (hd : decode (xcc mi) pc = .ok (.iadd, 1)) (k : XR E mi d kc ks Post (pc + 1) L (.int (x + y) :: st) w) : XR E mi d kc ks Post pc L (.int y :: .int x :: st) w := XR.lift (fun hx hb _ kk => lv_iadd hx hb hd kk) k
theorem XR.isub {x y : Int32} (hd : decode (xcc mi) pc = .ok (.isub, 1)) (k : XR E mi d kc ks Post (pc + 1) L (.int (x - y) :: st) w) : XR E mi d kc ks Post pc L (.int y :: .int x :: st) w := XR.lift (fun hx hb _ kk => lv_isub hx hb hd kk) k
theorem XR.imul {x y : Int32} (hd : decode (xcc mi) pc = .ok (.imul, 1)) (k : XR E mi d kc ks Post (pc + 1) L (.int (x * y) :: st) w) : XR E mi d kc ks Post pc L (.int y :: .int x :: st) w := XR.lift (fun hx hb _ kk => lv_imul hx hb hd kk) k
theorem XR.iand {x y : Int32} (hd : decode (xcc mi) pc = .ok (.iand, 1)) (k : XR E mi d kc ks Post (pc + 1) L (.int (x &&& y) :: st) w) : XR E mi d kc ks Post pc L (.int y :: .int x :: st) w := XR.lift (fun hx hb _ kk => lv_iand hx hb hd kk) k
theorem XR.ior {x y : Int32} (hd : decode (xcc mi) pc = .ok (.ior, 1)) (k : XR E mi d kc ks Post (pc + 1) L (.int (x ||| y) :: st) w) : XR E mi d kc ks Post pc L (.int y :: .int x :: st) w := XR.lift (fun hx hb _ kk => lv_ior hx hb hd kk) k
theorem XR.ixor {x y : Int32} (hd : decode (xcc mi) pc = .ok (.ixor, 1)) (k : XR E mi d kc ks Post (pc + 1) L (.int (x ^^^ y) :: st) w) : XR E mi d kc ks Post pc L (.int y :: .int x :: st) w := XR.lift (fun hx hb _ kk => lv_ixor hx hb hd kk) k
theorem XR.ishr {x y : Int32} (hd : decode (xcc mi) pc = .ok (.ishr, 1)) (k : XR E mi d kc ks Post (pc + 1) L (.int (x >>> (y &&& 31)) :: st) w) : XR E mi d kc ks Post pc L (.int y :: .int x :: st) w := XR.lift (fun hx hb _ kk => lv_ishr hx hb hd kk) k
theorem XR.idiv {x y : Int32} (hd : decode (xcc mi) pc = .ok (.idiv, 1)) (hy : ¬ y = 0) (k : XR E mi d kc ks Post (pc + 1) L (.int (x / y) :: st) w) : XR E mi d kc ks Post pc L (.int y :: .int x :: st) w := XR.lift (fun hx hb _ kk => lv_idiv hx hb hd hy kk) k
theorem XR.irem {x y : Int32} (hd : decode (xcc mi) pc = .ok (.irem, 1)) (hy : ¬ y = 0) (k : XR E mi d kc ks Post (pc + 1) L (.int (x - x / y * y) :: st) w) : XR E mi d kc ks Post pc L (.int y :: .int x :: st) w := XR.lift (fun hx hb _ kk => lv_irem hx hb hd hy kk) k
theorem XR.ineg {x : Int32} (hd : decode (xcc mi) pc = .ok (.ineg, 1)) (k : XR E mi d kc ks Post (pc + 1) L (.int (-x) :: st) w) : XR E mi d kc ks Post pc L (.int x :: st) w := XR.lift (fun hx hb _ kk => lv_ineg hx hb hd kk) k
theorem XR.i2l {x : Int32} (hd : decode (xcc mi) pc = .ok (.i2l, 1)) (k : XR E mi d kc ks Post (pc + 1) L (.long x.toInt64 :: st) w) : XR E mi d kc ks Post pc L (.int x :: st) w := XR.lift (fun hx hb _ kk => lv_i2l hx hb hd rfl kk) k
theorem XR.lcmp {x y : Int64} (hd : decode (xcc mi) pc = .ok (.lcmp, 1)) (k : XR E mi d kc ks Post (pc + 1) L (.int (lg_cmp x y) :: st) w) : XR E mi d kc ks Post pc L (.long y :: .long x :: st) w := XR.lift (fun hx hb _ kk => W.lcmp hx hb hd kk) k
theorem XR.dup {v : Value} (hd : decode (xcc mi) pc = .ok (.dup, 1)) (hv : v.category = 1) (k : XR E mi d kc ks Post (pc + 1) L (v :: v :: st) w) : XR E mi d kc ks Post pc L (v :: st) w := XR.lift (fun hx hb _ kk => lv_dup hx hb hd hv kk) k
theorem XR.dup2 {u v : Value} (hd : decode (xcc mi) pc = .ok (.dup2, 1)) (hu : u.category = 1) (hv : v.category = 1) (k : XR E mi d kc ks Post (pc + 1) L (u :: v :: u :: v :: st) w) : XR E mi d kc ks Post pc L (u :: v :: st) w := XR.lift (fun hx hb _ kk => lv_dup2_11 hx hb hd hu hv kk) k
theorem XR.pop {v : Value} (hd : decode (xcc mi) pc = .ok (.pop, 1)) (hv : v.category = 1) (k : XR E mi d kc ks Post (pc + 1) L st w) : XR E mi d kc ks Post pc L (v :: st) w := XR.lift (fun hx hb _ kk => lv_pop hx hb hd hv kk) k
theorem XR.goto {off : Int} {tgt : Nat} (hd : decode (xcc mi) pc = .ok (.goto off, 3)) (ht : (pc : Int) + off = (tgt : Int)) (k : XR E mi d kc ks Post tgt L st w) : XR E mi d kc ks Post pc L st w := XR.lift (fun hx hb _ kk => lv_goto hx hb hd ht kk) k
theorem XR.if_eq {x : Int32} {off : Int} {tgt : Nat} (hd : decode (xcc mi) pc = .ok (.ifCond .eq off, 3)) (ht : (pc : Int) + off = (tgt : Int)) (kt : x = 0 → XR E mi d kc ks Post tgt L st w) (kf : ¬ x = 0 → XR E mi d kc ks Post (pc + 3) L st w) : XR E mi d kc ks Post pc L (.int x :: st) w :=
  fun p e R s m args below meth c hB H locs cells slots ls hl hH hS h1 h2 => lv_if_eq hB.1 hB.2.1 hd ht (fun q => kt q p e R s m args below meth c hB H locs cells slots ls hl hH hS h1 h2) (fun q => kf q p e R s m args below meth c hB H locs cells slots ls hl hH hS h1 h2)
theorem XR.icmp_eq {x y : Int32} {off : Int} {tgt : Nat} (hd : decode (xcc mi) pc = .ok (.if_icmp .eq off, 3)) (ht : (pc : Int) + off = (tgt : Int)) (kt : x = y → XR E mi d kc ks Post tgt L st w) (kf : ¬ x = y → XR E mi d kc ks Post (pc + 3) L st w) : XR E mi d kc ks Post pc L (.int y :: .int x :: st) w :=
  fun p e R s m args below meth c hB H locs cells slots ls hl hH hS h1 h2 => lv_icmp_eq hB.1 hB.2.1 hd ht (fun q => kt q p e R s m args below meth c hB H locs cells slots ls hl hH hS h1 h2) (fun q => kf q p e R s m args below meth c hB H locs cells slots ls hl hH hS h1 h2)
theorem XR.if_ne {x : Int32} {off : Int} {tgt : Nat} (hd : decode (xcc mi) pc = .ok (.ifCond .ne off, 3)) (ht : (pc : Int) + off = (tgt : Int)) (kt : ¬ x = 0 → XR E mi d kc ks Post tgt L st w) (kf : x = 0 → XR E mi d kc ks Post (pc + 3) L st w) : XR E mi d kc ks Post pc L (.int x :: st) w :=
  fun p e R s m args below meth c hB H locs cells slots ls hl hH hS h1 h2 => lv_if_ne hB.1 hB.2.1 hd ht (fun q => kt q p e R s m args below meth c hB H locs cells slots ls hl hH hS h1 h2) (fun q => kf q p e R s m args below meth c hB H locs cells slots ls hl hH hS h1 h2)
theorem XR.icmp_ne {x y : Int32} {off : Int} {tgt : Nat} (hd : decode (xcc mi) pc = .ok (.if_icmp .ne off, 3)) (ht : (pc : Int) + off = (tgt : Int)) (kt : ¬ x = y → XR E mi d kc ks Post tgt L st w) (kf : x = y → XR E mi d kc ks Post (pc + 3) L st w) : XR E mi d kc ks Post pc L (.int y :: .int x :: st) w :=
  fun p e R s m args below meth c hB H locs cells slots ls hl hH hS h1 h2 => lv_icmp_ne hB.1 hB.2.1 hd ht (fun q => kt q p e R s m args below meth c hB H locs cells slots ls hl hH hS h1 h2) (fun q => kf q p e R s m args below meth c hB H locs cells slots ls hl hH hS h1 h2)
theorem XR.if_lt {x : Int32} {off : Int} {tgt : Nat} (hd : decode (xcc mi) pc = .ok (.ifCond .lt off, 3)) (ht : (pc : Int) + off = (tgt : Int)) (kt : x < 0 → XR E mi d kc ks Post tgt L st w) (kf : ¬ x < 0 → XR E mi d kc ks Post (pc + 3) L st w) : XR E mi d kc ks Post pc L (.int x :: st) w :=
  fun p e R s m args below meth c hB H locs cells slots ls hl hH hS h1 h2 => lv_if_lt hB.1 hB.2.1 hd ht (fun q => kt q p e R s m args below meth c hB H locs cells slots ls hl hH hS h1 h2) (fun q => kf q p e R s m args below meth c hB H locs cells slots ls hl hH hS h1 h2)
theorem XR.icmp_lt {x y : Int32} {off : Int} {tgt : Nat} (hd : decode (xcc mi) pc = .ok (.if_icmp .lt off, 3)) (ht : (pc : Int) + off = (tgt : Int)) (kt : x < y → XR E mi d kc ks Post tgt L st w) (kf : ¬ x < y → XR E mi d kc ks Post (pc + 3) L st w) : XR E mi d kc ks Post pc L (.int y :: .int x :: st) w :=
  fun p e R s m args below meth c hB H locs cells slots ls hl hH hS h1 h2 => lv_icmp_lt hB.1 hB.2.1 hd ht (fun q => kt q p e R s m args below meth c hB H locs cells slots ls hl hH hS h1 h2) (fun q => kf q p e R s m args below meth c hB H locs cells slots ls hl hH hS h1 h2)
theorem XR.if_ge {x : Int32} {off : Int} {tgt : Nat} (hd : decode (xcc mi) pc = .ok (.ifCond .ge off, 3)) (ht : (pc : Int) + off = (tgt : Int)) (kt : 0 ≤ x → XR E mi d kc ks Post tgt L st w) (kf : ¬ 0 ≤ x → XR E mi d kc ks Post (pc + 3) L st w) : XR E mi d kc ks Post pc L (.int x :: st) w :=
  fun p e R s m args below meth c hB H locs cells slots ls hl hH hS h1 h2 => lv_if_ge hB.1 hB.2.1 hd ht (fun q => kt q p e R s m args below meth c hB H locs cells slots ls hl hH hS h1 h2) (fun q => kf q p e R s m args below meth c hB H locs cells slots ls hl hH hS h1 h2)
theorem XR.icmp_ge {x y : Int32} {off : Int} {tgt : Nat} (hd : decode (xcc mi) pc = .ok (.if_icmp .ge off, 3)) (ht : (pc : Int) + off = (tgt : Int)) (kt : y ≤ x → XR E mi d kc ks Post tgt L st w) (kf : ¬ y ≤ x → XR E mi d kc ks Post (pc + 3) L st w) : XR E mi d kc ks Post pc L (.int y :: .int x :: st) w :=
  fun p e R s m args below meth c hB H locs cells slots ls hl hH hS h1 h2 => lv_icmp_ge hB.1 hB.2.1 hd ht (fun q => kt q p e R s m args below meth c hB H locs cells slots ls hl hH hS h1 h2) (fun q => kf q p e R s m args below meth c hB H locs cells slots ls hl hH hS h1 h2)
theorem XR.if_gt {x : Int32} {off : Int} {tgt : Nat} (hd : decode (xcc mi) pc = .ok (.ifCond .gt off, 3)) (ht : (pc : Int) + off = (tgt : Int)) (kt : 0 < x → XR E mi d kc ks Post tgt L st w) (kf : ¬ 0 < x → XR E mi d kc ks Post (pc + 3) L st w) : XR E mi d kc ks Post pc L (.int x :: st) w :=
  fun p e R s m args below meth c hB H locs cells slots ls hl hH hS h1 h2 => lv_if_gt hB.1 hB.2.1 hd ht (fun q => kt q p e R s m args below meth c hB H locs cells slots ls hl hH hS h1 h2) (fun q => kf q p e R s m args below meth c hB H locs cells slots ls hl hH hS h1 h2)
theorem XR.icmp_gt {x y : Int32} {off : Int} {tgt : Nat} (hd : decode (xcc mi) pc = .ok (.if_icmp .gt off, 3)) (ht : (pc : Int) + off = (tgt : Int)) (kt : y < x → XR E mi d kc ks Post tgt L st w) (kf : ¬ y < x → XR E mi d kc ks Post (pc + 3) L st w) : XR E mi d kc ks Post pc L (.int y :: .int x :: st) w :=
  fun p e R s m args below meth c hB H locs cells slots ls hl hH hS h1 h2 => lv_icmp_gt hB.1 hB.2.1 hd ht (fun q => kt q p e R s m args below meth c hB H locs cells slots ls hl hH hS h1 h2) (fun q => kf q p e R s m args below meth c hB H locs cells slots ls hl hH hS h1 h2)
theorem XR.if_le {x : Int32} {off : Int} {tgt : Nat} (hd : decode (xcc mi) pc = .ok (.ifCond .le off, 3)) (ht : (pc : Int) + off = (tgt : Int)) (kt : x ≤ 0 → XR E mi d kc ks Post tgt L st w) (kf : ¬ x ≤ 0 → XR E mi d kc ks Post (pc + 3) L st w) : XR E mi d kc ks Post pc L (.int x :: st) w :=
  fun p e R s m args below meth c hB H locs cells slots ls hl hH hS h1 h2 => lv_if_le hB.1 hB.2.1 hd ht (fun q => kt q p e R s m args below meth c hB H locs cells slots ls hl hH hS h1 h2) (fun q => kf q p e R s m args below meth c hB H locs cells slots ls hl hH hS h1 h2)
theorem XR.icmp_le {x y : Int32} {off : Int} {tgt : Nat} (hd : decode (xcc mi) pc = .ok (.if_icmp .le off, 3)) (ht : (pc : Int) + off = (tgt : Int)) (kt : x ≤ y → XR E mi d kc ks Post tgt L st w) (kf : ¬ x ≤ y → XR E mi d kc ks Post (pc + 3) L st w) : XR E mi d kc ks Post pc L (.int y :: .int x :: st) w :=
  fun p e R s m args below meth c hB H locs cells slots ls hl hH hS h1 h2 => lv_icmp_le hB.1 hB.2.1 hd ht (fun q => kt q p e R s m args below meth c hB H locs cells slots ls hl hH hS h1 h2) (fun q => kf q p e R s m args below meth c hB H locs cells slots ls hl hH hS h1 h2)
theorem XR.tableOut {dflt lo hi : Int} {offs : Array Int} {len : Nat} {x : Int32} {tgt : Nat} (hd : decode (xcc mi) pc = .ok (.tableswitch dflt lo hi offs, len)) (h : x.toInt < lo ∨ hi < x.toInt) (ht : (pc : Int) + dflt = (tgt : Int)) (k : XR E mi d kc ks Post tgt L st w) : XR E mi d kc ks Post pc L (.int x :: st) w :=
  XR.lift (fun hx hb _ kk => lv_tableOut hx hb hd h ht kk) k
theorem XR.tableIn {dflt lo hi : Int} {offs : Array Int} {len : Nat} {x : Int32} {off : Int} {tgt : Nat} (hd : decode (xcc mi) pc = .ok (.tableswitch dflt lo hi offs, len)) (h1 : ¬ x.toInt < lo) (h2 : ¬ hi < x.toInt) (ho : offs[(x.toInt - lo).toNat]? = some off) (ht : (pc : Int) + off = (tgt : Int)) (k : XR E mi d kc ks Post tgt L st w) : XR E mi d kc ks Post pc L (.int x :: st) w :=
  XR.lift (fun hx hb _ kk => lv_tableIn hx hb hd h1 h2 ho ht kk) k
theorem XR.locals {L' : List Value} (hs : ∀ (i : Nat) (v : Value), L'[i]? = some v → L[i]? = some v) (k : XR E mi d kc ks Post pc L' st w) : XR E mi d kc ks Post pc L st w :=
  fun p e R s m args below meth c hB H locs cells slots ls hl hH hS h1 h2 => k p e R s m args below meth c hB H locs cells slots ls (hl.sub hs) hH hS h1 h2
theorem xW.imp {p : Program} {l : Launch} {e : Env} {R : Room} {s : State} {m : MethodId} {args : Array Value} {below : List Frame} {meth : Method} {c : Code} {H : Heap} {locs : List Loc} {cells slots : Nat} {Q Q' : State → Prop} {g : JFrame} (h : ∀ t, Q t → Q' t) (k : W p l e R s m args below meth c H locs cells slots Q g) : W p l e R s m args below meth c H locs cells slots Q' g :=
  fun T hT X => by obtain ⟨t, a, b⟩ := k T hT X; exact ⟨t, a, h t b⟩
theorem xS.old {s : State} {H : Heap} {locs : List Loc} (hC : xCx E s) (hS : va_S (fun q => xB E ≤ q) s.heap H locs) (q : Nat) (hq : q < xB E) : H[q]? = s.heap[q]? :=
  hS.2.1 q (Nat.lt_of_lt_of_le hq hC.2.2.1) (Nat.not_le.mpr hq)
theorem xMQ.of {below : List Frame} {s t : State} {mc ms : Nat} {H : Heap} {v : Option Value} {args : Array Value} (hH : xH E w H) (hold : ∀ q, q < xB E → H[q]? = s.heap[q]?) (hP : Post (.inl v) w)
    (h : MQ below (fun _ _ o t => o = .returned v ∧ t.heap = H) args s mc ms (fun q => xB E ≤ q) t) : xMQ E below Post mc ms s t := by
  obtain ⟨o, h1, h2, ⟨rfl, h3⟩, L, ⟨-, hW, hs⟩, hL⟩ := h
  exact ⟨.returned v, h1, h2, ⟨w, hP, by rw [h3]; exact hH⟩, hW, fun q hq => by rw [h3]; exact hold q hq, L, hs, hL⟩
theorem XR.ireturn {x : Int32} {ty : FieldType} (hd : decode (xcc mi) pc = .ok (.ireturn, 1)) (hty : xrt mi = some ty) (hn : narrow ty (.int x) = .int x) (hP : Post (.inl (some (.int x))) w) : XR E mi d kc ks Post pc L [.int x] w := by
  intro p e R s m args below meth c hB H locs cells slots ls hl hH hS h1 h2
  have hC := hB.2.2.2.2.2.2.2.2.2.1
  have hr : meth.sig.returnType = some ty := hB.2.2.2.2.2.1.trans hty
  exact W.widen (Nat.le_add_right cells kc) (Nat.le_add_right slots ks) (xW.imp (fun t ht => xMQ.of hH (xS.old hC hS) hP ht) (W.zret hB.1 hB.2.1 hr hn (fun t ht _ => ⟨rfl, ht⟩) hS.2.2 hd hB.2.2.2.2.2.2.1))
theorem XR.return_ (hd : decode (xcc mi) pc = .ok (.return_, 1)) (hty : xrt mi = none) (hP : Post (.inl none) w) : XR E mi d kc ks Post pc L [] w := by
  intro p e R s m args below meth c hB H locs cells slots ls hl hH hS h1 h2
  have hC := hB.2.2.2.2.2.2.2.2.2.1
  have hr : meth.sig.returnType = none := hB.2.2.2.2.2.1.trans hty
  exact W.widen (Nat.le_add_right cells kc) (Nat.le_add_right slots ks) (xW.imp (fun t ht => xMQ.of hH (xS.old hC hS) hP ht) (W.vret hB.1 hB.2.1 hr (fun t ht _ => ⟨rfl, ht⟩) hS.2.2 hd hB.2.2.2.2.2.2.1))
/-! cells -/
def xup (σ : xS) (q : Nat) (f : Nat → Int32) : xS := fun k => if k = q then f else σ k
def xu (σ : xS) (q i : Nat) (v : Int32) : xS := xup σ q (fun j => if j = i then v else σ q j)
theorem xup_same (σ : xS) (q : Nat) (f : Nat → Int32) : xup σ q f q = f := if_pos rfl
theorem xup_ne {σ : xS} {q k : Nat} {f : Nat → Int32} (h : k ≠ q) : xup σ q f k = σ k := if_neg h
theorem xH.set {n r r' q : Nat} {σ : xS} {f : Nat → Int32} {H H1 : Heap} (h : xH E (n, r, σ) H) (he : va_at (xD E) vwCl (xB E + q, xen E r' q f) H1) (hr : ∀ j g, j ≠ q → xen E r' j g = xen E r j g) (hz : H1.size = H.size) (ho : ∀ a, a ≠ xB E + q → H1[a]? = H[a]?) : xH E (n, r', xup σ q f) H1 := by
  refine ⟨fun k hk => ?_, by rw [hz]; exact h.2.1, by rw [hz]; exact h.2.2⟩
  by_cases hkq : k = q
  · subst hkq
    show va_at (xD E) vwCl (xB E + k, xen E r' k (xup σ k f k)) H1
    rw [xup_same]; exact he
  · show va_at (xD E) vwCl (xB E + k, xen E r' k (xup σ q f k)) H1
    rw [xup_ne hkq, hr k _ hkq]
    exact (h.1 k hk).kept (ho _ (show xB E + k ≠ xB E + q by omega))
theorem xS.put {s : State} {H H1 : Heap} {locs : List Loc} {q i : Nat} (hS : va_S (fun q => xB E ≤ q) s.heap H locs) (hz : H1.size = H.size) (ho : ∀ a, a ≠ xB E + q → H1[a]? = H[a]?) : va_S (fun q => xB E ≤ q) s.heap H1 (locs ++ [⟨xB E + q, i⟩]) :=
  hS.put hz ho (Nat.le_add_right _ _)
/-- an array's element is read -/
theorem XR.iaload {q n : Nat} {x : Int32} (hd : decode (xcc mi) pc = .ok (.iaload, 1)) (hq : q < w.1) (he : ∀ f, xen E w.2.1 q f = .inl (xcI E, n, .inl f)) (hx : vp_in x n) (k : XR E mi d kc ks Post (pc + 1) L (.int (w.2.2 q x.toNatClampNeg) :: st) w) : XR E mi d kc ks Post pc L (.int x :: .ref (xB E + q) :: st) w := by
  intro p e R s m args below meth c hB H locs cells slots ls hl hH hS h1 h2
  have hC := hB.2.2.2.2.2.2.2.2.2.1
  have ha := hH.1 q hq
  rw [he] at ha
  refine va_iald (D := xD E) (cl := vwCl) (ws := [(xB E + q, .inl (xcI E, n, .inl (w.2.2 q)))]) hB.1 hB.2.1 hC.2.1 (fun j y hy => ?_) 0 0 rfl rfl hx hd (k p e R s m args below meth c hB H locs cells slots ls hl hH hS h1 h2)
  have : j = 0 := by have := (List.getElem?_eq_some_iff.mp hy).1; simp at this; exact this
  subst this; cases hy; exact ha
theorem XR.baload {q n : Nat} {x : Int32} (hd : decode (xcc mi) pc = .ok (.baload, 1)) (hq : q < w.1) (he : ∀ f, xen E w.2.1 q f = .inl (xcZ E, n, .inl f)) (hx : vp_in x n) (k : XR E mi d kc ks Post (pc + 1) L (.int (w.2.2 q x.toNatClampNeg) :: st) w) : XR E mi d kc ks Post pc L (.int x :: .ref (xB E + q) :: st) w := by
  intro p e R s m args below meth c hB H locs cells slots ls hl hH hS h1 h2
  have hC := hB.2.2.2.2.2.2.2.2.2.1
  have ha := hH.1 q hq
  rw [he] at ha
  refine va_zald (D := xD E) (cl := vwCl) (ws := [(xB E + q, .inl (xcZ E, n, .inl (w.2.2 q)))]) hB.1 hB.2.1 hC.2.1 (fun j y hy => ?_) 0 2 rfl rfl hx hd (k p e R s m args below meth c hB H locs cells slots ls hl hH hS h1 h2)
  have : j = 0 := by have := (List.getElem?_eq_some_iff.mp hy).1; simp at this; exact this
  subst this; cases hy; exact ha
theorem XR.laload {q n : Nat} {x : Int32} (hd : decode (xcc mi) pc = .ok (.laload, 1)) (hq : q < w.1) (he : ∀ f, xen E w.2.1 q f = .inl (xcJ E, n, .inr (.inl (fun i => (f i).toInt64)))) (hx : vp_in x n) (k : XR E mi d kc ks Post (pc + 1) L (.long (w.2.2 q x.toNatClampNeg).toInt64 :: st) w) : XR E mi d kc ks Post pc L (.int x :: .ref (xB E + q) :: st) w := by
  intro p e R s m args below meth c hB H locs cells slots ls hl hH hS h1 h2
  have hC := hB.2.2.2.2.2.2.2.2.2.1
  have ha := hH.1 q hq
  rw [he] at ha
  refine va_lald (D := xD E) (cl := vwCl) (ws := [(xB E + q, .inl (xcJ E, n, .inr (.inl (fun i => (w.2.2 q i).toInt64))))]) hB.1 hB.2.1 hC.2.1 (fun j y hy => ?_) 0 1 rfl rfl hx hd (k p e R s m args below meth c hB H locs cells slots ls hl hH hS h1 h2)
  have : j = 0 := by have := (List.getElem?_eq_some_iff.mp hy).1; simp at this; exact this
  subst this; cases hy; exact ha
theorem XR.alen {q n : Nat} {cA : ClassId} {ty : FieldType} {x : vp_A} {v : Int32} (hd : decode (xcc mi) pc = .ok (.arraylength, 1)) (hq : q < w.1) (he : xen E w.2.1 q (w.2.2 q) = .inl (xcI E, x)) (hv : Int32.ofNat x.1 = v) (k : XR E mi d kc ks Post (pc + 1) L (.int v :: st) w) : XR E mi d kc ks Post pc L (.ref (xB E + q) :: st) w := by
  intro p e R s m args below meth c hB H locs cells slots ls hl hH hS h1 h2
  have hC := hB.2.2.2.2.2.2.2.2.2.1
  have ha := hH.1 q hq
  rw [he] at ha
  refine va_alen (D := xD E) (cl := vwCl) (ws := [(xB E + q, .inl (xcI E, x))]) hB.1 hB.2.1 hC.2.1 (fun j y hy => ?_) 0 0 rfl (ty := .int) rfl hv hd (k p e R s m args below meth c hB H locs cells slots ls hl hH hS h1 h2)
  have : j = 0 := by have := (List.getElem?_eq_some_iff.mp hy).1; simp at this; exact this
  subst this; cases hy; exact ha
/-- the script's elements and its length -/
theorem XR.sload {x : Int32} (hd : decode (xcc mi) pc = .ok (.iaload, 1)) (hx : vp_in x (xsL E)) (k : XR E mi d kc ks Post (pc + 1) L (.int (xsx E x.toNatClampNeg) :: st) w) : XR E mi d kc ks Post pc L (.int x :: .ref (xsb E) :: st) w := by
  intro p e R s m args below meth c hB H locs cells slots ls hl hH hS h1 h2
  have hC := hB.2.2.2.2.2.2.2.2.2.1
  exact va_sld (A := fun q => xB E ≤ q) hB.1 hB.2.1 hC.2.2.2.1.1 (Nat.lt_of_lt_of_le hC.2.2.2.1.2 hC.2.2.1) (Nat.not_le.mpr hC.2.2.2.1.2) hS hx hd (k p e R s m args below meth c hB H locs cells slots ls hl hH hS h1 h2)
theorem XR.slen (hd : decode (xcc mi) pc = .ok (.arraylength, 1)) (k : XR E mi d kc ks Post (pc + 1) L (.int (Int32.ofNat (xsL E)) :: st) w) : XR E mi d kc ks Post pc L (.ref (xsb E) :: st) w := by
  intro p e R s m args below meth c hB H locs cells slots ls hl hH hS h1 h2
  have hC := hB.2.2.2.2.2.2.2.2.2.1
  exact va_slen (A := fun q => xB E ≤ q) hB.1 hB.2.1 hC.2.2.2.1.1 (Nat.lt_of_lt_of_le hC.2.2.2.1.2 hC.2.2.1) (Nat.not_le.mpr hC.2.2.2.1.2) hS hd (k p e R s m args below meth c hB H locs cells slots ls hl hH hS h1 h2)
theorem XR.iastore {n r q a : Nat} {σ : xS} {i x : Int32} (hd : decode (xcc mi) pc = .ok (.iastore, 1)) (hq : q < n) (he : ∀ f, xen E r q f = .inl (xcI E, a, .inl f)) (hx : vp_in i a) (k : XR E mi d kc ks Post (pc + 1) L st (n, r, xu σ q i.toNatClampNeg x)) : XR E mi d kc ks Post pc L (.int x :: .int i :: .ref (xB E + q) :: st) (n, r, σ) := by
  intro p e R s m args below meth c hB H locs cells slots ls hl hH hS h1 h2
  have hC := hB.2.2.2.2.2.2.2.2.2.1
  have ha : H[xB E + q]? = some (arrV (xcI E) a (fun j => .int (σ q j))) := by have := hH.1 q hq; rw [he] at this; exact this
  refine W.iast hB.1 hB.2.1 ha ((hC.2.1.2 0 _ rfl).1 _ _) (fun h => by cases h) (by rw [arrV_size]; exact hx) rfl rfl hd fun H' e1 e2 e3 => ?_
  rw [arrV_store] at e1
  refine k p e R s m args below meth c hB H' _ cells slots ls hl (hH.set ?_ (fun _ _ _ => rfl) e2 e3) (xS.put hS e2 e3) h1 h2
  rw [he]
  show H'[xB E + q]? = some (arrV (xcI E) a (fun j => .int (if j = i.toNatClampNeg then x else σ q j)))
  rw [e1]
  congr 2
  funext j
  simp only [updV]
  split <;> simp_all
theorem XR.bastore {n r q a : Nat} {σ : xS} {i x : Int32} (hd : decode (xcc mi) pc = .ok (.bastore, 1)) (hq : q < n) (he : ∀ f, xen E r q f = .inl (xcZ E, a, .inl f)) (hx : vp_in i a) (hn : narrow .boolean (.int x) = .int x) (k : XR E mi d kc ks Post (pc + 1) L st (n, r, xu σ q i.toNatClampNeg x)) : XR E mi d kc ks Post pc L (.int x :: .int i :: .ref (xB E + q) :: st) (n, r, σ) := by
  intro p e R s m args below meth c hB H locs cells slots ls hl hH hS h1 h2
  have hC := hB.2.2.2.2.2.2.2.2.2.1
  have ha : H[xB E + q]? = some (arrV (xcZ E) a (fun j => .int (σ q j))) := by have := hH.1 q hq; rw [he] at this; exact this
  refine W.zast hB.1 hB.2.1 ha ((hC.2.1.2 2 _ rfl).1 _ _) (fun h => by cases h) (by rw [arrV_size]; exact hx) rfl rfl hd fun H' e1 e2 e3 => ?_
  rw [hn, arrV_store] at e1
  refine k p e R s m args below meth c hB H' _ cells slots ls hl (hH.set ?_ (fun _ _ _ => rfl) e2 e3) (xS.put hS e2 e3) h1 h2
  rw [he]
  show H'[xB E + q]? = some (arrV (xcZ E) a (fun j => .int (if j = i.toNatClampNeg then x else σ q j)))
  rw [e1]
  congr 2
  funext j
  simp only [updV]
  split <;> simp_all
theorem XR.lastore {n r q a : Nat} {σ : xS} {i x : Int32} (hd : decode (xcc mi) pc = .ok (.lastore, 1)) (hq : q < n) (he : ∀ f, xen E r q f = .inl (xcJ E, a, .inr (.inl (fun i => (f i).toInt64)))) (hx : vp_in i a) (k : XR E mi d kc ks Post (pc + 1) L st (n, r, xu σ q i.toNatClampNeg x)) : XR E mi d kc ks Post pc L (.long x.toInt64 :: .int i :: .ref (xB E + q) :: st) (n, r, σ) := by
  intro p e R s m args below meth c hB H locs cells slots ls hl hH hS h1 h2
  have hC := hB.2.2.2.2.2.2.2.2.2.1
  have ha : H[xB E + q]? = some (arrV (xcJ E) a (fun j => .long (σ q j).toInt64)) := by have := hH.1 q hq; rw [he] at this; exact this
  refine W.last hB.1 hB.2.1 ha ((hC.2.1.2 1 _ rfl).1 _ _) (fun h => by cases h) (by rw [arrV_size]; exact hx) rfl rfl hd fun H' e1 e2 e3 => ?_
  rw [arrV_store] at e1
  refine k p e R s m args below meth c hB H' _ cells slots ls hl (hH.set ?_ (fun _ _ _ => rfl) e2 e3) (xS.put hS e2 e3) h1 h2
  rw [he]
  show H'[xB E + q]? = some (arrV (xcJ E) a (fun j => .long (if j = i.toNatClampNeg then x else σ q j).toInt64))
  rw [e1]
  congr 2
  funext j
  simp only [updV]
  split <;> simp_all
/-! fields -/
theorem XR.getfield {q ci fk index N : Nat} {C : String} {T : u_T} {fs : List Value} {v : Value} (hd : decode (xcc mi) pc = .ok (.getfield index, 3)) (hq : q < w.1) (he : xen E w.2.1 q (w.2.2 q) = .inr (ci, fs)) (hc : vwCl[ci]? = some (C, T, N)) (hin : ∀ x ∈ u_ws C T N, x ∈ xTs) (hk : fk < N) (hl : Cond.fieldLink (xy mi).cls index (T fk).1 (T fk).2.1 (T fk).2.2.1 ∈ xTs) (hv : fs[fk]? = some v)
    (k : XR E mi d kc ks Post (pc + 3) L (v :: st) w) : XR E mi d kc ks Post pc L (.ref (xB E + q) :: st) w := by
  intro p e R s m args below meth c hB H locs cells slots ls hl2 hH hS h1 h2
  have hC := hB.2.2.2.2.2.2.2.2.2.1
  have ha := hH.1 q hq
  rw [he] at ha
  refine va_get (D := xD E) (cl := vwCl) (ws := [(xB E + q, .inr (ci, fs))]) hB.1 hB.2.1 hB.2.2.2.2.1 hin hB.2.2.2.1 hC.2.1 (fun j y hy => ?_) 0 rfl hc fk hk (hB.2.2.2.2.1 _ hl) (fun _ h => h) hv hd (k p e R s m args below meth c hB H locs cells slots ls hl2 hH hS h1 h2)
  have : j = 0 := by have := (List.getElem?_eq_some_iff.mp hy).1; simp at this; exact this
  subst this; cases hy; exact ha
theorem xup_id (σ : xS) (q : Nat) : xup σ q (σ q) = σ := by
  funext k
  unfold xup
  split
  · next h => rw [h]
  · rfl
theorem XR.putfield {n r q ci fk index N : Nat} {σ : xS} {x : Int32} {C : String} {T : u_T} {F : (Nat → Int32) → List Value} {ty0 : Nat → FieldType} (hd : decode (xcc mi) pc = .ok (.putfield index, 3)) (hq : q < n) (he : ∀ f, xen E r q f = .inr (ci, F f)) (hc : vwCl[ci]? = some (C, T, N)) (hin : ∀ x ∈ u_ws C T N, x ∈ xTs)
    (hty : ∀ k, k < N → parseFieldDescriptor (T k).2.2.1 = some (ty0 k)) (hnm : ∀ a, a < N → ∀ b, b < N → a ≠ b → (T a).2.1 ≠ (T b).2.1) (hk : fk < N) (hl : Cond.fieldLink (xy mi).cls index (T fk).1 (T fk).2.1 (T fk).2.2.1 ∈ xTs) (hfin : (T fk).2.2.2 = false) (hti : ty0 fk = .int)
    (hF : ∀ f, F (fun j => if j = fk then x else f j) = (F f).set fk (.int x)) (hlen : ∀ f, fk < (F f).length)
    (k : XR E mi d kc ks Post (pc + 3) L st (n, r, xu σ q fk x)) : XR E mi d kc ks Post pc L (.int x :: .ref (xB E + q) :: st) (n, r, σ) := by
  intro p e R s m args below meth c hB H locs cells slots ls hl2 hH hS h1 h2
  have hC := hB.2.2.2.2.2.2.2.2.2.1
  have hts := hB.2.2.2.2.1
  have hap := va_apart (own := (xy mi).cls) hts hin ty0 hty hnm hC.2.1 hc
  obtain ⟨r0, g1, cell, q1, q2, q3, q4⟩ : va_at (xD E) vwCl (xB E + q, .inr (ci, F (σ q))) H := by have := hH.1 q hq; rw [he] at this; exact this
  have hr0 : r0 = (C, T, N) := Option.some.inj (g1.symm.trans hc)
  subst hr0
  obtain ⟨hSl, hfc, kC, hkC, hkind⟩ := hC.2.1.1 ci _ hc
  obtain ⟨cf, kf, fi, f, hi, hsl⟩ := hSl fk hk
  have hlay := hts _ (hin _ (u_in_lay hk))
  unfold u_lay at hlay
  rw [if_neg (by rw [hfin]; decide)] at hlay
  have hst := (u_facts hfc hkC (u_lays hts hin hk) hi).1
  have h6 := u_store (v := .int x) hfc hkC hkind hlay hi (hty fk hk) (by rw [hti]; rfl) (by rw [hti]; rfl)
  refine W.putK hB.1 hB.2.1 (f := f) ⟨hB.2.2.2.1, hts _ hl, ⟨_, _, _, hi⟩, hst⟩ (by rw [q2]; exact h6) q1 q3 (by rw [hsl]; exact k2_hasslot (q4 fk hk)) rfl rfl hd fun H' e1 e2 e3 => ?_
  rw [hsl] at e1 ⊢
  refine k p e R s m args below meth c hB H' _ cells slots ls hl2 (hH.set ?_ (fun _ _ _ => rfl) e2 e3) (xS.put hS e2 e3) h1 h2
  rw [he, hF]
  exact ⟨_, hc, t_OB.to (V := updV (vp_V (F (σ q))) fk (.int x)) ⟨_, e1, q2, q3, t_set q4 hap hk (.int x)⟩ (fun j _ => vp_updV_set (hlen _) (.int x) j)⟩
theorem XR.putref {n r q ci fk index N : Nat} {σ : xS} {v : Value} {C : String} {T : u_T} {fs : List Value} {ty0 : Nat → FieldType} (hd : decode (xcc mi) pc = .ok (.putfield index, 3)) (hq : q < n) (he : xen E r q (σ q) = .inr (ci, fs)) (he' : xen E (r + 1) q (σ q) = .inr (ci, fs.set fk v)) (hr : ∀ j g, j ≠ q → xen E (r + 1) j g = xen E r j g) (hc : vwCl[ci]? = some (C, T, N)) (hin : ∀ x ∈ u_ws C T N, x ∈ xTs)
    (hty : ∀ k, k < N → parseFieldDescriptor (T k).2.2.1 = some (ty0 k)) (hnm : ∀ a, a < N → ∀ b, b < N → a ≠ b → (T a).2.1 ≠ (T b).2.1) (hk : fk < N) (hl : Cond.fieldLink (xy mi).cls index (T fk).1 (T fk).2.1 (T fk).2.2.1 ∈ xTs) (hfin : (T fk).2.2.2 = true) (hini : (xy mi).name = "<init>") (hdecl : (T fk).1 = (xy mi).cls)
    (hnar : narrow (ty0 fk) v = v) (hfit : fits (ty0 fk) v = true) (hlen : fk < fs.length)
    (k : XR E mi d kc ks Post (pc + 3) L st (n, r + 1, σ)) : XR E mi d kc ks Post pc L (v :: .ref (xB E + q) :: st) (n, r, σ) := by
  intro p e R s m args below meth c hB H locs cells slots ls hl2 hH hS h1 h2
  have hC := hB.2.2.2.2.2.2.2.2.2.1
  have hts := hB.2.2.2.2.1
  have hap := va_apart (own := (xy mi).cls) hts hin ty0 hty hnm hC.2.1 hc
  obtain ⟨r0, g1, cell, q1, q2, q3, q4⟩ : va_at (xD E) vwCl (xB E + q, .inr (ci, fs)) H := by have := hH.1 q hq; rw [he] at this; exact this
  have hr0 : r0 = (C, T, N) := Option.some.inj (g1.symm.trans hc)
  subst hr0
  obtain ⟨hSl, hfc, kC, hkC, hkind⟩ := hC.2.1.1 ci _ hc
  obtain ⟨cf, kf, fi, f, hi, hsl⟩ := hSl fk hk
  have hlay := hts _ (hin _ (u_in_lay hk))
  unfold u_lay at hlay
  rw [if_pos hfin] at hlay
  have hst := (u_facts hfc hkC (u_lays hts hin hk) hi).1
  have hcf : m.cls = cf := by
    obtain ⟨_, _, c', _, _, _, -, -, hf', -, -, -, hown2, -⟩ := Cond.laysFinal_spec hlay
    have e1 : c' = cf := by have := hi.symm.trans hf'; simp at this; exact this.1.symm
    rw [hdecl] at hown2
    rw [← e1]; exact Option.some.inj (hB.2.2.2.1.symm.trans hown2)
  have h6 := u_fits hfc hkC hkind (Or.inr hlay) hi (hty fk hk) hnar hfit
  refine W.putFinK hB.1 hB.2.1 hB.2.2.2.1 (hts _ hl) hi hst hcf (hB.2.2.2.2.2.2.2.1.trans hini) (by rw [q2]; exact h6) q1 q3 (by rw [hsl]; exact k2_hasslot (q4 fk hk)) rfl rfl hd fun H' e1 e2 e3 => ?_
  rw [hsl] at e1 ⊢
  have hset := hH.set (r' := r + 1) (q := q) (f := σ q) (H1 := H') (by
    rw [he']
    exact ⟨_, hc, t_OB.to (V := updV (vp_V fs) fk v) ⟨_, e1, q2, q3, t_set q4 hap hk v⟩ (fun j _ => vp_updV_set hlen v j)⟩) hr e2 e3
  rw [xup_id] at hset
  exact k p e R s m args below meth c hB H' _ cells slots ls hl2 hset (xS.put hS e2 e3) h1 h2
/-! new cells, while the world is being made -/
theorem xH.push {n r : Nat} {σ : xS} {H H1 : Heap} (h : xH E (n, r, σ) H) (hn : n < 26) (he : va_at (xD E) vwCl (xB E + n, xen E r n (σ n)) H1) (hz : H1.size = xB E + n + 1) (ho : ∀ a, a < xB E + n → H1[a]? = H[a]?) : xH E (n + 1, r, σ) H1 := by
  refine ⟨fun k hk => ?_, by rw [hz]; exact Nat.le_refl _, fun _ => hz⟩
  by_cases hkq : k = n
  · subst hkq
    exact he
  · have hk' : k < n := by have : k < n + 1 := hk; omega
    exact (h.1 k hk').kept (ho _ (show xB E + k < xB E + n by omega))
theorem xS.push {s : State} {H H1 : Heap} {locs : List Loc} {h : Nat} (hS : va_S (fun q => xB E ≤ q) s.heap H locs) (hh : H.size = h) (hz : H1.size = h + 1) (ho : ∀ a, a < h → H1[a]? = H[a]?) : va_S (fun q => xB E ≤ q) s.heap H1 locs :=
  ⟨by have := hS.1; omega, fun q hq hn => (ho q (by have := hS.1; omega)).trans (hS.2.1 q hq hn), hS.2.2⟩
theorem XR.newc {n r ci N index : Nat} {σ : xS} {C : String} {T : u_T} {ty : Nat → FieldType} {fs : List Value} (hd : decode (xcc mi) pc = .ok (.new index, 3)) (hn : n < 26) (hcl : Cond.classLink (xy mi).cls index C ∈ xTs) (hins : Cond.instantiable C N ∈ xTs) (hini : Cond.initialized C ∈ xTs) (hc : vwCl[ci]? = some (C, T, N)) (hin : ∀ x ∈ u_ws C T N, x ∈ xTs)
    (hty : ∀ k, k < N → parseFieldDescriptor (T k).2.2.1 = some (ty k)) (hfs : ∀ j, j < N → defaultValue (ty j) = vp_V fs j) (he : xen E r n (σ n) = .inr (ci, fs)) (k : XR E mi d kc ks Post (pc + 3) L (.ref (xB E + n) :: st) (n + 1, r, σ)) : XR E mi d (kc + 1) (ks + N) Post pc L st (n, r, σ) := by
  intro p e R s m args below meth c hB H locs cells slots ls hl2 hH hS h1 h2
  have hC := hB.2.2.2.2.2.2.2.2.2.1
  have hts := hB.2.2.2.2.1
  have hsz := hH.2.2 hn
  have hKn := hC.2.1.1 ci _ hc
  have e1 : cells + (kc + 1) = cells + 1 + kc := by omega
  have e2 : slots + (ks + N) = slots + N + ks := by omega
  rw [e1, e2]
  refine W.newcK hB.1 hB.2.1 hB.2.2.2.1 (hts _ hcl) (hts _ hins) (hts _ hini) rfl hd (by omega) (by omega) hKn.2.1 hsz fun H1 kC hkC g1 g2 g3 => ?_
  refine k p e R s m args below meth c hB H1 locs (cells + 1) (slots + N) ls hl2 (hH.push hn ?_ g2 g3) (xS.push hS hsz g2 g3) (by omega) (by omega)
  rw [he]
  exact ⟨_, hc, (u_born ty hts hin hKn hkC g1 hty).to hfs⟩
theorem XR.newaI {n r a : Nat} {σ : xS} {x : Int32} {atype : ArrayType} (hd : decode (xcc mi) pc = .ok (.newarray atype, 2)) (hat : newarray.typeOf atype = .int) (hn : n < 26) (harr : Cond.arrayClass .int ∈ xTs) (hx : ¬ x < 0) (hN : x.toNatClampNeg = a) (hby : a * componentBytes .int ≤ 536870912) (he : xen E r n (σ n) = .inl (xcI E, (a, .inl (fun _ => 0)))) (k : XR E mi d kc ks Post (pc + 2) L (.ref (xB E + n) :: st) (n + 1, r, σ)) : XR E mi d (kc + 1) (ks + a) Post pc L (.int x :: st) (n, r, σ) := by
  intro p e R s m args below meth c hB H locs cells slots ls hl2 hH hS h1 h2
  have hC := hB.2.2.2.2.2.2.2.2.2.1
  have hts := hB.2.2.2.2.1
  have hsz := hH.2.2 hn
  have e1 : cells + (kc + 1) = cells + 1 + kc := by omega
  have e2 : slots + (ks + a) = slots + a + ks := by omega
  rw [e1, e2]
  refine va_newaK (atype := atype) hB.1 hB.2.1 (by rw [hat]; exact hts _ harr) rfl hd rfl hx hN (by rw [hat]; exact hby) (by omega) (by omega) hsz fun H1 cA g1 g2 g3 g4 g5 => ?_
  rw [hat] at g1 g5
  have hcA : cA = xcI E := Option.some.inj (g5.symm.trans (hC.2.1.2 0 _ rfl).2)
  subst hcA
  refine k p e R s m args below meth c hB H1 locs (cells + 1) (slots + a) ls hl2 (hH.push hn ?_ g2 g3) (xS.push hS hsz g2 g3) (by omega) (by omega)
  rw [he]
  exact g1
theorem XR.newaJ {n r a : Nat} {σ : xS} {x : Int32} {atype : ArrayType} (hd : decode (xcc mi) pc = .ok (.newarray atype, 2)) (hat : newarray.typeOf atype = .long) (hn : n < 26) (harr : Cond.arrayClass .long ∈ xTs) (hx : ¬ x < 0) (hN : x.toNatClampNeg = a) (hby : a * componentBytes .long ≤ 536870912) (he : xen E r n (σ n) = .inl (xcJ E, (a, .inr (.inl (fun _ => 0))))) (k : XR E mi d kc ks Post (pc + 2) L (.ref (xB E + n) :: st) (n + 1, r, σ)) : XR E mi d (kc + 1) (ks + a) Post pc L (.int x :: st) (n, r, σ) := by
  intro p e R s m args below meth c hB H locs cells slots ls hl2 hH hS h1 h2
  have hC := hB.2.2.2.2.2.2.2.2.2.1
  have hts := hB.2.2.2.2.1
  have hsz := hH.2.2 hn
  have e1 : cells + (kc + 1) = cells + 1 + kc := by omega
  have e2 : slots + (ks + a) = slots + a + ks := by omega
  rw [e1, e2]
  refine va_newaK (atype := atype) hB.1 hB.2.1 (by rw [hat]; exact hts _ harr) rfl hd rfl hx hN (by rw [hat]; exact hby) (by omega) (by omega) hsz fun H1 cA g1 g2 g3 g4 g5 => ?_
  rw [hat] at g1 g5
  have hcA : cA = xcJ E := Option.some.inj (g5.symm.trans (hC.2.1.2 1 _ rfl).2)
  subst hcA
  refine k p e R s m args below meth c hB H1 locs (cells + 1) (slots + a) ls hl2 (hH.push hn ?_ g2 g3) (xS.push hS hsz g2 g3) (by omega) (by omega)
  rw [he]
  exact g1
theorem XR.newaZ {n r a : Nat} {σ : xS} {x : Int32} {atype : ArrayType} (hd : decode (xcc mi) pc = .ok (.newarray atype, 2)) (hat : newarray.typeOf atype = .boolean) (hn : n < 26) (harr : Cond.arrayClass .boolean ∈ xTs) (hx : ¬ x < 0) (hN : x.toNatClampNeg = a) (hby : a * componentBytes .boolean ≤ 536870912) (he : xen E r n (σ n) = .inl (xcZ E, (a, .inl (fun _ => 0)))) (k : XR E mi d kc ks Post (pc + 2) L (.ref (xB E + n) :: st) (n + 1, r, σ)) : XR E mi d (kc + 1) (ks + a) Post pc L (.int x :: st) (n, r, σ) := by
  intro p e R s m args below meth c hB H locs cells slots ls hl2 hH hS h1 h2
  have hC := hB.2.2.2.2.2.2.2.2.2.1
  have hts := hB.2.2.2.2.1
  have hsz := hH.2.2 hn
  have e1 : cells + (kc + 1) = cells + 1 + kc := by omega
  have e2 : slots + (ks + a) = slots + a + ks := by omega
  rw [e1, e2]
  refine va_newaK (atype := atype) hB.1 hB.2.1 (by rw [hat]; exact hts _ harr) rfl hd rfl hx hN (by rw [hat]; exact hby) (by omega) (by omega) hsz fun H1 cA g1 g2 g3 g4 g5 => ?_
  rw [hat] at g1 g5
  have hcA : cA = xcZ E := Option.some.inj (g5.symm.trans (hC.2.1.2 2 _ rfl).2)
  subst hcA
  refine k p e R s m args below meth c hB H1 locs (cells + 1) (slots + a) ls hl2 (hH.push hn ?_ g2 g3) (xS.push hS hsz g2 g3) (by omega) (by omega)
  rw [he]
  exact g1
theorem XR.objInit {a idx : Nat} (hd : decode (xcc mi) pc = .ok (.invokespecial idx, 3)) (hl : Cond.methodLink (xy mi).cls idx Lib.objectInit ∈ xTs) (hi : Cond.instanceMethod Lib.objectInit ∈ xTs) (hcd : Cond.code Lib.objectInit ⟨#[0xb1]⟩ 1 none ∈ xTs) (hd1 : 1 ≤ d) (hst : (st.map fun v => v.category).sum ≤ 16) (k : XR E mi d kc ks Post (pc + 3) L st w) : XR E mi d kc ks Post pc L (.ref a :: st) w := by
  intro p e R s m args below meth c hB H locs cells slots ls hl2 hH hS h1 h2
  have hts := hB.2.2.2.2.1
  have hR := hB.2.2.2.2.2.2.2.2.2.2
  refine W.objInit hB.1 hB.2.1 hB.2.2.2.1 (hts _ hl) (hts _ hi) (hts _ hcd) rfl (by rw [hB.2.2.1]; exact hl2.1) rfl hd (by omega) ?_ (k p e R s m args below meth c hB H locs cells slots ls hl2 hH hS h1 h2)
  have := hR.2
  unfold xlo at this
  show 2 * 0 + _ + 12 ≤ _
  omega
end XRules
end
section
/-! words that stay -/
def xGood (w : Cond) : Prop := ∀ (s U : State) (A A' : Array Value), s.WarmedH U.vm → w.before A s = true → w.before A' U = true
theorem xgb_good {w : Cond} (h : xgb w = true) : xGood w := by
  intro s U A A' hW hb
  by_cases hk : (w.keepsFace && w.onTables) = true
  · simp only [Bool.and_eq_true] at hk
    exact va_tabs hk.2 (rfl : (s.setVm U.vm).vm = U.vm) (Cond.before_shiftedFace (State.Shifted.of_warmed hW) w hk.1 hb)
  · simp only [xgb, hk, Bool.false_or] at h
    cases w with
    | arrayClass ty => exact word_at hW (Or.inr ⟨ty, rfl⟩) hb
    | not c =>
      cases c with
      | castable C T =>
        have hv := Cond.holds_not_iff.mp hb
        refine Cond.holds_not_iff.mpr ?_
        simp only [Cond.value] at hv ⊢
        simp only [hW.alike.findClass, hW.alike.assignable]
        exact hv
      | _ => simp at h
    | _ => simp at h
theorem xTs_good (w : Cond) (hw : w ∈ xTs) : xGood w := xgb_good (List.mem_filter.mp hw).2
/-- the code words of a method -/
def xCd (mi : xMI) : Prop := (Cond.code (xy mi) (xcc mi) (xnL mi) (xrt mi) ∈ xTs ∧ xhs mi = []) ∨ Cond.codeWith (xy mi) (xcc mi) (xnL mi) (xrt mi) (xhs mi) ∈ xTs
theorem xCd.spec {mi : xMI} (h : xCd mi) {s : State} {A : Array Value} (hts : ∀ x ∈ xTs, x.before A s = true) : ∃ (mk : MethodId) (meth : Method) (c : Code), s.methodNamed? (xy mi) = some mk ∧ s.vm.method? mk = some meth ∧ meth.code = some c ∧ c.code = xcc mi ∧ c.maxLocals = xnL mi ∧ meth.sig.returnType = xrt mi ∧ meth.locks = false ∧
    (c.exceptionTable.toList.map fun x => (x.startPc, x.endPc, x.handlerPc, x.catchType)) = xhs mi ∧ parseMethodDescriptor (xy mi).desc = some meth.sig := by
  rcases h with ⟨h, h0⟩ | h
  · obtain ⟨mk, hn⟩ := Cond.code_named (hts _ h)
    obtain ⟨meth, c, a1, a2, a3, a4, a5, a6, a7, a8⟩ := Cond.code_spec hn (hts _ h)
    refine ⟨mk, meth, c, hn, a1, a2, a3, a4, a5, a6, ?_, a8⟩
    have : c.exceptionTable = #[] := Array.isEmpty_iff.mp a7
    rw [this, h0]; rfl
  · obtain ⟨mk, meth, c, hn, a1, a2, a3, a4, a5, a6, a7, a8⟩ := Cond.codeWith_spec (hts _ h)
    exact ⟨mk, meth, c, hn, a1, a2, a3, a4, a6, a7, a5, a8⟩
section XCalls
variable {E : xE} {mi mj : xMI} {d kc ks pc d' kc' ks' : Nat} {Post Post' : xO → xWd → Prop} {L st as : List Value} {w : xWd}
/-- a body's walk from its entry gives the contract -/
theorem XC.of (hpl : plainName (xy mi).cls = true) (hcd : xCd mi) (hca : ∀ v ∈ as, v.category = 1) (hn : as.length ≤ xnL mi) (h : XR E mi d kc ks Post 0 as [] w) : XC E mi d kc ks as w Post := by
  refine MetFree.of_bodyS (code := xcc mi) (maxLocals := xnL mi) (ret := xrt mi) hpl ?_ ?_
  · intro A s m hp hnm
    obtain ⟨mk, meth, c, b1, b2, b3, b4, b5, b6, b7, -, -⟩ := hcd.spec (atoms_spec (ws := xTs) hp)
    cases hnm.symm.trans b1
    exact ⟨meth, c, b2, b3, b4, b5, b6, b7⟩
  · intro p e s m args below meth c s₁ B hml hP _
    obtain ⟨rfl, hH, hC⟩ := hP
    have hts := atoms_spec (ws := xTs) B.pre
    have hh0 : s₁.heap = s.heap := by rw [B.state]; rfl
    obtain ⟨mk, meth', c', b1, b2, b3, b4, b5, b6, b7, b8, -⟩ := hcd.spec hts
    cases B.named.symm.trans b1
    cases B.method.symm.trans b2
    have hc' : meth.code = some c := (Stand.of_body B).code
    cases hc'.symm.trans b3
    have hB : xB0 E mi d p (xrm d kc ks) s m as.toArray meth c := ⟨B.exec, b4, b5, findClass_of_methodNamed B.named, hts, b6, b7, (name_of_methodNamed B.named B.method).1, b8, hC, Nat.le_refl _, Nat.le_refl _⟩
    have hW := h p e (xrm d kc ks) s m as.toArray below meth c hB s.heap [] 0 0 _ (xL.entry hca hn) hH va_S.rf (by simp [xrm]) (by simp [xrm])
    obtain ⟨t, a1, o, b1, b2, b3⟩ := hW s₁ hh0 (Stand.of_body B)
    rw [lg_entry_eq]
    exact ⟨t, o, a1, b1, b2, by simpa using b3⟩
theorem xcallC {p : Program} {e : Env} {R : Room} {s : State} {m : MethodId} {args : Array Value} {below : List Frame} {meth : Method} {c : Code} {T : State} {locs : List Loc} {cells slots : Nat}
    (X : Stand p (xl E) e R s m args below meth c T locs cells slots) (hts : ∀ x ∈ xTs, x.before args s = true) (hC : xCx E s) (hH : xH E w T.heap) (hS : va_S (fun q => xB E ≤ q) s.heap T.heap locs)
    {g : JFrame} (hg : g.method = m) (hsize : g.locals.size = c.maxLocals) {ig : Instr} {len : Nat} (hdg : decode c.code g.pc = .ok (ig, len)) {mk : MethodId} {methY : Method} {cY : Code} {kY : Class} (hn : T.methodNamed? (xy mj) = some mk) (hmY : T.vm.method? mk = some methY) (hcY : methY.code = some cY) (hlY : cY.maxLocals = xnL mj) (hkY : T.vm.classes[mk.cls]? = some kY) (hiY : kY.init = .initialized)
    (hM : XC E mj d' kc' ks' as w Post') (hd : d' + 1 ≤ R.frames) (hlo : 2 * g.monitorRoom + (g.stack.map fun v => v.category).sum + (xnL mj + 11) + xlo d' ≤ R.locals) (hc : cells + (kc' + 1) ≤ R.cells) (hs : slots + (ks' + 6) ≤ R.slots) :
    (∃ (v : Option Value) (w' : xWd) (T' : State) (L : List Loc), Post' (.inl v) w' ∧ xH E w' T'.heap ∧ va_S (fun q => xB E ≤ q) s.heap T'.heap (locs ++ L) ∧ Stand p (xl E) e R s m args below meth c T' (locs ++ L) (cells + kc') (slots + ks') ∧
      Steps p.tables e below (doInvoke e (T.setTop g) [] mk as.toArray).1 (T'.setTop { g with pc := g.pc + len, stack := v.toList ++ g.stack })) ∨
    (∃ (C : String) (w' : xWd) (x : Addr) (T' : State) (L : List Loc), Post' (.inr C) w' ∧ xH E w' T'.heap ∧ xEx E C x s.vm T'.heap ∧ va_S (fun q => xB E ≤ q) s.heap T'.heap (locs ++ L) ∧ Stand p (xl E) e R s m args below meth c T' (locs ++ L) (cells + (kc' + 1)) (slots + (ks' + 6)) ∧
      Steps p.tables e below (doInvoke e (T.setTop g) [] mk as.toArray).1 ((T'.setTop g).pushFrame (.throwing x))) := by
  have h : At T g.method c below := by rw [hg]; exact X.here
  have hpre : ∀ x ∈ xTs, x.before as.toArray T = true := fun x hx => xTs_good x hx s T args as.toArray X.warmed (hts x hx)
  have happ : (headSpec xTs (xrm d' kc' ks')).appliesLoose (xy mj) e.platform (T.calling g mk as.toArray) = true :=
    Spec.appliesLoose_calling (g := g) h hdg hn hkY hiY (X.room_calling (g := g) (R' := xrm d' kc' ks') hsize hmY hcY hd (by rw [hlY]; exact hlo) hc hs) (atoms_intro hpre)
  obtain ⟨mid, hmid⟩ := h.above
  have hfr : (T.setTop g).frames = (.java g :: mid) ++ below := by rw [State.frames_setTop' g h.top, hmid]; rfl
  have hold : ∀ q, q < xB E → T.heap[q]? = s.heap[q]? := xS.old hC hS
  have hC' : xCx E (T.calling g mk as.toArray) := hC.moved X.warmed.alike hS.1 hold
  obtain ⟨o, t, hsteps, -, hend, hq⟩ := Steps.callFree hM p X.admits X.cas X.clock (acts := []) hfr happ ⟨rfl, hH, hC'⟩ trivial
  rw [State.frames_setTop' g h.top, X.tail] at hend
  cases o with
  | returned v =>
    obtain ⟨⟨w', hp, hw'⟩, hW, hold', L, hsame, hL⟩ := hq
    obtain ⟨T', X', -, -, ht⟩ := X.outOf (g := g) hg hdg (mk := mk) (a := as.toArray) hend hW hsame
    have eh : T'.heap = t.heap := by rw [ht]; simp [State.setTop, State.modifyTopJava]
    have hz : T.heap.size ≤ t.heap.size := hsame.2.1
    refine Or.inl ⟨v, w', T', L, hp, by rw [eh]; exact hw', ⟨by rw [eh]; exact Nat.le_trans hS.1 hz, fun q h1 h2 => ?_, fun x hx => ?_⟩, X', by rw [ht] at hsteps; exact hsteps⟩
    · have hqB : q < xB E := Nat.not_le.mp h2
      rw [eh, hold' q hqB]
      exact hold q hqB
    · rcases List.mem_append.mp hx with hx | hx
      · exact hS.2.2 x hx
      · exact hL x hx
  | threw x =>
    obtain ⟨⟨w', C, hp, hw', hex⟩, hW, hold', L, hsame, hL⟩ := hq
    obtain ⟨T', X', -, -, ht⟩ := X.outOfThrown (g := g) hg (mk := mk) (a := as.toArray) hend hW hsame
    have eh : T'.heap = t.heap := by rw [ht]; simp [State.pushFrame, State.setFrames, State.setTop, State.modifyTopJava]
    have ev : T'.vm = t.vm := by rw [ht]; simp [State.pushFrame, State.setFrames, State.setTop, State.modifyTopJava]
    have hz : T.heap.size ≤ t.heap.size := hsame.2.1
    have hex' : xEx E C x s.vm T'.heap := by
      obtain ⟨cell, c1, c2, c3, c4⟩ := hex
      refine ⟨cell, by rw [eh]; exact c1, c2, ?_, c4⟩
      have := X'.warmed.alike.findClass C none
      rw [ev] at this
      rw [← this]; exact c3
    refine Or.inr ⟨C, w', x, T', L, hp, by rw [eh]; exact hw', hex', ⟨by rw [eh]; exact Nat.le_trans hS.1 hz, fun q h1 h2 => ?_, fun x hx => ?_⟩, X', by rw [ht] at hsteps; exact hsteps⟩
    · have hqB : q < xB E := Nat.not_le.mp h2
      rw [eh, hold' q hqB]
      exact hold q hqB
    · rcases List.mem_append.mp hx with hx | hx
      · exact hS.2.2 x hx
      · exact hL x hx
/-- behind a call's link: the callee's contract, then the caller goes on, or stands under what was thrown -/
theorem xcallD {p : Program} {e : Env} {R : Room} {s : State} {m : MethodId} {args : Array Value} {below : List Frame} {meth : Method} {c : Code} {T : State} {locs : List Loc} {cells slots : Nat} {ls : Array Slot}
    (X : Stand p (xl E) e R s m args below meth c T locs cells slots) (hB : xB0 E mi d p R s m args meth c) (hl : xL ls (xnL mi) L) (hH : xH E w T.heap) (hS : va_S (fun q => xB E ≤ q) s.heap T.heap locs) (h1 : cells + kc + 1 ≤ R.cells) (h2 : slots + ks + 6 ≤ R.slots)
    {ig : Instr} (hd : decode (xcc mi) pc = .ok (ig, 3)) {mk : MethodId} {methY : Method} {cY : Code} {kY : Class} (hn : T.methodNamed? (xy mj) = some mk) (hmY : T.vm.method? mk = some methY) (hcY : methY.code = some cY) (hlY : cY.maxLocals = xnL mj) (hkY : T.vm.classes[mk.cls]? = some kY) (hiY : kY.init = .initialized)
    (hM : XC E mj d' kc' ks' as w Post') (hdd : d' + 1 ≤ d) (hst : (st.map fun v => v.category).sum + xnL mj ≤ 17) (hkc : kc' ≤ kc) (hks : ks' ≤ ks)
    (hr : ∀ v w', Post' (.inl v) w' → XR E mi d (kc - kc') (ks - ks') Post (pc + 3) L (v.toList ++ st) w') (ht : ∀ C w', Post' (.inr C) w' → XT E mi d (kc - kc') (ks - ks') Post pc L C w') :
    ∃ t, Steps p.tables e below (doInvoke e (T.setTop (F0 m pc ls st)) [] mk as.toArray).1 t ∧ xMQ E below Post (cells + kc) (slots + ks) s t := by
  have hC := hB.2.2.2.2.2.2.2.2.2.1
  have hR := hB.2.2.2.2.2.2.2.2.2.2
  have hlo : 2 * (F0 m pc ls st).monitorRoom + ((F0 m pc ls st).stack.map fun v => v.category).sum + (xnL mj + 11) + xlo d' ≤ R.locals := by
    have := hR.2
    unfold xlo at this ⊢
    show 2 * 0 + _ + _ + _ ≤ _
    have e1 : ((F0 m pc ls st).stack.map fun v => v.category).sum = (st.map fun v => v.category).sum := rfl
    omega
  rcases xcallC X hB.2.2.2.2.1 hC hH hS (g := F0 m pc ls st) rfl (by rw [hB.2.2.1]; exact hl.1) (by rw [hB.2.1]; exact hd) hn hmY hcY hlY hkY hiY hM (by omega) hlo (by omega) (by omega) with ⟨v, w', T', Lc, hp, hw', hS', X', hsteps⟩ | ⟨C, w', x, T', Lc, hp, hw', hex, hS', X', hsteps⟩
  · obtain ⟨t, a1, a2⟩ := hr v w' hp p e R s m args below meth c hB T'.heap (locs ++ Lc) (cells + kc') (slots + ks') ls hl hw' hS' (by omega) (by omega) T' rfl X'
    refine ⟨t, hsteps.trans a1, ?_⟩
    have e1 : cells + kc' + (kc - kc') = cells + kc := by omega
    have e2 : slots + ks' + (ks - ks') = slots + ks := by omega
    rw [e1, e2] at a2
    exact a2
  · obtain ⟨t, a1, a2⟩ := ht C w' hp p e R s m args below meth c hB T'.heap (locs ++ Lc) (cells + (kc' + 1)) (slots + (ks' + 6)) ls st x hl hw' hex hS' (by omega) (by omega) T' rfl X'
    refine ⟨t, hsteps.trans a1, ?_⟩
    have e1 : cells + (kc' + 1) + (kc - kc') - 1 = cells + kc := by omega
    have e2 : slots + (ks' + 6) + (ks - ks') - 6 = slots + ks := by omega
    rw [e1, e2] at a2
    exact a2
theorem XR.callS {index : Nat} (hd : decode (xcc mi) pc = .ok (.invokestatic index, 3)) (hl : Cond.methodLink (xy mi).cls index (xy mj) ∈ xTs) (hstat : Cond.static (xy mj) ∈ xTs) (hinit : Cond.initialized (xy mj).cls ∈ xTs) (hcd : xCd mj) (hy : (xy mj).cls ≠ "java/lang/invoke/MethodHandle" ∧ (xy mj).cls ≠ "java/lang/invoke/VarHandle")
    (hlen : (parseMethodDescriptor (xy mj).desc).map (fun g => g.parameters.length) = some as.length) {st0 : List Value} (hst0 : st0 = as.reverse ++ st) (hM : XC E mj d' kc' ks' as w Post') (hdd : d' + 1 ≤ d) (hst : (st.map fun v => v.category).sum + xnL mj ≤ 17) (hkc : kc' ≤ kc) (hks : ks' ≤ ks)
    (hr : ∀ v w', Post' (.inl v) w' → XR E mi d (kc - kc') (ks - ks') Post (pc + 3) L (v.toList ++ st) w') (ht : ∀ C w', Post' (.inr C) w' → XT E mi d (kc - kc') (ks - ks') Post pc L C w') : XR E mi d kc ks Post pc L st0 w := by
  intro p e R s m args below meth c hB H locs cells slots ls hl2 hH hS h1 h2 T hT X
  subst hT
  have hts := hB.2.2.2.2.1
  obtain ⟨mk, methM, cM, hnamed, hmethM, hcodeM, -, hlocM, -, -, -, hsigM⟩ := hcd.spec hts
  have hstatic : methM.isStatic = true := Cond.static_spec hnamed hmethM (hts _ hstat)
  obtain ⟨kP, hkP, -⟩ := className_of_methodNamed hnamed
  have hinitP : kP.init = .initialized := Cond.initialized_spec (findClass_of_methodNamed hnamed) hkP (hts _ hinit)
  have hlen' : as.length = methM.sig.parameters.length := by rw [hsigM] at hlen; simpa using hlen.symm
  obtain ⟨vm₁, X₁, hstep₁⟩ := X.invokestatic hB.1 hB.2.2.2.1 (hts _ hl) hnamed hmethM hstatic hkP hinitP hy (g := F0 m pc ls st0) rfl (argsL := as) (rest := st) hlen' hst0 (by rw [hB.2.1]; exact hd)
  obtain ⟨k1, hk1, he1⟩ := X₁.warmed.alike.2.2 _ _ hkP
  obtain ⟨t, a1, a2⟩ := xcallD X₁ hB hl2 hH hS h1 h2 hd (X₁.named hnamed) (X₁.warmed.methodAt hmethM) hcodeM hlocM hk1 (by rw [he1]; exact hinitP) hM hdd hst hkc hks hr ht
  exact ⟨t, hstep₁ _ fun acts => by rw [doInvoke_state]; exact a1, a2⟩
theorem XR.callV {index b : Nat} {C : String} (hd : decode (xcc mi) pc = .ok (.invokevirtual index, 3)) (hl : Cond.methodLink (xy mi).cls index (xy mj) ∈ xTs) (hinst : Cond.instanceMethod (xy mj) ∈ xTs) (hsel : Cond.selects C (xy mj) (xy mj) ∈ xTs) (hinit : Cond.initialized (xy mj).cls ∈ xTs) (hcd : xCd mj) (hy : (xy mj).cls ≠ "java/lang/invoke/MethodHandle" ∧ (xy mj).cls ≠ "java/lang/invoke/VarHandle")
    {q ci N : Nat} {Tu : u_T} {fs : List Value} (hb : b = xB E + q) (hq : q < w.1) (he : xen E w.2.1 q (w.2.2 q) = .inr (ci, fs)) (hc : vwCl[ci]? = some (C, Tu, N))
    (hlen : (parseMethodDescriptor (xy mj).desc).map (fun g => g.parameters.length) = some as.length) {st0 : List Value} (hst0 : st0 = as.reverse ++ .ref b :: st) (hM : XC E mj d' kc' ks' (.ref b :: as) w Post') (hdd : d' + 1 ≤ d) (hst : (st.map fun v => v.category).sum + xnL mj ≤ 17) (hkc : kc' ≤ kc) (hks : ks' ≤ ks)
    (hr : ∀ v w', Post' (.inl v) w' → XR E mi d (kc - kc') (ks - ks') Post (pc + 3) L (v.toList ++ st) w') (ht : ∀ C w', Post' (.inr C) w' → XT E mi d (kc - kc') (ks - ks') Post pc L C w') : XR E mi d kc ks Post pc L st0 w := by
  intro p e R s m args below meth c hB H locs cells slots ls hl2 hH hS h1 h2 T hT X
  subst hT; subst hb
  have hts := hB.2.2.2.2.1
  have hC := hB.2.2.2.2.2.2.2.2.2.1
  obtain ⟨r0, g1, cellB, hcell, q2, q3, -⟩ : va_at (xD E) vwCl (xB E + q, .inr (ci, fs)) T.heap := by have := hH.1 q hq; rw [he] at this; exact this
  have hr0 : r0 = (C, Tu, N) := Option.some.inj (g1.symm.trans hc)
  subst hr0
  have hcls : s.vm.findClass C = some cellB.cls := by rw [q2]; exact (hC.2.1.1 ci _ hc).2.1
  obtain ⟨mk, methM, hnamed, hmethM, hstM, habM⟩ := Cond.instanceMethod_spec (hts _ hinst)
  obtain ⟨mk', methM', cM, hnamed', hmethM', hcodeM, -, hlocM, -, -, -, hsigM⟩ := hcd.spec hts
  cases hnamed.symm.trans hnamed'
  cases hmethM.symm.trans hmethM'
  have hlen' : as.length = methM.sig.parameters.length := by rw [hsigM] at hlen; simpa using hlen.symm
  obtain ⟨c2, r2, m2, z1, z2, z3, z4, kP, hkP, hkPi⟩ := Cond.selects_spec (hts _ hsel)
  cases hcls.symm.trans z1
  cases (State.methodFound?_of_named hnamed hy).symm.trans z2
  cases hnamed.symm.trans z3
  have hselP : selectMethod e.platform s.vm cellB.cls mk = .method mk := by rw [Launch.admits_selectMethod X.admits]; exact z4
  have hobj : ∀ z, cellB.vm ≠ .statics z := fun z h => by rw [q3] at h; cases h
  obtain ⟨kI, hkI, -⟩ := className_of_methodNamed hnamed
  have hini : kI.init = .initialized := Cond.initialized_spec (findClass_of_methodNamed hnamed) hkI (hts _ hinit)
  obtain ⟨vm₁, X₁, hstep₁⟩ : ∃ vm₁, ∃ _ : Stand p (xl E) e R s m args below meth c (T.setVm vm₁) locs cells slots, ∀ target, (∀ acts, Steps p.tables e below (doInvoke e ((T.setVm vm₁).setTop (F0 m pc ls st)) acts mk (Value.ref (xB E + q) :: as).toArray).1 target) → Steps p.tables e below (T.setTop (F0 m pc ls st0)) target := by
    obtain ⟨vm₁, X₁, hh⟩ := X.invokevirtual hB.1 hB.2.2.2.1 (hts _ hl) hnamed hmethM hstM hkP hkPi hy (a := xB E + q) (cell := cellB) hcell hobj hselP hmethM habM hkP hkPi (g := F0 m pc ls st0) rfl (argsL := as) (rest := st) hlen' hst0 (by rw [hB.2.1]; exact hd)
    exact ⟨vm₁, X₁, hh⟩
  obtain ⟨k1, hk1, he1⟩ := X₁.warmed.alike.2.2 _ _ hkI
  obtain ⟨t, a1, a2⟩ := xcallD (as := .ref (xB E + q) :: as) X₁ hB hl2 hH hS h1 h2 hd (X₁.named hnamed) (X₁.warmed.methodAt hmethM) hcodeM hlocM hk1 (by rw [he1]; exact hini) hM hdd hst hkc hks hr ht
  exact ⟨t, hstep₁ _ fun acts => by rw [doInvoke_state]; exact a1, a2⟩
theorem XR.callI {index b : Nat} (hd : decode (xcc mi) pc = .ok (.invokespecial index, 3)) (hy1 : (xy mj).name = "<init>") (hl : Cond.methodLink (xy mi).cls index (xy mj) ∈ xTs) (hinst : Cond.instanceMethod (xy mj) ∈ xTs) (hinit : Cond.initialized (xy mj).cls ∈ xTs) (hcdw : Cond.code (xy mj) (xcc mj) (xnL mj) none ∈ xTs) (hy : (xy mj).cls ≠ "java/lang/invoke/MethodHandle" ∧ (xy mj).cls ≠ "java/lang/invoke/VarHandle")
    (hlen : (parseMethodDescriptor (xy mj).desc).map (fun g => g.parameters.length) = some as.length) {st0 : List Value} (hst0 : st0 = as.reverse ++ .ref b :: st) (hM : XC E mj d' kc' ks' (.ref b :: as) w Post') (hdd : d' + 1 ≤ d) (hst : (st.map fun v => v.category).sum + xnL mj ≤ 17) (hkc : kc' ≤ kc) (hks : ks' ≤ ks)
    (hr : ∀ v w', Post' (.inl v) w' → XR E mi d (kc - kc') (ks - ks') Post (pc + 3) L (v.toList ++ st) w') (ht : ∀ C w', Post' (.inr C) w' → XT E mi d (kc - kc') (ks - ks') Post pc L C w') : XR E mi d kc ks Post pc L st0 w := by
  intro p e R s m args below meth c hB H locs cells slots ls hl2 hH hS h1 h2 T hT X
  subst hT
  have hts := hB.2.2.2.2.1
  have hpl : e.platform.magicAccessors = ({} : Platform).magicAccessors := by rw [X.admits.platform]
  obtain ⟨mk, methM, cM, kP, vm₁, hnamed, hmethM, hcodeM, -, hlocalsM, -, hkP, -, hW₁, hstep₁⟩ := Steps.initColdArgs (e := e) X.here hB.1 X.warmed hpl hB.2.2.2.1 hy1 hy (hts _ hl) (hts _ hinst) (hts _ hcdw) (f := F0 m pc ls st0) rfl (argsL := as) (rest := st) (a := b) (fun sig h => by rw [h] at hlen; simpa using hlen.symm) hst0 (by rw [hB.2.1]; exact hd)
  have X₁ := X.noted hW₁
  have hkPi : kP.init = .initialized := Cond.initialized_spec (findClass_of_methodNamed hnamed) hkP (hts _ hinit)
  obtain ⟨k1, hk1, he1⟩ := X₁.warmed.alike.2.2 _ _ hkP
  obtain ⟨t, a1, a2⟩ := xcallD (as := .ref b :: as) X₁ hB hl2 hH hS h1 h2 hd (X₁.named hnamed) (X₁.warmed.methodAt hmethM) hcodeM hlocalsM hk1 (by rw [he1]; exact hkPi) hM hdd hst hkc hks hr ht
  exact ⟨t, hstep₁ _ fun acts => by rw [doInvoke_state]; exact a1, a2⟩
/-- thrown, and no handler here -/
theorem XT.leave {C : String} (hout : ∀ x ∈ xhs mi, ¬ (x.1 ≤ pc ∧ pc < x.2.1)) (hP : Post (.inr C) w) : XT E mi d kc ks Post pc L C w := by
  intro p e R s m args below meth c hB H locs cells slots ls st x hl hH hex hS h1 h2 T hT X
  have hC := hB.2.2.2.2.2.2.2.2.2.1
  have X := stand_widen X (show cells ≤ cells + kc - 1 + 1 by omega) (show slots ≤ slots + ks - 6 + 6 by omega)
  have hex2 := hB.2.2.2.2.2.2.2.2.1
  obtain ⟨hst, hr, he, hW, hsame⟩ := X.leaveThrown x (g := F0 m pc ls st) rfl rfl rfl (fun z hz => by
    have hm : (z.startPc, z.endPc, z.handlerPc, z.catchType) ∈ xhs mi := by rw [← hex2]; exact List.mem_map.mpr ⟨z, hz, rfl⟩
    have := hout _ hm
    simp only [covers, Bool.and_eq_false_imp, decide_eq_true_eq, decide_eq_false_iff_not]
    intro q1 q2
    exact this ⟨q1, q2⟩) hB.2.2.2.2.2.2.1
  refine ⟨_, hst, .threw x, hr, he, ⟨w, C, hP, ?_, ?_⟩, hW, fun q hq => ?_, locs, hsame, hS.2.2⟩
  · show xH E w (T.setFrames _).heap
    have : (T.setFrames (.throwing x :: below)).heap = T.heap := by simp [State.setFrames]
    rw [this, hT]; exact hH
  · obtain ⟨cell, c1, c2, c3, c4⟩ := hex
    refine ⟨cell, ?_, c2, ?_, c4⟩
    · have : (T.setFrames (.throwing x :: below)).heap = T.heap := by simp [State.setFrames]
      rw [this, hT]; exact c1
    · have : (T.setFrames (.throwing x :: below)).vm = T.vm := by simp [State.setFrames]
      rw [this, X.warmed.alike.findClass]; exact c3
  · have : (T.setFrames (.throwing x :: below)).heap = T.heap := by simp [State.setFrames]
    rw [this, hT]; exact xS.old hC hS q hq
end XCalls
end
section
/-! catching: the table's rows in their order, their classes resolved or not yet -/
def xCat (own C : String) (pc tgt : Nat) : List (Nat × Nat × Nat × Nat) → Prop
  | [] => False
  | h :: r => h.1 ≤ pc ∧ pc < h.2.1 ∧ h.2.2.2 ≠ 0 ∧ ∃ name, Cond.classLink own h.2.2.2 name ∈ xTs ∧ ((Cond.castable C name ∈ xTs ∧ h.2.2.1 = tgt) ∨ (Cond.not (.castable C name) ∈ xTs ∧ xCat own C pc tgt r))
theorem xfind {e : Env} {s : State} {A : Array Value} {f : JFrame} {a : Addr} {cell : Cell} {own C : String} {tgt : Nat} (hts : ∀ x ∈ xTs, x.before A s = true) (hpl : e.platform.magicAccessors = ({} : Platform).magicAccessors) (hown : s.vm.findClass own = some f.method.cls) (hobj : ∀ k, cell.vm ≠ .statics k) (hC : s.vm.findClass C = some cell.cls) :
    ∀ (t : List ClassFile.ExceptionTableEntry) (S : State), s.WarmedH S.vm → S.heap[a]? = some cell → xCat own C f.pc tgt (t.map fun x => (x.startPc, x.endPc, x.handlerPc, x.catchType)) →
      ∃ vm', s.WarmedH vm' ∧ ∀ (Q : Handler → Pre) (F : CtlPost) (d : Bool) (acts : List Action), wp (findHandler.go f a t) Q F e d acts S ↔ Q (.found tgt) d acts (S.setVm vm') := by
  intro t
  induction t with
  | nil => intro S _ _ h; exact absurd h id
  | cons x r ih =>
    intro S hW hcell h
    obtain ⟨p1, p2, p3, name, hlink, hcase⟩ := h
    have p1' : x.startPc ≤ f.pc := p1
    have p2' : f.pc < x.endPc := p2
    have p3' : x.catchType ≠ 0 := p3
    obtain ⟨c', hc', hcl⟩ := Cond.classLink_spec hown (hts _ hlink) e.platform hpl
    obtain ⟨dk, _, _, kt, hd, _, _, _, _, hkt, _, hopen⟩ := hcl.here
    have hW' : s.WarmedH (S.vm.noted f.method.cls x.catchType (.cls c')) := hW.noted hd hopen (State.rightAt_cls hcl)
    obtain ⟨ha, ht⟩ := (resolveClass_links e.toSetting (hW.classLinks hcl)).op (op := VmOp.resolveClass f.method.cls x.catchType) rfl
    obtain ⟨k0, hk0, -⟩ := Vm.findClass_spec hC
    obtain ⟨k1, hk1, -⟩ := hW'.alike.2.2 _ _ hk0
    obtain ⟨k2, hk2, -⟩ := hW'.alike.2.2 _ _ hkt
    rcases hcase with ⟨hy, hpc⟩ | ⟨hno, hr⟩
    · have hpc' : x.handlerPc = tgt := hpc
      obtain ⟨c0, t0, f1, f2, f3⟩ := Cond.castable_spec (hts _ hy)
      cases hC.symm.trans f1
      cases hc'.symm.trans f2
      have hfit : (S.vm.noted f.method.cls x.catchType (.cls c')).assignable cell.cls c' = true := by rw [hW'.alike.assignable]; exact f3
      refine ⟨_, hW', fun Q F d acts => ?_⟩
      simp [findHandler.go, p1', p2', p3', ha, ht, hcell, hobj, hk1, hk2, hfit, hpc', VmOp.dirties, VmOp.acts]
    · have hv := Cond.holds_not_iff.mp (hts _ hno)
      simp only [Cond.value, hC, hc'] at hv
      have hfit : (S.vm.noted f.method.cls x.catchType (.cls c')).assignable cell.cls c' = false := by rw [hW'.alike.assignable]; exact Option.some.inj hv
      obtain ⟨vm', g1, g2⟩ := ih (S.setVm (S.vm.noted f.method.cls x.catchType (.cls c'))) hW' hcell hr
      refine ⟨vm', g1, fun Q F d acts => ?_⟩
      have := g2 Q F d acts
      simp [findHandler.go, p1', p2', p3', ha, ht, hcell, hobj, hk1, hk2, hfit, VmOp.dirties, VmOp.acts] at this ⊢
      exact this
theorem xcaught {tb : Tables} {e : Env} {u target : State} {g : JFrame} {c : Code} {below : List Frame} {a : Addr} (h : At u g.method c below) {pc : Nat} {vm' : Vm}
    (hf : ∀ (Q : Handler → Pre) (F : CtlPost) (d : Bool) (acts : List Action), wp (findHandler g a) Q F e d acts ((u.setTop g).pushFrame (.throwing a)) ↔ Q (.found pc) d acts (((u.setTop g).pushFrame (.throwing a)).setVm vm'))
    (hrest : Steps tb e below ((u.setVm vm').setTop { g with pc := pc, stack := [.ref a] }) target) : Steps tb e below ((u.setTop g).pushFrame (.throwing a)) target := by
  obtain ⟨hgo, hw⟩ := h.throwing a
  refine Steps.head hgo hw ?_
  obtain ⟨g₀, hg⟩ := Option.isSome_iff_exists.mp h.top
  obtain ⟨r, hr⟩ := State.topJava?_eq_some.mp hg
  have key : (stepThrowing e ((u.setTop g).pushFrame (.throwing a)) a (.java g :: u.frames.tail)).1 = (((u.setTop g).pushFrame (.throwing a)).setVm vm').setFrames (.java { g with pc := pc, stack := [.ref a] } :: u.frames.tail) := by
    simp only [stepThrowing, searchFrame, vmDo]
    generalize hz : Sem.go _ e false [] _ = res
    obtain ⟨as, rfl, -⟩ := Sem.eq_ok_of hz (a := Handler.found pc) (s' := ((u.setTop g).pushFrame (.throwing a)).setVm vm') (acts' := []) (by simp [hf _ _ _ _])
    rfl
  rw [stepThread_throwing (frames_entered h.top _), key, hr, List.tail_cons, State.pushFrame, State.setTop_of_frames _ hr]
  have hr' : (u.setVm vm').frames = .java g₀ :: r := hr
  rw [State.setTop_of_frames _ hr'] at hrest
  have e1 : ∀ (F G : List Frame), ((u.setFrames F).setVm vm').setFrames G = (u.setVm vm').setFrames G := fun F G => by
    have : (u.setFrames F).setVm vm' = (u.setVm vm').setFrames F := rfl
    rw [this, State.setFrames_setFrames]
  rw [State.setFrames_setFrames, e1]
  exact hrest
section XThrows
variable {E : xE} {mi : xMI} {d kc ks pc : Nat} {Post : xO → xWd → Prop} {L st : List Value} {w : xWd}
theorem XT.catch {C : String} {tgt : Nat} (hcat : xCat (xy mi).cls C pc tgt (xhs mi)) (k : ∀ x, XR E mi d kc ks Post tgt L [.ref x] w) : XT E mi d (kc + 1) (ks + 6) Post pc L C w := by
  intro p e R s m args below meth c hB H locs cells slots ls st x hl hH hex hS h1 h2 T hT X
  subst hT
  obtain ⟨cell, c1, c2, c3, c4⟩ := hex
  have hpl : e.platform.magicAccessors = ({} : Platform).magicAccessors := by rw [X.admits.platform]
  have hobj : ∀ k, cell.vm ≠ .statics k := fun k h => by rw [h] at c2; cases c2
  have hex2 := hB.2.2.2.2.2.2.2.2.1
  rw [← hex2] at hcat
  obtain ⟨vm', hW', hq⟩ := xfind (e := e) (f := F0 m pc ls st) (a := x) hB.2.2.2.2.1 hpl hB.2.2.2.1 hobj c3 c.exceptionTable.toList ((T.setTop (F0 m pc ls st)).pushFrame (.throwing x)) (by rw [Stand.throwing_vm]; exact X.warmed) (by rw [Stand.throwing_heap]; exact c1) hcat
  have X' := X.noted hW'
  obtain ⟨t, a1, a2⟩ := k x p e R s m args below meth c hB T.heap locs cells slots ls hl hH hS (by omega) (by omega) (T.setVm vm') rfl X'
  refine ⟨t, xcaught (g := F0 m pc ls st) X.here (fun Q F d acts => ?_) a1, ?_⟩
  · rw [W.findHandler_eq (meth := meth) (code := c) (by rw [Stand.throwing_vm]; exact X.method') X.code]
    exact hq Q F d acts
  · have e1 : cells + (kc + 1) - 1 = cells + kc := by omega
    have e2 : slots + (ks + 6) - 6 = slots + ks := by omega
    rw [e1, e2]; exact a2
/-- a walk may begin anew where it stands -/
theorem xrebase {p : Program} {l : Launch} {e : Env} {R : Room} {s : State} {m : MethodId} {args : Array Value} {below : List Frame} {meth : Method} {c : Code} {T : State} {locs : List Loc} {cells slots k n : Nat}
    (X : Stand p l e R s m args below meth c T locs cells slots) (hk : cells + k ≤ R.cells) (hn : slots + n ≤ R.slots) :
    ∃ s' : State, s'.heap = T.heap ∧ s'.vm = s.vm ∧ Stand p l e { R with cells := k, slots := n } s' m args below meth c T [] 0 0 ∧
      ∀ t : State, s'.sameButNew ({ t with vm := s'.vm } : State) [] k n → s.sameButNew ({ t with vm := s.vm } : State) locs (cells + k) (slots + n) := by
  have e1 := X.same.1
  have hdrop : T.heap.toList.drop T.heap.size = [] := List.drop_eq_nil_of_le (by simp)
  refine ⟨({ s with heap := T.heap, slotsUsed := T.slotsUsed } : State), rfl, rfl, ⟨X.admits, X.cas, X.clock, X.frames, ?_, X.hears, X.method, X.code, X.here, X.tail, X.warmed, X.limits, X.bytes, e1, Nat.le_refl _, Nat.le_refl _, ?_, ?_, fun a cl h => ⟨cl, h, rfl, rfl, fun _ _ => rfl⟩⟩, ?_⟩
  · have hr := X.room
    have hb := X.book
    have hz := X.heapSize
    have hu := X.used
    simp only [State.hasRoom, Bool.and_eq_true, decide_eq_true_eq] at hr ⊢
    obtain ⟨⟨⟨⟨r1, r2⟩, r3⟩, r4⟩, r5⟩ := hr
    refine ⟨⟨⟨⟨r1, r2⟩, ?_⟩, ?_⟩, hb⟩
    · show T.heap.size + k ≤ _
      omega
    · show T.slotsUsed + n ≤ _
      omega
  · show T.slotsUsed = T.slotsUsed + ((T.heap.toList.drop T.heap.size).map (·.slots.size)).sum
    rw [hdrop]; rfl
  · show ((T.heap.toList.drop T.heap.size).map (·.slots.size)).sum ≤ 0
    rw [hdrop]; exact Nat.le_refl _
  · intro t h
    have h3 : (T.setVm s.vm).sameButNew ({ t with vm := s.vm } : State) [] k n := by
      obtain ⟨q1, q2, q3, q4, q5, q6⟩ := h
      refine ⟨?_, q2, q3, q4, q5, q6⟩
      have e2 : (T.setVm s.vm) = ({ s with heap := T.heap, slotsUsed := T.slotsUsed } : State).setFrames T.frames := e1
      rw [e2, State.setFrames_setFrames]
      exact q1
    have h4 := X.same.trans h3
    rw [List.append_nil] at h4
    exact h4
theorem xH.grown {H H1 : Heap} (h : xH E w H) (hw : ¬ w.1 < 26) (hz : H.size ≤ H1.size) (ho : ∀ a, a < H.size → H1[a]? = H[a]?) : xH E w H1 :=
  ⟨fun k hk => (h.1 k hk).kept (ho _ (show xB E + k < H.size by have := h.2.1; omega)), Nat.le_trans h.2.1 hz, fun q => absurd q hw⟩
theorem XR.throw {index ic : Nat} {C : String} {names : List String} (hd0 : decode (xcc mi) pc = .ok (.new index, 3)) (hd1 : decode (xcc mi) (pc + 3) = .ok (.dup, 1)) (hd2 : decode (xcc mi) (pc + 3 + 1) = .ok (.invokespecial ic, 3)) (hd3 : decode (xcc mi) (pc + 3 + 1 + 3) = .ok (.athrow, 1))
    (hcl : Cond.classLink (xy mi).cls index C ∈ xTs) (hins : Cond.instantiable C 6 ∈ xTs) (hini : Cond.initialized C ∈ xTs) (hfc : Bundle.fit C = true) (hfn : ∀ n ∈ names, Bundle.fit n = true) (hat : ∀ a ∈ Bundle.ownAtoms0 (xy mi).cls ic C names, a ∈ xTs ∨ a ∈ xTw)
    (hw : ¬ w.1 < 26) (hout : ∀ x ∈ xhs mi, ¬ (x.1 ≤ pc + 3 + 1 + 3 ∧ pc + 3 + 1 + 3 < x.2.1)) (hdd : names.length + 3 < d) (hst : (st.map fun v => v.category).sum ≤ 8) (hP : Post (.inr C) w) : XR E mi d kc ks Post pc L st w := by
  intro p e R s m args below meth c hB H locs cells slots ls hl hH hS h1 h2 T hT X
  subst hT
  have hC := hB.2.2.2.2.2.2.2.2.2.1
  have hR := hB.2.2.2.2.2.2.2.2.2.2
  have hts := hB.2.2.2.2.1
  have hex2 := hB.2.2.2.2.2.2.2.2.1
  have hlocks := hB.2.2.2.2.2.2.1
  obtain ⟨s', eh, ev, X0, hback⟩ := xrebase X (k := 1) (n := 6) (by omega) (by omega)
  have hW0 : s.WarmedH s'.vm := by rw [ev]; exact State.WarmedH.refl s
  have hts0 : ∀ x ∈ xTs, x.before args s' = true := fun x hx => xTs_good x hx s s' args args hW0 (hts x hx)
  have htw0 : ∀ x ∈ xTw, x.before args s' = true := fun x hx => hC.2.2.2.2 s' hW0.alike (fun q hq => by rw [eh]; exact xS.old hC hS q hq) args x hx
  have htr : e.platform.stackTraces = false := by rw [X.admits.platform]; exact hC.1
  have hown : s'.vm.findClass (xy mi).cls = some m.cls := by rw [ev]; exact hB.2.2.2.1
  have hWalk : W p (xl E) e { R with cells := 1, slots := 6 } s' m args below meth c T.heap [] 0 0 (fun t => t.status = .running ∧ Ended t below (.threw T.heap.size) ∧ s'.WarmedH t.vm ∧ s'.sameButNew ({ t with vm := s'.vm } : State) [] (0 + 1) (0 + 6) ∧ ∃ ce, t.heap[T.heap.size]? = some ce ∧ ce.vm = .none ∧ s'.vm.findClass C = some ce.cls) (F0 m pc ls st) := by
    refine W.newc hB.1 hB.2.1 (own := (xy mi).cls) hown (hts0 _ hcl) (hts0 _ hins) (hts0 _ hini) rfl hd0 (Nat.le_refl _) (Nat.le_refl _) fun cC kC g1 g2 g3 g4 => ?_
    refine lv_dup hB.1 hB.2.1 hd1 rfl ?_
    intro T2 hT2 X2
    have hcell : T2.heap[T.heap.size]? = some (freshCell cC kC) := by rw [hT2]; simp [freshCell]
    have hout2 : ∀ x ∈ c.exceptionTable.toList, covers x (pc + 3 + 1 + 3) = false := fun z hz => by
      have hm : (z.startPc, z.endPc, z.handlerPc, z.catchType) ∈ xhs mi := by rw [← hex2]; exact List.mem_map.mpr ⟨z, hz, rfl⟩
      have := hout _ hm
      simp only [covers, Bool.and_eq_false_imp, decide_eq_true_eq, decide_eq_false_iff_not]
      intro q1 q2
      exact this ⟨q1, q2⟩
    have hloc : 2 * (F0 m (pc + 3 + 1) ls (.ref T.heap.size :: .ref T.heap.size :: st)).monitorRoom + ((Value.ref T.heap.size :: st).map fun v => v.category).sum + (13 * (names.length + 1) + 41) ≤ R.locals := by
      have := hR.2
      unfold xlo at this
      show 2 * 0 + (1 + (st.map fun v => v.category).sum) + _ ≤ R.locals
      omega
    have hfr : names.length + 3 < R.frames := by omega
    obtain ⟨U, u1, u2, u3, u4, u5, ce, u6, u7⟩ := X2.ctorThrow0 hB.1 htr (own := (xy mi).cls) (cls := C) (names := names) (ic := ic) hown hfc hfn (fun a ha => by
        rcases hat a ha with q | q
        · exact hts0 a q
        · exact htw0 a q) (fun x hx => by cases hx) (a := T.heap.size) g1 g2 hcell (by rw [eh]; exact Nat.le_refl _) (g := F0 m (pc + 3 + 1) ls (.ref T.heap.size :: .ref T.heap.size :: st)) rfl (by rw [hB.2.2.1]; exact hl.1) rfl rfl (rest := st) rfl
        (by rw [hB.2.1]; exact hd2) (by rw [hB.2.1]; exact hd3) hout2 hfr hloc hlocks
    exact ⟨U, u1, u2, u3, u4, u5, ce, u6, u7.vm, u7.cls⟩
  obtain ⟨t, a1, b1, b2, b3, b4, ce, b5, b6, b7⟩ := hWalk T rfl X0
  have hz : T.heap.size ≤ t.heap.size := by rw [← eh]; exact b4.2.1
  have ho : ∀ a, a < T.heap.size → t.heap[a]? = T.heap[a]? := fun a ha => by
    have hx : T.heap[a]? = some T.heap[a] := Array.getElem?_eq_getElem ha
    rw [hx]
    exact b4.old_cell (by rw [eh]; exact hx)
  have h4 := (hback t b4).mono (show cells + 1 ≤ cells + kc + 1 by omega) (show slots + 6 ≤ slots + ks + 6 by omega)
  have hWt : s.WarmedH t.vm := State.WarmedH.trans hW0 b3
  refine ⟨t, a1, .threw T.heap.size, b1, b2, ⟨w, C, hP, hH.grown hw hz ho, ce, b5, by rw [b6]; rfl, by rw [b3.alike.findClass]; exact b7, Nat.le_trans (Nat.le_add_right _ _) hH.2.1⟩, hWt, fun q hq => ?_, locs, h4, hS.2.2⟩
  rw [ho q (Nat.lt_of_lt_of_le hq (Nat.le_trans (Nat.le_add_right _ _) hH.2.1))]
  exact xS.old hC hS q hq
end XThrows
end
