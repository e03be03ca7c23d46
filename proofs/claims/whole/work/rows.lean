section
-- ===== PART A: goes FIRST, ahead of the names: the tables' words, and 'selects' of the private methods out of them =====
/-- a private method of a class that the tables say can be made, by its rows of tables_1 -/
def lw_okq (q : MethodName × Nat) : Prop := (q.1.cls ≠ "java/lang/invoke/MethodHandle" ∧ q.1.cls ≠ "java/lang/invoke/VarHandle") ∧ Cond.instantiable q.1.cls q.2 ∈ tables_1 ∧ Cond.privateMethod q.1 ∈ tables_1 ∧ Cond.instanceMethod q.1 ∈ tables_1
theorem lw_p0 : lw_okq (⟨"PageBanks", "isWithoutBank", "(I)Z"⟩, 3) := ⟨⟨by decide +kernel, by decide +kernel⟩, List.mem_of_getElem? (i := 17) (by decide +kernel), List.mem_of_getElem? (i := 183) (by decide +kernel), List.mem_of_getElem? (i := 184) (by decide +kernel)⟩
theorem lw_p1 : lw_okq (⟨"PageBanks", "requireBank", "(I)V"⟩, 3) := ⟨⟨by decide +kernel, by decide +kernel⟩, List.mem_of_getElem? (i := 17) (by decide +kernel), List.mem_of_getElem? (i := 199) (by decide +kernel), List.mem_of_getElem? (i := 200) (by decide +kernel)⟩
theorem lw_p2 : lw_okq (⟨"java/lang/Throwable", "fillInStackTrace", "(I)Ljava/lang/Throwable;"⟩, 6) := ⟨⟨by decide +kernel, by decide +kernel⟩, List.mem_of_getElem? (i := 246) (by decide +kernel), List.mem_of_getElem? (i := 244) (by decide +kernel), List.mem_of_getElem? (i := 245) (by decide +kernel)⟩
theorem lw_p3 : lw_okq (⟨"PageBanks", "requireLive", "(I)V"⟩, 3) := ⟨⟨by decide +kernel, by decide +kernel⟩, List.mem_of_getElem? (i := 17) (by decide +kernel), List.mem_of_getElem? (i := 292) (by decide +kernel), List.mem_of_getElem? (i := 293) (by decide +kernel)⟩
theorem lw_p4 : lw_okq (⟨"PageBanks", "refuse", "(I)V"⟩, 3) := ⟨⟨by decide +kernel, by decide +kernel⟩, List.mem_of_getElem? (i := 17) (by decide +kernel), List.mem_of_getElem? (i := 326) (by decide +kernel), List.mem_of_getElem? (i := 327) (by decide +kernel)⟩
theorem lw_p5 : lw_okq (⟨"PageBanks", "buyNeighbours", "(II)I"⟩, 3) := ⟨⟨by decide +kernel, by decide +kernel⟩, List.mem_of_getElem? (i := 17) (by decide +kernel), List.mem_of_getElem? (i := 356) (by decide +kernel), List.mem_of_getElem? (i := 357) (by decide +kernel)⟩
theorem lw_p6 : lw_okq (⟨"PageBanks", "requireUse", "(II)V"⟩, 3) := ⟨⟨by decide +kernel, by decide +kernel⟩, List.mem_of_getElem? (i := 17) (by decide +kernel), List.mem_of_getElem? (i := 367) (by decide +kernel), List.mem_of_getElem? (i := 368) (by decide +kernel)⟩
theorem lw_p7 : lw_okq (⟨"PageBanks", "requireAlive", "(I)V"⟩, 3) := ⟨⟨by decide +kernel, by decide +kernel⟩, List.mem_of_getElem? (i := 17) (by decide +kernel), List.mem_of_getElem? (i := 418) (by decide +kernel), List.mem_of_getElem? (i := 419) (by decide +kernel)⟩
theorem lw_p8 : lw_okq (⟨"PageBanks", "requireOtherThanRoot", "(I)V"⟩, 3) := ⟨⟨by decide +kernel, by decide +kernel⟩, List.mem_of_getElem? (i := 17) (by decide +kernel), List.mem_of_getElem? (i := 536) (by decide +kernel), List.mem_of_getElem? (i := 537) (by decide +kernel)⟩
theorem lw_p9 : lw_okq (⟨"PageBanks", "dyingPages", "()I"⟩, 3) := ⟨⟨by decide +kernel, by decide +kernel⟩, List.mem_of_getElem? (i := 17) (by decide +kernel), List.mem_of_getElem? (i := 561) (by decide +kernel), List.mem_of_getElem? (i := 562) (by decide +kernel)⟩
theorem lw_p10 : lw_okq (⟨"PageBanks", "isDyingPage", "(I)Z"⟩, 3) := ⟨⟨by decide +kernel, by decide +kernel⟩, List.mem_of_getElem? (i := 17) (by decide +kernel), List.mem_of_getElem? (i := 565) (by decide +kernel), List.mem_of_getElem? (i := 566) (by decide +kernel)⟩
theorem lw_p11 : lw_okq (⟨"PageBanksModel", "isBank", "(I)Z"⟩, 14) := ⟨⟨by decide +kernel, by decide +kernel⟩, List.mem_of_getElem? (i := 627) (by decide +kernel), List.mem_of_getElem? (i := 685) (by decide +kernel), List.mem_of_getElem? (i := 686) (by decide +kernel)⟩
theorem lw_p12 : lw_okq (⟨"PageBanksModel", "isOpen", "(I)Z"⟩, 14) := ⟨⟨by decide +kernel, by decide +kernel⟩, List.mem_of_getElem? (i := 627) (by decide +kernel), List.mem_of_getElem? (i := 692) (by decide +kernel), List.mem_of_getElem? (i := 693) (by decide +kernel)⟩
theorem lw_p13 : lw_okq (⟨"PageBanksModel", "depthOf", "(I)I"⟩, 14) := ⟨⟨by decide +kernel, by decide +kernel⟩, List.mem_of_getElem? (i := 627) (by decide +kernel), List.mem_of_getElem? (i := 696) (by decide +kernel), List.mem_of_getElem? (i := 697) (by decide +kernel)⟩
theorem lw_p14 : lw_okq (⟨"PageBanksModel", "unsupported", "(II)I"⟩, 14) := ⟨⟨by decide +kernel, by decide +kernel⟩, List.mem_of_getElem? (i := 627) (by decide +kernel), List.mem_of_getElem? (i := 700) (by decide +kernel), List.mem_of_getElem? (i := 701) (by decide +kernel)⟩
theorem lw_p15 : lw_okq (⟨"PageBanksModel", "bought", "(III)I"⟩, 14) := ⟨⟨by decide +kernel, by decide +kernel⟩, List.mem_of_getElem? (i := 627) (by decide +kernel), List.mem_of_getElem? (i := 708) (by decide +kernel), List.mem_of_getElem? (i := 709) (by decide +kernel)⟩
def lw_privs_1 : List (MethodName × Nat) := [(⟨"PageBanks", "isWithoutBank", "(I)Z"⟩, 3), (⟨"PageBanks", "requireBank", "(I)V"⟩, 3), (⟨"java/lang/Throwable", "fillInStackTrace", "(I)Ljava/lang/Throwable;"⟩, 6), (⟨"PageBanks", "requireLive", "(I)V"⟩, 3), (⟨"PageBanks", "refuse", "(I)V"⟩, 3), (⟨"PageBanks", "buyNeighbours", "(II)I"⟩, 3), (⟨"PageBanks", "requireUse", "(II)V"⟩, 3), (⟨"PageBanks", "requireAlive", "(I)V"⟩, 3), (⟨"PageBanks", "requireOtherThanRoot", "(I)V"⟩, 3), (⟨"PageBanks", "dyingPages", "()I"⟩, 3), (⟨"PageBanks", "isDyingPage", "(I)Z"⟩, 3), (⟨"PageBanksModel", "isBank", "(I)Z"⟩, 14), (⟨"PageBanksModel", "isOpen", "(I)Z"⟩, 14), (⟨"PageBanksModel", "depthOf", "(I)I"⟩, 14), (⟨"PageBanksModel", "unsupported", "(II)I"⟩, 14), (⟨"PageBanksModel", "bought", "(III)I"⟩, 14)]
theorem lw_r1 : ∀ q ∈ lw_privs_1, lw_okq q := List.forall_mem_cons.mpr ⟨lw_p0, List.forall_mem_cons.mpr ⟨lw_p1, List.forall_mem_cons.mpr ⟨lw_p2, List.forall_mem_cons.mpr ⟨lw_p3, List.forall_mem_cons.mpr ⟨lw_p4, List.forall_mem_cons.mpr ⟨lw_p5, List.forall_mem_cons.mpr ⟨lw_p6, List.forall_mem_cons.mpr ⟨lw_p7, List.forall_mem_cons.mpr ⟨lw_p8, List.forall_mem_cons.mpr ⟨lw_p9, List.forall_mem_cons.mpr ⟨lw_p10, List.forall_mem_cons.mpr ⟨lw_p11, List.forall_mem_cons.mpr ⟨lw_p12, List.forall_mem_cons.mpr ⟨lw_p13, List.forall_mem_cons.mpr ⟨lw_p14, List.forall_mem_cons.mpr ⟨lw_p15, fun _ h => absurd h List.not_mem_nil⟩⟩⟩⟩⟩⟩⟩⟩⟩⟩⟩⟩⟩⟩⟩⟩
theorem lw_p16 : lw_okq (⟨"PageBanksModel", "refuser", "(II)I"⟩, 14) := ⟨⟨by decide +kernel, by decide +kernel⟩, List.mem_of_getElem? (i := 627) (by decide +kernel), List.mem_of_getElem? (i := 712) (by decide +kernel), List.mem_of_getElem? (i := 713) (by decide +kernel)⟩
theorem lw_p17 : lw_okq (⟨"PageBanksModel", "useOf", "(I)I"⟩, 14) := ⟨⟨by decide +kernel, by decide +kernel⟩, List.mem_of_getElem? (i := 627) (by decide +kernel), List.mem_of_getElem? (i := 716) (by decide +kernel), List.mem_of_getElem? (i := 717) (by decide +kernel)⟩
theorem lw_p18 : lw_okq (⟨"PageBanksModel", "isUnder", "(II)Z"⟩, 14) := ⟨⟨by decide +kernel, by decide +kernel⟩, List.mem_of_getElem? (i := 627) (by decide +kernel), List.mem_of_getElem? (i := 720) (by decide +kernel), List.mem_of_getElem? (i := 721) (by decide +kernel)⟩
theorem lw_p19 : lw_okq (⟨"PageBanksModel", "owned", "(I)I"⟩, 14) := ⟨⟨by decide +kernel, by decide +kernel⟩, List.mem_of_getElem? (i := 627) (by decide +kernel), List.mem_of_getElem? (i := 724) (by decide +kernel), List.mem_of_getElem? (i := 725) (by decide +kernel)⟩
theorem lw_p20 : lw_okq (⟨"PageBanksModel", "room", "(I)I"⟩, 14) := ⟨⟨by decide +kernel, by decide +kernel⟩, List.mem_of_getElem? (i := 627) (by decide +kernel), List.mem_of_getElem? (i := 728) (by decide +kernel), List.mem_of_getElem? (i := 729) (by decide +kernel)⟩
theorem lw_p21 : lw_okq (⟨"PageBanksModel", "isFree", "(I)Z"⟩, 14) := ⟨⟨by decide +kernel, by decide +kernel⟩, List.mem_of_getElem? (i := 627) (by decide +kernel), List.mem_of_getElem? (i := 732) (by decide +kernel), List.mem_of_getElem? (i := 733) (by decide +kernel)⟩
theorem lw_p22 : lw_okq (⟨"PageBanksModel", "own", "(II)V"⟩, 14) := ⟨⟨by decide +kernel, by decide +kernel⟩, List.mem_of_getElem? (i := 627) (by decide +kernel), List.mem_of_getElem? (i := 736) (by decide +kernel), List.mem_of_getElem? (i := 737) (by decide +kernel)⟩
theorem lw_p23 : lw_okq (⟨"PageBanksModel", "lives", "(I)Z"⟩, 14) := ⟨⟨by decide +kernel, by decide +kernel⟩, List.mem_of_getElem? (i := 627) (by decide +kernel), List.mem_of_getElem? (i := 751) (by decide +kernel), List.mem_of_getElem? (i := 752) (by decide +kernel)⟩
theorem lw_p24 : lw_okq (⟨"PageBanksModel", "wrong", "(I)I"⟩, 14) := ⟨⟨by decide +kernel, by decide +kernel⟩, List.mem_of_getElem? (i := 627) (by decide +kernel), List.mem_of_getElem? (i := 797) (by decide +kernel), List.mem_of_getElem? (i := 798) (by decide +kernel)⟩
theorem lw_p25 : lw_okq (⟨"PageBanksModel", "clear", "()V"⟩, 14) := ⟨⟨by decide +kernel, by decide +kernel⟩, List.mem_of_getElem? (i := 627) (by decide +kernel), List.mem_of_getElem? (i := 805) (by decide +kernel), List.mem_of_getElem? (i := 806) (by decide +kernel)⟩
theorem lw_p26 : lw_okq (⟨"PageBanksModel", "isParent", "(I)Z"⟩, 14) := ⟨⟨by decide +kernel, by decide +kernel⟩, List.mem_of_getElem? (i := 627) (by decide +kernel), List.mem_of_getElem? (i := 809) (by decide +kernel), List.mem_of_getElem? (i := 810) (by decide +kernel)⟩
theorem lw_p27 : lw_okq (⟨"PageBanksModel", "toBeFreed", "()I"⟩, 14) := ⟨⟨by decide +kernel, by decide +kernel⟩, List.mem_of_getElem? (i := 627) (by decide +kernel), List.mem_of_getElem? (i := 813) (by decide +kernel), List.mem_of_getElem? (i := 814) (by decide +kernel)⟩
theorem lw_p28 : lw_okq (⟨"PageBanksModel", "isToBeFreed", "(I)Z"⟩, 14) := ⟨⟨by decide +kernel, by decide +kernel⟩, List.mem_of_getElem? (i := 627) (by decide +kernel), List.mem_of_getElem? (i := 817) (by decide +kernel), List.mem_of_getElem? (i := 818) (by decide +kernel)⟩
theorem lw_p29 : lw_okq (⟨"PageBanksModel", "placeOfPage", "(II)I"⟩, 14) := ⟨⟨by decide +kernel, by decide +kernel⟩, List.mem_of_getElem? (i := 627) (by decide +kernel), List.mem_of_getElem? (i := 829) (by decide +kernel), List.mem_of_getElem? (i := 830) (by decide +kernel)⟩
theorem lw_p30 : lw_okq (⟨"PageBanksModel", "banksUnder", "(I)I"⟩, 14) := ⟨⟨by decide +kernel, by decide +kernel⟩, List.mem_of_getElem? (i := 627) (by decide +kernel), List.mem_of_getElem? (i := 837) (by decide +kernel), List.mem_of_getElem? (i := 838) (by decide +kernel)⟩
def lw_privs_2 : List (MethodName × Nat) := [(⟨"PageBanksModel", "refuser", "(II)I"⟩, 14), (⟨"PageBanksModel", "useOf", "(I)I"⟩, 14), (⟨"PageBanksModel", "isUnder", "(II)Z"⟩, 14), (⟨"PageBanksModel", "owned", "(I)I"⟩, 14), (⟨"PageBanksModel", "room", "(I)I"⟩, 14), (⟨"PageBanksModel", "isFree", "(I)Z"⟩, 14), (⟨"PageBanksModel", "own", "(II)V"⟩, 14), (⟨"PageBanksModel", "lives", "(I)Z"⟩, 14), (⟨"PageBanksModel", "wrong", "(I)I"⟩, 14), (⟨"PageBanksModel", "clear", "()V"⟩, 14), (⟨"PageBanksModel", "isParent", "(I)Z"⟩, 14), (⟨"PageBanksModel", "toBeFreed", "()I"⟩, 14), (⟨"PageBanksModel", "isToBeFreed", "(I)Z"⟩, 14), (⟨"PageBanksModel", "placeOfPage", "(II)I"⟩, 14), (⟨"PageBanksModel", "banksUnder", "(I)I"⟩, 14)]
theorem lw_r2 : ∀ q ∈ lw_privs_2, lw_okq q := List.forall_mem_cons.mpr ⟨lw_p16, List.forall_mem_cons.mpr ⟨lw_p17, List.forall_mem_cons.mpr ⟨lw_p18, List.forall_mem_cons.mpr ⟨lw_p19, List.forall_mem_cons.mpr ⟨lw_p20, List.forall_mem_cons.mpr ⟨lw_p21, List.forall_mem_cons.mpr ⟨lw_p22, List.forall_mem_cons.mpr ⟨lw_p23, List.forall_mem_cons.mpr ⟨lw_p24, List.forall_mem_cons.mpr ⟨lw_p25, List.forall_mem_cons.mpr ⟨lw_p26, List.forall_mem_cons.mpr ⟨lw_p27, List.forall_mem_cons.mpr ⟨lw_p28, List.forall_mem_cons.mpr ⟨lw_p29, List.forall_mem_cons.mpr ⟨lw_p30, fun _ h => absurd h List.not_mem_nil⟩⟩⟩⟩⟩⟩⟩⟩⟩⟩⟩⟩⟩⟩⟩
def lw_privs : List (MethodName × Nat) := lw_privs_1 ++ (lw_privs_2)
def lw_tbl : List Cond := k2_sels lw_privs ++ tables_1
theorem lw_privs_ok : ∀ q ∈ lw_privs, lw_okq q := by
  show ∀ q ∈ lw_privs_1 ++ (lw_privs_2), lw_okq q
  exact List.forall_mem_append.mpr ⟨lw_r1, lw_r2⟩
end
section
/-! names of the classes, their fields, the methods; the words that all contracts stand on -/
def RS : String := "PageBanks$Store"
def TS : u_T := fun k => match k with
  | 0 => ("PageBanks$Store", "version", "[I", true)
  | 1 => ("PageBanks$Store", "owners", "[I", true)
  | 2 => ("PageBanks$Store", "run", "[I", true)
  | 3 => ("PageBanks$Store", "words", "[I", true)
  | 4 => ("PageBanks$Store", "order", "[I", true)
  | 5 => ("PageBanks$Store", "spare", "[I", true)
  | 6 => ("PageBanks$Store", "listed", "I", false)
  | _ => ("PageBanks$Store", "runs", "I", false)
def tyS : Nat → FieldType := fun k => match k with
  | 0 => .array .int
  | 1 => .array .int
  | 2 => .array .int
  | 3 => .array .int
  | 4 => .array .int
  | 5 => .array .int
  | 6 => .int
  | _ => .int
theorem nmS : ∀ a, a < 8 → ∀ b, b < 8 → a ≠ b → (TS a).2.1 ≠ (TS b).2.1 := by decide +kernel
theorem tyS_ok : ∀ k, k < 8 → parseFieldDescriptor (TS k).2.2.1 = some (tyS k) := by decide +kernel
def RT : String := "PageBanks$Tree"
def TT : u_T := fun k => match k with
  | 0 => ("PageBanks$Tree", "state", "[I", true)
  | 1 => ("PageBanks$Tree", "parent", "[I", true)
  | 2 => ("PageBanks$Tree", "limits", "[I", true)
  | 3 => ("PageBanks$Tree", "reserved", "[I", true)
  | _ => ("PageBanks$Tree", "use", "[I", true)
def tyT : Nat → FieldType := fun k => match k with
  | 0 => .array .int
  | 1 => .array .int
  | 2 => .array .int
  | 3 => .array .int
  | _ => .array .int
theorem nmT : ∀ a, a < 5 → ∀ b, b < 5 → a ≠ b → (TT a).2.1 ≠ (TT b).2.1 := by decide +kernel
theorem tyT_ok : ∀ k, k < 5 → parseFieldDescriptor (TT k).2.2.1 = some (tyT k) := by decide +kernel
def RB : String := "PageBanks"
def TB : u_T := fun k => match k with
  | 0 => ("PageBanks", "tree", "LPageBanks$Tree;", true)
  | 1 => ("PageBanks", "store", "LPageBanks$Store;", true)
  | _ => ("PageBanks", "lastRefuser", "I", false)
def tyB : Nat → FieldType := fun k => match k with
  | 0 => .object "PageBanks$Tree"
  | 1 => .object "PageBanks$Store"
  | _ => .int
theorem nmB : ∀ a, a < 3 → ∀ b, b < 3 → a ≠ b → (TB a).2.1 ≠ (TB b).2.1 := by decide +kernel
theorem tyB_ok : ∀ k, k < 3 → parseFieldDescriptor (TB k).2.2.1 = some (tyB k) := by decide +kernel
def RM : String := "PageBanksModel"
def TM : u_T := fun k => match k with
  | 0 => ("PageBanksModel", "code", "I", false)
  | 1 => ("PageBanksModel", "owners", "[I", true)
  | 2 => ("PageBanksModel", "versions", "[I", true)
  | 3 => ("PageBanksModel", "runs", "[I", true)
  | 4 => ("PageBanksModel", "stamps", "[I", true)
  | 5 => ("PageBanksModel", "words", "[I", true)
  | 6 => ("PageBanksModel", "runCount", "I", false)
  | 7 => ("PageBanksModel", "stampCount", "I", false)
  | 8 => ("PageBanksModel", "there", "[Z", true)
  | 9 => ("PageBanksModel", "parents", "[I", true)
  | 10 => ("PageBanksModel", "limits", "[I", true)
  | 11 => ("PageBanksModel", "states", "[I", true)
  | 12 => ("PageBanksModel", "reserves", "[I", true)
  | _ => ("PageBanksModel", "refusedBy", "I", false)
def tyM : Nat → FieldType := fun k => match k with
  | 0 => .int
  | 1 => .array .int
  | 2 => .array .int
  | 3 => .array .int
  | 4 => .array .int
  | 5 => .array .int
  | 6 => .int
  | 7 => .int
  | 8 => .array .boolean
  | 9 => .array .int
  | 10 => .array .int
  | 11 => .array .int
  | 12 => .array .int
  | _ => .int
theorem nmM : ∀ a, a < 14 → ∀ b, b < 14 → a ≠ b → (TM a).2.1 ≠ (TM b).2.1 := by decide +kernel
theorem tyM_ok : ∀ k, k < 14 → parseFieldDescriptor (TM k).2.2.1 = some (tyM k) := by decide +kernel
abbrev vwCl : List vw_C := [(RS, TS, 8), (RT, TT, 5), (RB, TB, 3), (RM, TM, 14)]
abbrev xkS : Nat := 0
abbrev xkT : Nat := 1
abbrev xkB : Nat := 2
abbrev xkM : Nat := 3
def xNeg : List Cond := [.not (.castable "java/lang/IndexOutOfBoundsException" "java/lang/IllegalArgumentException"), .not (.castable "java/lang/IndexOutOfBoundsException" "java/lang/IllegalStateException"), .not (.castable "java/lang/IndexOutOfBoundsException" "java/lang/UnsupportedOperationException"), .not (.castable "java/lang/IndexOutOfBoundsException" "java/util/NoSuchElementException"), .not (.castable "java/lang/IllegalArgumentException" "java/lang/IndexOutOfBoundsException"), .not (.castable "java/lang/IllegalArgumentException" "java/lang/IllegalStateException"), .not (.castable "java/lang/IllegalArgumentException" "java/lang/UnsupportedOperationException"), .not (.castable "java/lang/IllegalArgumentException" "java/util/NoSuchElementException"), .not (.castable "java/lang/IllegalStateException" "java/lang/IndexOutOfBoundsException"), .not (.castable "java/lang/IllegalStateException" "java/lang/IllegalArgumentException"), .not (.castable "java/lang/IllegalStateException" "java/lang/UnsupportedOperationException"), .not (.castable "java/lang/IllegalStateException" "java/util/NoSuchElementException"), .not (.castable "java/lang/UnsupportedOperationException" "java/lang/IndexOutOfBoundsException"), .not (.castable "java/lang/UnsupportedOperationException" "java/lang/IllegalArgumentException"), .not (.castable "java/lang/UnsupportedOperationException" "java/lang/IllegalStateException"), .not (.castable "java/lang/UnsupportedOperationException" "java/util/NoSuchElementException"), .not (.castable "java/util/NoSuchElementException" "java/lang/IndexOutOfBoundsException"), .not (.castable "java/util/NoSuchElementException" "java/lang/IllegalArgumentException"), .not (.castable "java/util/NoSuchElementException" "java/lang/IllegalStateException"), .not (.castable "java/util/NoSuchElementException" "java/lang/UnsupportedOperationException")]
def xgb (w : Cond) : Bool := (w.keepsFace && w.onTables) || (match w with | .not (.castable _ _) => true | .arrayClass _ => true | _ => false)
def xTs : List Cond := (lw_tbl ++ xNeg).filter xgb
def xTw : List Cond := [.isRef (.static "java/lang/Throwable" "UNASSIGNED_STACK" "[Ljava/lang/StackTraceElement;"), .isRef (.static "java/lang/Throwable" "SUPPRESSED_SENTINEL" "Ljava/util/List;"), .laysStatic "java/lang/Throwable" "UNASSIGNED_STACK" "[Ljava/lang/StackTraceElement;", .laysStatic "java/lang/Throwable" "SUPPRESSED_SENTINEL" "Ljava/util/List;"]
theorem xT {w : Cond} (i : Nat) (h : lw_tbl[i]? = some w) (hg : xgb w = true) : w ∈ xTs := List.mem_filter.mpr ⟨List.mem_append_left _ (List.mem_of_getElem? h), hg⟩
theorem xTn {w : Cond} (i : Nat) (h : xNeg[i]? = some w) (hg : xgb w = true) : w ∈ xTs := List.mem_filter.mpr ⟨List.mem_append_right _ (List.mem_of_getElem? h), hg⟩
end
section
/-! the machine layer: worlds, contracts of invocations that return or throw -/
abbrev xS : Type := Nat → Nat → Int32
abbrev xWd : Type := Nat × Nat × xS
abbrev xO : Type := Option Value ⊕ String
/-- launch; class numbers and slots; array classes of int, long, boolean; the first address of the world; the script: its address, length, ints -/
abbrev xE : Type := Launch × va_G × (ClassId × ClassId × ClassId) × Nat × (Nat × Nat × (Nat → Int32))
abbrev xl (E : xE) : Launch := E.1
abbrev xD (E : xE) : va_G := E.2.1
abbrev xcI (E : xE) : ClassId := E.2.2.1.1
abbrev xcJ (E : xE) : ClassId := E.2.2.1.2.1
abbrev xcZ (E : xE) : ClassId := E.2.2.1.2.2
abbrev xB (E : xE) : Nat := E.2.2.2.1
abbrev xsb (E : xE) : Nat := E.2.2.2.2.1
abbrev xsL (E : xE) : Nat := E.2.2.2.2.2.1
abbrev xsx (E : xE) : Nat → Int32 := E.2.2.2.2.2.2
/-- a reference field: the o-th that the constructors set -/
def xob (E : xE) (r o k : Nat) : Value := if o < r then .ref (xB E + k) else .null
/-- the entry at a place -/
def xen (E : xE) (r : Nat) (k : Nat) (f : Nat → Int32) : va_E := match k with
  | 0 => .inr (xkB, [xob E r 5 1, xob E r 12 7, .int (f 2)])
  | 1 => .inr (xkT, [xob E r 0 2, xob E r 1 3, xob E r 2 4, xob E r 3 5, xob E r 4 6])
  | 2 => .inl (xcI E, 40, .inl f)
  | 3 => .inl (xcI E, 40, .inl f)
  | 4 => .inl (xcI E, 40, .inl f)
  | 5 => .inl (xcI E, 40, .inl f)
  | 6 => .inl (xcI E, 40, .inl f)
  | 7 => .inr (xkS, [xob E r 6 8, xob E r 7 9, xob E r 8 10, xob E r 9 11, xob E r 10 12, xob E r 11 13, .int (f 6), .int (f 7)])
  | 8 => .inl (xcI E, 192, .inl f)
  | 9 => .inl (xcI E, 192, .inl f)
  | 10 => .inl (xcI E, 192, .inl f)
  | 11 => .inl (xcI E, 768, .inl f)
  | 12 => .inl (xcI E, 192, .inl f)
  | 13 => .inl (xcI E, 192, .inl f)
  | 14 => .inr (xkM, [.int (f 0), xob E r 13 15, xob E r 14 16, xob E r 15 17, xob E r 16 18, xob E r 17 19, .int (f 6), .int (f 7), xob E r 18 20, xob E r 19 21, xob E r 20 22, xob E r 21 23, xob E r 22 24, .int (f 13)])
  | 15 => .inl (xcI E, 192, .inl f)
  | 16 => .inl (xcI E, 192, .inl f)
  | 17 => .inl (xcI E, 192, .inl f)
  | 18 => .inl (xcI E, 192, .inl f)
  | 19 => .inl (xcI E, 768, .inl f)
  | 20 => .inl (xcZ E, 40, .inl f)
  | 21 => .inl (xcI E, 40, .inl f)
  | 22 => .inl (xcI E, 40, .inl f)
  | 23 => .inl (xcI E, 40, .inl f)
  | 24 => .inl (xcI E, 40, .inl f)
  | _ => .inl (xcJ E, 1, .inr (.inl (fun i => (f i).toInt64)))
/-- the heap holds the world: the first w.1 places; while it is being made, nothing lies behind them -/
def xH (E : xE) (w : xWd) (H : Heap) : Prop :=
  (∀ k, k < w.1 → va_at (xD E) vwCl (xB E + k, xen E w.2.1 k (w.2.2 k)) H) ∧ xB E + w.1 ≤ H.size ∧ (w.1 < 26 → H.size = xB E + w.1)
/-- the words on the statics of Throwable hold wherever the old cells do -/
def xThr (E : xE) (U : State) : Prop := ∀ V : State, U.vm.Alike V.vm → (∀ q, q < xB E → V.heap[q]? = U.heap[q]?) → ∀ (A : Array Value), ∀ w ∈ xTw, w.before A V = true
def xCx (E : xE) (U : State) : Prop :=
  (xl E).stackTraces = false ∧ va_K (xD E) vwCl [(xcI E, .int), (xcJ E, .long), (xcZ E, .boolean)] U ∧ xB E ≤ U.heap.size ∧ (va_X (xsb E) (xsL E) (xsx E) U U.heap ∧ xsb E < xB E) ∧ xThr E U
theorem xThr.moved {E : xE} {U V : State} (h : xThr E U) (hvm : U.vm.Alike V.vm) (hq : ∀ q, q < xB E → V.heap[q]? = U.heap[q]?) : xThr E V :=
  fun Z h1 h2 => h Z (hvm.trans h1) (fun q hk => (h2 q hk).trans (hq q hk))
theorem xCx.moved {E : xE} {U V : State} (h : xCx E U) (hvm : U.vm.Alike V.vm) (hs : U.heap.size ≤ V.heap.size) (hq : ∀ q, q < xB E → V.heap[q]? = U.heap[q]?) : xCx E V :=
  ⟨h.1, h.2.1.moved hvm, Nat.le_trans h.2.2.1 hs, ⟨(h.2.2.2.1.1.moved hvm).kept (hq _ h.2.2.2.1.2), h.2.2.2.1.2⟩, h.2.2.2.2.moved hvm hq⟩
/-- the words of the room -/
def xlo (d : Nat) : Nat := 28 * d + 90
def xrm (d kc ks : Nat) : Room := { frames := d, cells := kc + 1, slots := ks + 6, locals := xlo d }
/-- a thrown object -/
def xEx (E : xE) (C : String) (a : Nat) (vm : Vm) (H : Heap) : Prop := ∃ cell : Cell, H[a]? = some cell ∧ cell.vm.isStatics = false ∧ vm.findClass C = some cell.cls ∧ xB E ≤ a
/-- what an invocation leaves -/
def xFr (E : xE) (s t : State) (mc ms : Nat) : Prop := s.WarmedH t.vm ∧ (∀ q, q < xB E → t.heap[q]? = s.heap[q]?) ∧ ∃ L : List Loc, s.sameButNew ({ t with vm := s.vm } : State) L mc ms ∧ ∀ q ∈ L, xB E ≤ q.base
def xQ (E : xE) (Post : xO → xWd → Prop) (mc ms : Nat) (s : State) (o : Outcome) (t : State) : Prop := match o with
  | .returned v => (∃ w, Post (.inl v) w ∧ xH E w t.heap) ∧ xFr E s t mc ms
  | .threw a => (∃ w C, Post (.inr C) w ∧ xH E w t.heap ∧ xEx E C a t.vm t.heap) ∧ xFr E s t (mc + 1) (ms + 6)
def xMQ (E : xE) (below : List Frame) (Post : xO → xWd → Prop) (mc ms : Nat) (s : State) : State → Prop := fun t => ∃ o, t.status = .running ∧ Ended t below o ∧ xQ E Post mc ms s o t
/-- a method: its name, code, number of locals, what it returns, its handlers (from, to, target, type) -/
abbrev xMI : Type := MethodName × ByteArray × Nat × Option FieldType × List (Nat × Nat × Nat × Nat)
abbrev xy (mi : xMI) : MethodName := mi.1
abbrev xcc (mi : xMI) : ByteArray := mi.2.1
abbrev xnL (mi : xMI) : Nat := mi.2.2.1
abbrev xrt (mi : xMI) : Option FieldType := mi.2.2.2.1
abbrev xhs (mi : xMI) : List (Nat × Nat × Nat × Nat) := mi.2.2.2.2
/-- the contract of an invocation with these arguments in this world -/
def XC (E : xE) (mi : xMI) (d kc ks : Nat) (as : List Value) (w : xWd) (Post : xO → xWd → Prop) : Prop :=
  MetFree (xl E) (xy mi) (headSpec xTs (xrm d kc ks)) (fun a U => a = as.toArray ∧ xH E w U.heap ∧ xCx E U) (fun _ _ _ _ _ => True) (fun _ st o t => xQ E Post kc ks st o t)
/-- what a body's walk knows -/
def xB0 (E : xE) (mi : xMI) (d : Nat) (p : Program) (R : Room) (s : State) (m : MethodId) (args : Array Value) (meth : Method) (c : Code) : Prop :=
  p.tables.exec = Jvm.exec ∧ c.code = xcc mi ∧ c.maxLocals = xnL mi ∧ s.vm.findClass (xy mi).cls = some m.cls ∧ (∀ w ∈ xTs, w.before args s = true) ∧ meth.sig.returnType = xrt mi ∧ meth.locks = false ∧ meth.name = (xy mi).name ∧
  (c.exceptionTable.toList.map fun x => (x.startPc, x.endPc, x.handlerPc, x.catchType)) = xhs mi ∧ xCx E s ∧ d ≤ R.frames ∧ xlo d ≤ R.locals
/-- the locals, by their numbers; all of one word -/
def xL (ls : Array Slot) (n : Nat) (L : List Value) : Prop := ls.size = n ∧ lv_wf ls ∧ (∀ v ∈ L, v.category = 1) ∧ ∀ (i : Nat) (v : Value), L[i]? = some v → ls[i]? = some (.val v)
/-- from this point of the body on the invocation ends so -/
def XR (E : xE) (mi : xMI) (d kc ks : Nat) (Post : xO → xWd → Prop) (pc : Nat) (L st : List Value) (w : xWd) : Prop :=
  ∀ (p : Program) (e : Env) (R : Room) (s : State) (m : MethodId) (args : Array Value) (below : List Frame) (meth : Method) (c : Code), xB0 E mi d p R s m args meth c →
  ∀ (H : Heap) (locs : List Loc) (cells slots : Nat) (ls : Array Slot), xL ls (xnL mi) L → xH E w H → va_S (fun q => xB E ≤ q) s.heap H locs → cells + kc + 1 ≤ R.cells → slots + ks + 6 ≤ R.slots →
    W p (xl E) e R s m args below meth c H locs cells slots (xMQ E below Post (cells + kc) (slots + ks) s) (F0 m pc ls st)
/-- .. and from this point on, with an exception thrown there -/
def xWT (p : Program) (l : Launch) (e : Env) (R : Room) (s : State) (m : MethodId) (args : Array Value) (below : List Frame) (meth : Method) (c : Code) (H : Heap) (locs : List Loc) (cells slots : Nat) (Q : State → Prop) (g : JFrame) (x : Addr) : Prop :=
  ∀ T : State, T.heap = H → Stand p l e R s m args below meth c T locs cells slots → ∃ t, Steps p.tables e below ((T.setTop g).pushFrame (.throwing x)) t ∧ Q t
def XT (E : xE) (mi : xMI) (d kc ks : Nat) (Post : xO → xWd → Prop) (pc : Nat) (L : List Value) (C : String) (w : xWd) : Prop :=
  ∀ (p : Program) (e : Env) (R : Room) (s : State) (m : MethodId) (args : Array Value) (below : List Frame) (meth : Method) (c : Code), xB0 E mi d p R s m args meth c →
  ∀ (H : Heap) (locs : List Loc) (cells slots : Nat) (ls : Array Slot) (st : List Value) (x : Addr), xL ls (xnL mi) L → xH E w H → xEx E C x s.vm H → va_S (fun q => xB E ≤ q) s.heap H locs → cells + kc ≤ R.cells → slots + ks ≤ R.slots →
    xWT p (xl E) e R s m args below meth c H locs cells slots (xMQ E below Post (cells + kc - 1) (slots + ks - 6) s) (F0 m pc ls st) x
end
section
/-! the locals -/
def xst : List Value → Nat → Value → List Value
  | [], 0, v => [v]
  | [], _ + 1, _ => []
  | _ :: r, 0, v => v :: r
  | a :: r, i + 1, v => a :: xst r i v
theorem xst_get (v : Value) : ∀ (L : List Value) (i j : Nat) (u : Value), (xst L i v)[j]? = some u → (j = i ∧ u = v) ∨ (j ≠ i ∧ L[j]? = some u)
  | [], 0, 0, u, h => by simp [xst] at h; exact Or.inl ⟨rfl, h.symm⟩
  | [], 0, j + 1, u, h => by simp [xst] at h
  | [], i + 1, j, u, h => by simp [xst] at h
  | a :: r, 0, 0, u, h => by simp [xst] at h; exact Or.inl ⟨rfl, h.symm⟩
  | a :: r, 0, j + 1, u, h => by simp [xst] at h; exact Or.inr ⟨by omega, by simpa using h⟩
  | a :: r, i + 1, 0, u, h => by simp [xst] at h; exact Or.inr ⟨by omega, by simpa using h⟩
  | a :: r, i + 1, j + 1, u, h => by
    simp only [xst, List.getElem?_cons_succ] at h
    rcases xst_get v r i j u h with ⟨h1, h2⟩ | ⟨h1, h2⟩
    · exact Or.inl ⟨by omega, h2⟩
    · exact Or.inr ⟨by omega, by simpa using h2⟩
def xz : Nat → List Value → List (Nat × Value)
  | _, [] => []
  | k, v :: r => (k, v) :: xz (k + 1) r
theorem xz_get : ∀ (L : List Value) (k i : Nat) (v : Value), L[i]? = some v → (xz k L)[i]? = some (k + i, v)
  | [], k, i, v, h => by simp at h
  | a :: r, k, 0, v, h => by simp at h; simp [xz, h]
  | a :: r, k, i + 1, v, h => by
    have := xz_get r (k + 1) i v (by simpa using h)
    simp only [xz, List.getElem?_cons_succ, this]
    congr 2; omega
theorem xz_mem : ∀ (L : List Value) (k : Nat) (q : Nat × Value), q ∈ xz k L → ∃ i, q.1 = k + i ∧ L[i]? = some q.2
  | [], k, q, h => by simp [xz] at h
  | a :: r, k, q, h => by
    simp only [xz, List.mem_cons] at h
    rcases h with rfl | h
    · exact ⟨0, rfl, rfl⟩
    · obtain ⟨i, h1, h2⟩ := xz_mem r (k + 1) q h
      exact ⟨i + 1, by omega, by simpa using h2⟩
theorem xL.has {ls : Array Slot} {n : Nat} {L : List Value} (h : xL ls n L) : lv_has ls n (xz 0 L) :=
  ⟨h.1, h.2.1, fun q hq => by obtain ⟨i, h1, h2⟩ := xz_mem L 0 q hq; rw [h1, Nat.zero_add]; exact h.2.2.2 i _ h2⟩
theorem xL.stored {ls ls' : Array Slot} {n i : Nat} {L : List Value} {v : Value} (h : xL ls n L) (hv : v.category = 1) (h' : lv_has ls' n ((i, v) :: (xz 0 L).filter (fun q => !(q.1 == i) && !(q.1 + 1 == i && q.2.category == 2)))) : xL ls' n (xst L i v) := by
  refine ⟨h'.1, h'.2.1, fun u hu => ?_, fun j u hj => ?_⟩
  · obtain ⟨j, hj⟩ := List.getElem?_of_mem hu
    rcases xst_get v L i j u hj with ⟨-, rfl⟩ | ⟨-, h2⟩
    · exact hv
    · exact h.2.2.1 u (List.mem_of_getElem? h2)
  · rcases xst_get v L i j u hj with ⟨rfl, rfl⟩ | ⟨h1, h2⟩
    · exact h'.2.2 (j, u) List.mem_cons_self
    · refine h'.2.2 (j, u) (List.mem_cons_of_mem _ (List.mem_filter.mpr ⟨List.mem_of_getElem? (by simpa using xz_get L 0 j u h2), ?_⟩))
      have hc := h.2.2.1 u (List.mem_of_getElem? h2)
      simp [h1, hc]
theorem xL.entry {vs : List Value} {n : Nat} (hc : ∀ v ∈ vs, v.category = 1) (h : vs.length ≤ n) : xL ((lg_sl vs ++ List.replicate (n - (lg_sl vs).length) Slot.unset).toArray) n vs := by
  have e1 : ∀ vs : List Value, (∀ v ∈ vs, v.category = 1) → (lg_sl vs).length = vs.length := by
    intro vs
    induction vs with
    | nil => intro _; rfl
    | cons a r ih =>
      intro h
      have h1 := h a List.mem_cons_self
      have h2 := ih fun v hv => h v (List.mem_cons_of_mem _ hv)
      simp [lg_sl, h1] at h2 ⊢
      omega
  have e2 : ∀ (vs : List Value) (k : Nat), (∀ v ∈ vs, v.category = 1) → lv_args k vs = xz k vs := by
    intro vs
    induction vs with
    | nil => intro k _; rfl
    | cons a r ih =>
      intro k h
      have h1 := h a List.mem_cons_self
      simp [lv_args, xz, h1, ih (k + 1) fun v hv => h v (List.mem_cons_of_mem _ hv)]
  have h2 := lv_entry vs (n := n) (by rw [e1 vs hc]; exact h)
  rw [e2 vs 0 hc] at h2
  refine ⟨h2.1, h2.2.1, hc, fun i v hi => ?_⟩
  have := h2.2.2 (0 + i, v) (List.mem_of_getElem? (xz_get vs 0 i v hi))
  simpa using this
theorem xL.sub {ls : Array Slot} {n : Nat} {L L' : List Value} (h : xL ls n L) (hs : ∀ (i : Nat) (v : Value), L'[i]? = some v → L[i]? = some v) : xL ls n L' :=
  ⟨h.1, h.2.1, fun v hv => by obtain ⟨j, hj⟩ := List.getElem?_of_mem hv; exact h.2.2.1 v (List.mem_of_getElem? (hs j v hj)), fun i v hi => h.2.2.2 i v (hs i v hi)⟩
section XRules
variable {E : xE} {mi : xMI} {d kc ks pc : Nat} {Post : xO → xWd → Prop} {L st : List Value} {w : xWd}
theorem XR.lift {pc2 : Nat} {st2 : List Value} (h : ∀ {p : Program} {l : Launch} {e : Env} {R : Room} {s : State} {m : MethodId} {args : Array Value} {below : List Frame} {meth : Method} {c : Code} {H : Heap} {locs : List Loc} {cells slots : Nat} {Q : State → Prop} {ls : Array Slot}, p.tables.exec = Jvm.exec → c.code = xcc mi → xL ls (xnL mi) L → W p l e R s m args below meth c H locs cells slots Q (F0 m pc2 ls st2) → W p l e R s m args below meth c H locs cells slots Q (F0 m pc ls st))
    (k : XR E mi d kc ks Post pc2 L st2 w) : XR E mi d kc ks Post pc L st w :=
  fun p e R s m args below meth c hB H locs cells slots ls hl hH hS h1 h2 => h hB.1 hB.2.1 hl (k p e R s m args below meth c hB H locs cells slots ls hl hH hS h1 h2)
theorem XR.iconst {n : Int} {v : Int32} (hd : decode (xcc mi) pc = .ok (.iconst n, 1)) (hv : Int32.ofInt n = v) (k : XR E mi d kc ks Post (pc + 1) L (.int v :: st) w) : XR E mi d kc ks Post pc L st w :=
  XR.lift (fun hx hb _ kk => lv_iconst hx hb hd hv kk) k
theorem XR.bipush {n : Int} {v : Int32} (hd : decode (xcc mi) pc = .ok (.bipush n, 2)) (hv : (Int8.ofInt n).toInt32 = v) (k : XR E mi d kc ks Post (pc + 2) L (.int v :: st) w) : XR E mi d kc ks Post pc L st w :=
  XR.lift (fun hx hb _ kk => lv_bipush hx hb hd hv kk) k
theorem XR.sipush {n : Int} {v : Int32} (hd : decode (xcc mi) pc = .ok (.sipush n, 3)) (hv : (Int16.ofInt n).toInt32 = v) (k : XR E mi d kc ks Post (pc + 3) L (.int v :: st) w) : XR E mi d kc ks Post pc L st w :=
  XR.lift (fun hx hb _ kk => lv_sipush hx hb hd hv kk) k
theorem XR.lconst {n : Fin 2} {v : Int64} (hd : decode (xcc mi) pc = .ok (.lconst n, 1)) (hv : Int64.ofNat (n : Nat) = v) (k : XR E mi d kc ks Post (pc + 1) L (.long v :: st) w) : XR E mi d kc ks Post pc L st w :=
  XR.lift (fun hx hb _ kk => lv_lconst hx hb hd hv kk) k
theorem XR.iload_n {j : Fin 4} {x : Int32} (hd : decode (xcc mi) pc = .ok (.iload_n j, 1)) (hl : L[(j : Nat)]? = some (.int x)) (k : XR E mi d kc ks Post (pc + 1) L (.int x :: st) w) : XR E mi d kc ks Post pc L st w :=
  XR.lift (fun hx hb h kk => lv_iload_n hx hb hd rfl (h.2.2.2 _ _ hl) kk) k
theorem XR.iload {i : Nat} {x : Int32} (hd : decode (xcc mi) pc = .ok (.iload i, 2)) (hl : L[i]? = some (.int x)) (k : XR E mi d kc ks Post (pc + 2) L (.int x :: st) w) : XR E mi d kc ks Post pc L st w :=
  XR.lift (fun hx hb h kk => lv_iload hx hb hd (h.2.2.2 _ _ hl) kk) k
theorem XR.aload_n {j : Fin 4} {x : Nat} (hd : decode (xcc mi) pc = .ok (.aload_n j, 1)) (hl : L[(j : Nat)]? = some (.ref x)) (k : XR E mi d kc ks Post (pc + 1) L (.ref x :: st) w) : XR E mi d kc ks Post pc L st w :=
  XR.lift (fun hx hb h kk => lv_aload_n hx hb hd rfl (h.2.2.2 _ _ hl) kk) k
theorem XR.aload {i x : Nat} (hd : decode (xcc mi) pc = .ok (.aload i, 2)) (hl : L[i]? = some (.ref x)) (k : XR E mi d kc ks Post (pc + 2) L (.ref x :: st) w) : XR E mi d kc ks Post pc L st w :=
  XR.lift (fun hx hb h kk => lv_aload hx hb hd (h.2.2.2 _ _ hl) kk) k
theorem XR.istore_n {j : Fin 4} {x : Int32} {L' : List Value} (hd : decode (xcc mi) pc = .ok (.istore_n j, 1)) (hj : (j : Nat) < xnL mi) (hl : xst L (j : Nat) (.int x) = L') (k : XR E mi d kc ks Post (pc + 1) L' st w) : XR E mi d kc ks Post pc L (.int x :: st) w := by
  subst hl
  intro p e R s m args below meth c hB H locs cells slots ls hl hH hS h1 h2
  exact lv_istore_n hB.1 hB.2.1 hd rfl hl.has hj rfl fun ls' h' => k p e R s m args below meth c hB H locs cells slots ls' (hl.stored rfl h') hH hS h1 h2
theorem XR.istore {i : Nat} {x : Int32} {L' : List Value} (hd : decode (xcc mi) pc = .ok (.istore i, 2)) (hj : i < xnL mi) (hl : xst L i (.int x) = L') (k : XR E mi d kc ks Post (pc + 2) L' st w) : XR E mi d kc ks Post pc L (.int x :: st) w := by
  subst hl
  intro p e R s m args below meth c hB H locs cells slots ls hl hH hS h1 h2
  exact lv_istore hB.1 hB.2.1 hd hl.has hj rfl fun ls' h' => k p e R s m args below meth c hB H locs cells slots ls' (hl.stored rfl h') hH hS h1 h2
theorem XR.astore_n {j : Fin 4} {x : Nat} {L' : List Value} (hd : decode (xcc mi) pc = .ok (.astore_n j, 1)) (hj : (j : Nat) < xnL mi) (hl : xst L (j : Nat) (.ref x) = L') (k : XR E mi d kc ks Post (pc + 1) L' st w) : XR E mi d kc ks Post pc L (.ref x :: st) w := by
  subst hl
  intro p e R s m args below meth c hB H locs cells slots ls hl hH hS h1 h2
  exact lv_astore_n hB.1 hB.2.1 hd rfl hl.has hj rfl fun ls' h' => k p e R s m args below meth c hB H locs cells slots ls' (hl.stored rfl h') hH hS h1 h2
theorem XR.astore {i x : Nat} {L' : List Value} (hd : decode (xcc mi) pc = .ok (.astore i, 2)) (hj : i < xnL mi) (hl : xst L i (.ref x) = L') (k : XR E mi d kc ks Post (pc + 2) L' st w) : XR E mi d kc ks Post pc L (.ref x :: st) w := by
  subst hl
  intro p e R s m args below meth c hB H locs cells slots ls hl hH hS h1 h2
  exact lv_astore hB.1 hB.2.1 hd hl.has hj rfl fun ls' h' => k p e R s m args below meth c hB H locs cells slots ls' (hl.stored rfl h') hH hS h1 h2
theorem XR.iinc {i : Nat} {n : Int} {x v : Int32} {L' : List Value} (hd : decode (xcc mi) pc = .ok (.iinc i n, 3)) (hi : L[i]? = some (.int x)) (hv : x + Int32.ofInt n = v) (hj : i < xnL mi) (hl : xst L i (.int v) = L') (k : XR E mi d kc ks Post (pc + 3) L' st w) : XR E mi d kc ks Post pc L st w := by
  subst hl
  intro p e R s m args below meth c hB H locs cells slots ls hl hH hS h1 h2
  exact lv_iinc hB.1 hB.2.1 hd hl.has (by simpa using xz_get L 0 i _ hi) hv hj rfl fun ls' h' => k p e R s m args below meth c hB H locs cells slots ls' (hl.stored rfl h') hH hS h1 h2
theorem XR.iadd {x y : Int32} (hd : decode (xcc mi) pc = .ok (.iadd, 1)) (k : XR E mi d kc ks Post (pc + 1) L (.int (x + y) :: st) w) : XR E mi d kc ks Post pc L (.int y :: .int x :: st) w := XR.lift (fun hx hb _ kk => lv_iadd hx hb hd kk) k
theorem XR.isub {x y : Int32} (hd : decode (xcc mi) pc = .ok (.isub, 1)) (k : XR E mi d kc ks Post (pc + 1) L (.int (x - y) :: st) w) : XR E mi d kc ks Post pc L (.int y :: .int x :: st) w := XR.lift (fun hx hb _ kk => lv_isub hx hb hd kk) k
theorem XR.imul {x y : Int32} (hd : decode (xcc mi) pc = .ok (.imul, 1)) (k : XR E mi d kc ks Post (pc + 1) L (.int (x * y) :: st) w) : XR E mi d kc ks Post pc L (.int y :: .int x :: st) w := XR.lift (fun hx hb _ kk => lv_imul hx hb hd kk) k
theorem XR.iand {x y : Int32} (hd : decode (xcc mi) pc = .ok (.iand, 1)) (k : XR E mi d kc ks Post (pc + 1) L (.int (x &&& y) :: st) w) : XR E mi d kc ks Post pc L (.int y :: .int x :: st) w := XR.lift (fun hx hb _ kk => lv_iand hx hb hd kk) k
theorem XR.ior {x y : Int32} (hd : decode (xcc mi) pc = .ok (.ior, 1)) (k : XR E mi d kc ks Post (pc + 1) L (.int (x ||| y) :: st) w) : XR E mi d kc ks Post pc L (.int y :: .int x :: st) w := XR.lift (fun hx hb _ kk => lv_ior hx hb hd kk) k
theorem XR.ixor {x y : Int32} (hd : decode (xcc mi) pc = .ok (.ixor, 1)) (k : XR E mi d kc ks Post (pc + 1) L (.int (x ^^^ y) :: st) w) : XR E mi d kc ks Post pc L (.int y :: .int x :: st) w := XR.lift (fun hx hb _ kk => lv_ixor hx hb hd kk) k
theorem XR.ishr {x y : Int32} (hd : decode (xcc mi) pc = .ok (.ishr, 1)) (k : XR E mi d kc ks Post (pc + 1) L (.int (x >>> (y &&& 31)) :: st) w) : XR E mi d kc ks Post pc L (.int y :: .int x :: st) w := XR.lift (fun hx hb _ kk => lv_ishr hx hb hd kk) k
theorem XR.idiv {x y : Int32} (hd : decode (xcc mi) pc = .ok (.idiv, 1)) (hy : ¬ y = 0) (k : XR E mi d kc ks Post (pc + 1) L (.int (x / y) :: st) w) : XR E mi d kc ks Post pc L (.int y :: .int x :: st) w := XR.lift (fun hx hb _ kk => lv_idiv hx hb hd hy kk) k
theorem XR.irem {x y : Int32} (hd : decode (xcc mi) pc = .ok (.irem, 1)) (hy : ¬ y = 0) (k : XR E mi d kc ks Post (pc + 1) L (.int (x - x / y * y) :: st) w) : XR E mi d kc ks Post pc L (.int y :: .int x :: st) w := XR.lift (fun hx hb _ kk => lv_irem hx hb hd hy kk) k
theorem XR.ineg {x : Int32} (hd : decode (xcc mi) pc = .ok (.ineg, 1)) (k : XR E mi d kc ks Post (pc + 1) L (.int (-x) :: st) w) : XR E mi d kc ks Post pc L (.int x :: st) w := XR.lift (fun hx hb _ kk => lv_ineg hx hb hd kk) k
theorem XR.i2l {x : Int32} (hd : decode (xcc mi) pc = .ok (.i2l, 1)) (k : XR E mi d kc ks Post (pc + 1) L (.long x.toInt64 :: st) w) : XR E mi d kc ks Post pc L (.int x :: st) w := XR.lift (fun hx hb _ kk => lv_i2l hx hb hd rfl kk) k
theorem XR.lcmp {x y : Int64} (hd : decode (xcc mi) pc = .ok (.lcmp, 1)) (k : XR E mi d kc ks Post (pc + 1) L (.int (lg_cmp x y) :: st) w) : XR E mi d kc ks Post pc L (.long y :: .long x :: st) w := XR.lift (fun hx hb _ kk => W.lcmp hx hb hd kk) k
theorem XR.dup {v : Value} (hd : decode (xcc mi) pc = .ok (.dup, 1)) (hv : v.category = 1) (k : XR E mi d kc ks Post (pc + 1) L (v :: v :: st) w) : XR E mi d kc ks Post pc L (v :: st) w := XR.lift (fun hx hb _ kk => lv_dup hx hb hd hv kk) k
theorem XR.dup2 {u v : Value} (hd : decode (xcc mi) pc = .ok (.dup2, 1)) (hu : u.category = 1) (hv : v.category = 1) (k : XR E mi d kc ks Post (pc + 1) L (u :: v :: u :: v :: st) w) : XR E mi d kc ks Post pc L (u :: v :: st) w := XR.lift (fun hx hb _ kk => lv_dup2_11 hx hb hd hu hv kk) k
theorem XR.pop {v : Value} (hd : decode (xcc mi) pc = .ok (.pop, 1)) (hv : v.category = 1) (k : XR E mi d kc ks Post (pc + 1) L st w) : XR E mi d kc ks Post pc L (v :: st) w := XR.lift (fun hx hb _ kk => lv_pop hx hb hd hv kk) k
theorem XR.goto {off : Int} {tgt : Nat} (hd : decode (xcc mi) pc = .ok (.goto off, 3)) (ht : (pc : Int) + off = (tgt : Int)) (k : XR E mi d kc ks Post tgt L st w) : XR E mi d kc ks Post pc L st w := XR.lift (fun hx hb _ kk => lv_goto hx hb hd ht kk) k
theorem XR.if_eq {x : Int32} {off : Int} {tgt : Nat} (hd : decode (xcc mi) pc = .ok (.ifCond .eq off, 3)) (ht : (pc : Int) + off = (tgt : Int)) (kt : x = 0 → XR E mi d kc ks Post tgt L st w) (kf : ¬ x = 0 → XR E mi d kc ks Post (pc + 3) L st w) : XR E mi d kc ks Post pc L (.int x :: st) w :=
  fun p e R s m args below meth c hB H locs cells slots ls hl hH hS h1 h2 => lv_if_eq hB.1 hB.2.1 hd ht (fun q => kt q p e R s m args below meth c hB H locs cells slots ls hl hH hS h1 h2) (fun q => kf q p e R s m args below meth c hB H locs cells slots ls hl hH hS h1 h2)
theorem XR.icmp_eq {x y : Int32} {off : Int} {tgt : Nat} (hd : decode (xcc mi) pc = .ok (.if_icmp .eq off, 3)) (ht : (pc : Int) + off = (tgt : Int)) (kt : x = y → XR E mi d kc ks Post tgt L st w) (kf : ¬ x = y → XR E mi d kc ks Post (pc + 3) L st w) : XR E mi d kc ks Post pc L (.int y :: .int x :: st) w :=
  fun p e R s m args below meth c hB H locs cells slots ls hl hH hS h1 h2 => lv_icmp_eq hB.1 hB.2.1 hd ht (fun q => kt q p e R s m args below meth c hB H locs cells slots ls hl hH hS h1 h2) (fun q => kf q p e R s m args below meth c hB H locs cells slots ls hl hH hS h1 h2)
theorem XR.if_ne {x : Int32} {off : Int} {tgt : Nat} (hd : decode (xcc mi) pc = .ok (.ifCond .ne off, 3)) (ht : (pc : Int) + off = (tgt : Int)) (kt : ¬ x = 0 → XR E mi d kc ks Post tgt L st w) (kf : x = 0 → XR E mi d kc ks Post (pc + 3) L st w) : XR E mi d kc ks Post pc L (.int x :: st) w :=
  fun p e R s m args below meth c hB H locs cells slots ls hl hH hS h1 h2 => lv_if_ne hB.1 hB.2.1 hd ht (fun q => kt q p e R s m args below meth c hB H locs cells slots ls hl hH hS h1 h2) (fun q => kf q p e R s m args below meth c hB H locs cells slots ls hl hH hS h1 h2)
theorem XR.icmp_ne {x y : Int32} {off : Int} {tgt : Nat} (hd : decode (xcc mi) pc = .ok (.if_icmp .ne off, 3)) (ht : (pc : Int) + off = (tgt : Int)) (kt : ¬ x = y → XR E mi d kc ks Post tgt L st w) (kf : x = y → XR E mi d kc ks Post (pc + 3) L st w) : XR E mi d kc ks Post pc L (.int y :: .int x :: st) w :=
  fun p e R s m args below meth c hB H locs cells slots ls hl hH hS h1 h2 => lv_icmp_ne hB.1 hB.2.1 hd ht (fun q => kt q p e R s m args below meth c hB H locs cells slots ls hl hH hS h1 h2) (fun q => kf q p e R s m args below meth c hB H locs cells slots ls hl hH hS h1 h2)
theorem XR.if_lt {x : Int32} {off : Int} {tgt : Nat} (hd : decode (xcc mi) pc = .ok (.ifCond .lt off, 3)) (ht : (pc : Int) + off = (tgt : Int)) (kt : x < 0 → XR E mi d kc ks Post tgt L st w) (kf : ¬ x < 0 → XR E mi d kc ks Post (pc + 3) L st w) : XR E mi d kc ks Post pc L (.int x :: st) w :=
  fun p e R s m args below meth c hB H locs cells slots ls hl hH hS h1 h2 => lv_if_lt hB.1 hB.2.1 hd ht (fun q => kt q p e R s m args below meth c hB H locs cells slots ls hl hH hS h1 h2) (fun q => kf q p e R s m args below meth c hB H locs cells slots ls hl hH hS h1 h2)
theorem XR.icmp_lt {x y : Int32} {off : Int} {tgt : Nat} (hd : decode (xcc mi) pc = .ok (.if_icmp .lt off, 3)) (ht : (pc : Int) + off = (tgt : Int)) (kt : x < y → XR E mi d kc ks Post tgt L st w) (kf : ¬ x < y → XR E mi d kc ks Post (pc + 3) L st w) : XR E mi d kc ks Post pc L (.int y :: .int x :: st) w :=
  fun p e R s m args below meth c hB H locs cells slots ls hl hH hS h1 h2 => lv_icmp_lt hB.1 hB.2.1 hd ht (fun q => kt q p e R s m args below meth c hB H locs cells slots ls hl hH hS h1 h2) (fun q => kf q p e R s m args below meth c hB H locs cells slots ls hl hH hS h1 h2)
theorem XR.if_ge {x : Int32} {off : Int} {tgt : Nat} (hd : decode (xcc mi) pc = .ok (.ifCond .ge off, 3)) (ht : (pc : Int) + off = (tgt : Int)) (kt : 0 ≤ x → XR E mi d kc ks Post tgt L st w) (kf : ¬ 0 ≤ x → XR E mi d kc ks Post (pc + 3) L st w) : XR E mi d kc ks Post pc L (.int x :: st) w :=
  fun p e R s m args below meth c hB H locs cells slots ls hl hH hS h1 h2 => lv_if_ge hB.1 hB.2.1 hd ht (fun q => kt q p e R s m args below meth c hB H locs cells slots ls hl hH hS h1 h2) (fun q => kf q p e R s m args below meth c hB H locs cells slots ls hl hH hS h1 h2)
theorem XR.icmp_ge {x y : Int32} {off : Int} {tgt : Nat} (hd : decode (xcc mi) pc = .ok (.if_icmp .ge off, 3)) (ht : (pc : Int) + off = (tgt : Int)) (kt : y ≤ x → XR E mi d kc ks Post tgt L st w) (kf : ¬ y ≤ x → XR E mi d kc ks Post (pc + 3) L st w) : XR E mi d kc ks Post pc L (.int y :: .int x :: st) w :=
  fun p e R s m args below meth c hB H locs cells slots ls hl hH hS h1 h2 => lv_icmp_ge hB.1 hB.2.1 hd ht (fun q => kt q p e R s m args below meth c hB H locs cells slots ls hl hH hS h1 h2) (fun q => kf q p e R s m args below meth c hB H locs cells slots ls hl hH hS h1 h2)
theorem XR.if_gt {x : Int32} {off : Int} {tgt : Nat} (hd : decode (xcc mi) pc = .ok (.ifCond .gt off, 3)) (ht : (pc : Int) + off = (tgt : Int)) (kt : 0 < x → XR E mi d kc ks Post tgt L st w) (kf : ¬ 0 < x → XR E mi d kc ks Post (pc + 3) L st w) : XR E mi d kc ks Post pc L (.int x :: st) w :=
  fun p e R s m args below meth c hB H locs cells slots ls hl hH hS h1 h2 => lv_if_gt hB.1 hB.2.1 hd ht (fun q => kt q p e R s m args below meth c hB H locs cells slots ls hl hH hS h1 h2) (fun q => kf q p e R s m args below meth c hB H locs cells slots ls hl hH hS h1 h2)
theorem XR.icmp_gt {x y : Int32} {off : Int} {tgt : Nat} (hd : decode (xcc mi) pc = .ok (.if_icmp .gt off, 3)) (ht : (pc : Int) + off = (tgt : Int)) (kt : y < x → XR E mi d kc ks Post tgt L st w) (kf : ¬ y < x → XR E mi d kc ks Post (pc + 3) L st w) : XR E mi d kc ks Post pc L (.int y :: .int x :: st) w :=
  fun p e R s m args below meth c hB H locs cells slots ls hl hH hS h1 h2 => lv_icmp_gt hB.1 hB.2.1 hd ht (fun q => kt q p e R s m args below meth c hB H locs cells slots ls hl hH hS h1 h2) (fun q => kf q p e R s m args below meth c hB H locs cells slots ls hl hH hS h1 h2)
theorem XR.if_le {x : Int32} {off : Int} {tgt : Nat} (hd : decode (xcc mi) pc = .ok (.ifCond .le off, 3)) (ht : (pc : Int) + off = (tgt : Int)) (kt : x ≤ 0 → XR E mi d kc ks Post tgt L st w) (kf : ¬ x ≤ 0 → XR E mi d kc ks Post (pc + 3) L st w) : XR E mi d kc ks Post pc L (.int x :: st) w :=
  fun p e R s m args below meth c hB H locs cells slots ls hl hH hS h1 h2 => lv_if_le hB.1 hB.2.1 hd ht (fun q => kt q p e R s m args below meth c hB H locs cells slots ls hl hH hS h1 h2) (fun q => kf q p e R s m args below meth c hB H locs cells slots ls hl hH hS h1 h2)
theorem XR.icmp_le {x y : Int32} {off : Int} {tgt : Nat} (hd : decode (xcc mi) pc = .ok (.if_icmp .le off, 3)) (ht : (pc : Int) + off = (tgt : Int)) (kt : x ≤ y → XR E mi d kc ks Post tgt L st w) (kf : ¬ x ≤ y → XR E mi d kc ks Post (pc + 3) L st w) : XR E mi d kc ks Post pc L (.int y :: .int x :: st) w :=
  fun p e R s m args below meth c hB H locs cells slots ls hl hH hS h1 h2 => lv_icmp_le hB.1 hB.2.1 hd ht (fun q => kt q p e R s m args below meth c hB H locs cells slots ls hl hH hS h1 h2) (fun q => kf q p e R s m args below meth c hB H locs cells slots ls hl hH hS h1 h2)
theorem XR.tableOut {dflt lo hi : Int} {offs : Array Int} {len : Nat} {x : Int32} {tgt : Nat} (hd : decode (xcc mi) pc = .ok (.tableswitch dflt lo hi offs, len)) (h : x.toInt < lo ∨ hi < x.toInt) (ht : (pc : Int) + dflt = (tgt : Int)) (k : XR E mi d kc ks Post tgt L st w) : XR E mi d kc ks Post pc L (.int x :: st) w :=
  XR.lift (fun hx hb _ kk => lv_tableOut hx hb hd h ht kk) k
theorem XR.tableIn {dflt lo hi : Int} {offs : Array Int} {len : Nat} {x : Int32} {off : Int} {tgt : Nat} (hd : decode (xcc mi) pc = .ok (.tableswitch dflt lo hi offs, len)) (h1 : ¬ x.toInt < lo) (h2 : ¬ hi < x.toInt) (ho : offs[(x.toInt - lo).toNat]? = some off) (ht : (pc : Int) + off = (tgt : Int)) (k : XR E mi d kc ks Post tgt L st w) : XR E mi d kc ks Post pc L (.int x :: st) w :=
  XR.lift (fun hx hb _ kk => lv_tableIn hx hb hd h1 h2 ho ht kk) k
theorem XR.locals {L' : List Value} (hs : ∀ (i : Nat) (v : Value), L'[i]? = some v → L[i]? = some v) (k : XR E mi d kc ks Post pc L' st w) : XR E mi d kc ks Post pc L st w :=
  fun p e R s m args below meth c hB H locs cells slots ls hl hH hS h1 h2 => k p e R s m args below meth c hB H locs cells slots ls (hl.sub hs) hH hS h1 h2
theorem xW.imp {p : Program} {l : Launch} {e : Env} {R : Room} {s : State} {m : MethodId} {args : Array Value} {below : List Frame} {meth : Method} {c : Code} {H : Heap} {locs : List Loc} {cells slots : Nat} {Q Q' : State → Prop} {g : JFrame} (h : ∀ t, Q t → Q' t) (k : W p l e R s m args below meth c H locs cells slots Q g) : W p l e R s m args below meth c H locs cells slots Q' g :=
  fun T hT X => by obtain ⟨t, a, b⟩ := k T hT X; exact ⟨t, a, h t b⟩
theorem xS.old {s : State} {H : Heap} {locs : List Loc} (hC : xCx E s) (hS : va_S (fun q => xB E ≤ q) s.heap H locs) (q : Nat) (hq : q < xB E) : H[q]? = s.heap[q]? :=
  hS.2.1 q (Nat.lt_of_lt_of_le hq hC.2.2.1) (Nat.not_le.mpr hq)
theorem xMQ.of {below : List Frame} {s t : State} {mc ms : Nat} {H : Heap} {v : Option Value} {args : Array Value} (hH : xH E w H) (hold : ∀ q, q < xB E → H[q]? = s.heap[q]?) (hP : Post (.inl v) w)
    (h : MQ below (fun _ _ o t => o = .returned v ∧ t.heap = H) args s mc ms (fun q => xB E ≤ q) t) : xMQ E below Post mc ms s t := by
  obtain ⟨o, h1, h2, ⟨rfl, h3⟩, L, ⟨-, hW, hs⟩, hL⟩ := h
  exact ⟨.returned v, h1, h2, ⟨w, hP, by rw [h3]; exact hH⟩, hW, fun q hq => by rw [h3]; exact hold q hq, L, hs, hL⟩
theorem XR.ireturn {x : Int32} {ty : FieldType} (hd : decode (xcc mi) pc = .ok (.ireturn, 1)) (hty : xrt mi = some ty) (hn : narrow ty (.int x) = .int x) (hP : Post (.inl (some (.int x))) w) : XR E mi d kc ks Post pc L [.int x] w := by
  intro p e R s m args below meth c hB H locs cells slots ls hl hH hS h1 h2
  have hC := hB.2.2.2.2.2.2.2.2.2.1
  have hr : meth.sig.returnType = some ty := hB.2.2.2.2.2.1.trans hty
  exact W.widen (Nat.le_add_right cells kc) (Nat.le_add_right slots ks) (xW.imp (fun t ht => xMQ.of hH (xS.old hC hS) hP ht) (W.zret hB.1 hB.2.1 hr hn (fun t ht _ => ⟨rfl, ht⟩) hS.2.2 hd hB.2.2.2.2.2.2.1))
theorem XR.return_ (hd : decode (xcc mi) pc = .ok (.return_, 1)) (hty : xrt mi = none) (hP : Post (.inl none) w) : XR E mi d kc ks Post pc L [] w := by
  intro p e R s m args below meth c hB H locs cells slots ls hl hH hS h1 h2
  have hC := hB.2.2.2.2.2.2.2.2.2.1
  have hr : meth.sig.returnType = none := hB.2.2.2.2.2.1.trans hty
  exact W.widen (Nat.le_add_right cells kc) (Nat.le_add_right slots ks) (xW.imp (fun t ht => xMQ.of hH (xS.old hC hS) hP ht) (W.vret hB.1 hB.2.1 hr (fun t ht _ => ⟨rfl, ht⟩) hS.2.2 hd hB.2.2.2.2.2.2.1))
/-! cells -/
def xup (σ : xS) (q : Nat) (f : Nat → Int32) : xS := fun k => if k = q then f else σ k
def xu (σ : xS) (q i : Nat) (v : Int32) : xS := xup σ q (fun j => if j = i then v else σ q j)
theorem xup_same (σ : xS) (q : Nat) (f : Nat → Int32) : xup σ q f q = f := if_pos rfl
theorem xup_ne {σ : xS} {q k : Nat} {f : Nat → Int32} (h : k ≠ q) : xup σ q f k = σ k := if_neg h
theorem xH.set {n r r' q : Nat} {σ : xS} {f : Nat → Int32} {H H1 : Heap} (h : xH E (n, r, σ) H) (he : va_at (xD E) vwCl (xB E + q, xen E r' q f) H1) (hr : ∀ j g, j ≠ q → xen E r' j g = xen E r j g) (hz : H1.size = H.size) (ho : ∀ a, a ≠ xB E + q → H1[a]? = H[a]?) : xH E (n, r', xup σ q f) H1 := by
  refine ⟨fun k hk => ?_, by rw [hz]; exact h.2.1, by rw [hz]; exact h.2.2⟩
  by_cases hkq : k = q
  · subst hkq
    show va_at (xD E) vwCl (xB E + k, xen E r' k (xup σ k f k)) H1
    rw [xup_same]; exact he
  · show va_at (xD E) vwCl (xB E + k, xen E r' k (xup σ q f k)) H1
    rw [xup_ne hkq, hr k _ hkq]
    exact (h.1 k hk).kept (ho _ (show xB E + k ≠ xB E + q by omega))
theorem xS.put {s : State} {H H1 : Heap} {locs : List Loc} {q i : Nat} (hS : va_S (fun q => xB E ≤ q) s.heap H locs) (hz : H1.size = H.size) (ho : ∀ a, a ≠ xB E + q → H1[a]? = H[a]?) : va_S (fun q => xB E ≤ q) s.heap H1 (locs ++ [⟨xB E + q, i⟩]) :=
  hS.put hz ho (Nat.le_add_right _ _)
/-- an array's element is read -/
theorem XR.iaload {q n : Nat} {x : Int32} (hd : decode (xcc mi) pc = .ok (.iaload, 1)) (hq : q < w.1) (he : ∀ f, xen E w.2.1 q f = .inl (xcI E, n, .inl f)) (hx : vp_in x n) (k : XR E mi d kc ks Post (pc + 1) L (.int (w.2.2 q x.toNatClampNeg) :: st) w) : XR E mi d kc ks Post pc L (.int x :: .ref (xB E + q) :: st) w := by
  intro p e R s m args below meth c hB H locs cells slots ls hl hH hS h1 h2
  have hC := hB.2.2.2.2.2.2.2.2.2.1
  have ha := hH.1 q hq
  rw [he] at ha
  refine va_iald (D := xD E) (cl := vwCl) (ws := [(xB E + q, .inl (xcI E, n, .inl (w.2.2 q)))]) hB.1 hB.2.1 hC.2.1 (fun j y hy => ?_) 0 0 rfl rfl hx hd (k p e R s m args below meth c hB H locs cells slots ls hl hH hS h1 h2)
  have : j = 0 := by have := (List.getElem?_eq_some_iff.mp hy).1; simp at this; exact this
  subst this; cases hy; exact ha
theorem XR.baload {q n : Nat} {x : Int32} (hd : decode (xcc mi) pc = .ok (.baload, 1)) (hq : q < w.1) (he : ∀ f, xen E w.2.1 q f = .inl (xcZ E, n, .inl f)) (hx : vp_in x n) (k : XR E mi d kc ks Post (pc + 1) L (.int (w.2.2 q x.toNatClampNeg) :: st) w) : XR E mi d kc ks Post pc L (.int x :: .ref (xB E + q) :: st) w := by
  intro p e R s m args below meth c hB H locs cells slots ls hl hH hS h1 h2
  have hC := hB.2.2.2.2.2.2.2.2.2.1
  have ha := hH.1 q hq
  rw [he] at ha
  refine va_zald (D := xD E) (cl := vwCl) (ws := [(xB E + q, .inl (xcZ E, n, .inl (w.2.2 q)))]) hB.1 hB.2.1 hC.2.1 (fun j y hy => ?_) 0 2 rfl rfl hx hd (k p e R s m args below meth c hB H locs cells slots ls hl hH hS h1 h2)
  have : j = 0 := by have := (List.getElem?_eq_some_iff.mp hy).1; simp at this; exact this
  subst this; cases hy; exact ha
theorem XR.laload {q n : Nat} {x : Int32} (hd : decode (xcc mi) pc = .ok (.laload, 1)) (hq : q < w.1) (he : ∀ f, xen E w.2.1 q f = .inl (xcJ E, n, .inr (.inl (fun i => (f i).toInt64)))) (hx : vp_in x n) (k : XR E mi d kc ks Post (pc + 1) L (.long (w.2.2 q x.toNatClampNeg).toInt64 :: st) w) : XR E mi d kc ks Post pc L (.int x :: .ref (xB E + q) :: st) w := by
  intro p e R s m args below meth c hB H locs cells slots ls hl hH hS h1 h2
  have hC := hB.2.2.2.2.2.2.2.2.2.1
  have ha := hH.1 q hq
  rw [he] at ha
  refine va_lald (D := xD E) (cl := vwCl) (ws := [(xB E + q, .inl (xcJ E, n, .inr (.inl (fun i => (w.2.2 q i).toInt64))))]) hB.1 hB.2.1 hC.2.1 (fun j y hy => ?_) 0 1 rfl rfl hx hd (k p e R s m args below meth c hB H locs cells slots ls hl hH hS h1 h2)
  have : j = 0 := by have := (List.getElem?_eq_some_iff.mp hy).1; simp at this; exact this
  subst this; cases hy; exact ha
theorem XR.alen {q n : Nat} {cA : ClassId} {ty : FieldType} {x : vp_A} {v : Int32} (hd : decode (xcc mi) pc = .ok (.arraylength, 1)) (hq : q < w.1) (he : xen E w.2.1 q (w.2.2 q) = .inl (xcI E, x)) (hv : Int32.ofNat x.1 = v) (k : XR E mi d kc ks Post (pc + 1) L (.int v :: st) w) : XR E mi d kc ks Post pc L (.ref (xB E + q) :: st) w := by
  intro p e R s m args below meth c hB H locs cells slots ls hl hH hS h1 h2
  have hC := hB.2.2.2.2.2.2.2.2.2.1
  have ha := hH.1 q hq
  rw [he] at ha
  refine va_alen (D := xD E) (cl := vwCl) (ws := [(xB E + q, .inl (xcI E, x))]) hB.1 hB.2.1 hC.2.1 (fun j y hy => ?_) 0 0 rfl (ty := .int) rfl hv hd (k p e R s m args below meth c hB H locs cells slots ls hl hH hS h1 h2)
  have : j = 0 := by have := (List.getElem?_eq_some_iff.mp hy).1; simp at this; exact this
  subst this; cases hy; exact ha
/-- the script's elements and its length -/
theorem XR.sload {x : Int32} (hd : decode (xcc mi) pc = .ok (.iaload, 1)) (hx : vp_in x (xsL E)) (k : XR E mi d kc ks Post (pc + 1) L (.int (xsx E x.toNatClampNeg) :: st) w) : XR E mi d kc ks Post pc L (.int x :: .ref (xsb E) :: st) w := by
  intro p e R s m args below meth c hB H locs cells slots ls hl hH hS h1 h2
  have hC := hB.2.2.2.2.2.2.2.2.2.1
  exact va_sld (A := fun q => xB E ≤ q) hB.1 hB.2.1 hC.2.2.2.1.1 (Nat.lt_of_lt_of_le hC.2.2.2.1.2 hC.2.2.1) (Nat.not_le.mpr hC.2.2.2.1.2) hS hx hd (k p e R s m args below meth c hB H locs cells slots ls hl hH hS h1 h2)
theorem XR.slen (hd : decode (xcc mi) pc = .ok (.arraylength, 1)) (k : XR E mi d kc ks Post (pc + 1) L (.int (Int32.ofNat (xsL E)) :: st) w) : XR E mi d kc ks Post pc L (.ref (xsb E) :: st) w := by
  intro p e R s m args below meth c hB H locs cells slots ls hl hH hS h1 h2
  have hC := hB.2.2.2.2.2.2.2.2.2.1
  exact va_slen (A := fun q => xB E ≤ q) hB.1 hB.2.1 hC.2.2.2.1.1 (Nat.lt_of_lt_of_le hC.2.2.2.1.2 hC.2.2.1) (Nat.not_le.mpr hC.2.2.2.1.2) hS hd (k p e R s m args below meth c hB H locs cells slots ls hl hH hS h1 h2)
theorem XR.iastore {n r q a : Nat} {σ : xS} {i x : Int32} (hd : decode (xcc mi) pc = .ok (.iastore, 1)) (hq : q < n) (he : ∀ f, xen E r q f = .inl (xcI E, a, .inl f)) (hx : vp_in i a) (k : XR E mi d kc ks Post (pc + 1) L st (n, r, xu σ q i.toNatClampNeg x)) : XR E mi d kc ks Post pc L (.int x :: .int i :: .ref (xB E + q) :: st) (n, r, σ) := by
  intro p e R s m args below meth c hB H locs cells slots ls hl hH hS h1 h2
  have hC := hB.2.2.2.2.2.2.2.2.2.1
  have ha : H[xB E + q]? = some (arrV (xcI E) a (fun j => .int (σ q j))) := by have := hH.1 q hq; rw [he] at this; exact this
  refine W.iast hB.1 hB.2.1 ha ((hC.2.1.2 0 _ rfl).1 _ _) (fun h => by cases h) (by rw [arrV_size]; exact hx) rfl rfl hd fun H' e1 e2 e3 => ?_
  rw [arrV_store] at e1
  refine k p e R s m args below meth c hB H' _ cells slots ls hl (hH.set ?_ (fun _ _ _ => rfl) e2 e3) (xS.put hS e2 e3) h1 h2
  rw [he]
  show H'[xB E + q]? = some (arrV (xcI E) a (fun j => .int (if j = i.toNatClampNeg then x else σ q j)))
  rw [e1]
  congr 2
  funext j
  simp only [updV]
  split <;> simp_all
theorem XR.bastore {n r q a : Nat} {σ : xS} {i x : Int32} (hd : decode (xcc mi) pc = .ok (.bastore, 1)) (hq : q < n) (he : ∀ f, xen E r q f = .inl (xcZ E, a, .inl f)) (hx : vp_in i a) (hn : narrow .boolean (.int x) = .int x) (k : XR E mi d kc ks Post (pc + 1) L st (n, r, xu σ q i.toNatClampNeg x)) : XR E mi d kc ks Post pc L (.int x :: .int i :: .ref (xB E + q) :: st) (n, r, σ) := by
  intro p e R s m args below meth c hB H locs cells slots ls hl hH hS h1 h2
  have hC := hB.2.2.2.2.2.2.2.2.2.1
  have ha : H[xB E + q]? = some (arrV (xcZ E) a (fun j => .int (σ q j))) := by have := hH.1 q hq; rw [he] at this; exact this
  refine W.zast hB.1 hB.2.1 ha ((hC.2.1.2 2 _ rfl).1 _ _) (fun h => by cases h) (by rw [arrV_size]; exact hx) rfl rfl hd fun H' e1 e2 e3 => ?_
  rw [hn, arrV_store] at e1
  refine k p e R s m args below meth c hB H' _ cells slots ls hl (hH.set ?_ (fun _ _ _ => rfl) e2 e3) (xS.put hS e2 e3) h1 h2
  rw [he]
  show H'[xB E + q]? = some (arrV (xcZ E) a (fun j => .int (if j = i.toNatClampNeg then x else σ q j)))
  rw [e1]
  congr 2
  funext j
  simp only [updV]
  split <;> simp_all
theorem XR.lastore {n r q a : Nat} {σ : xS} {i x : Int32} (hd : decode (xcc mi) pc = .ok (.lastore, 1)) (hq : q < n) (he : ∀ f, xen E r q f = .inl (xcJ E, a, .inr (.inl (fun i => (f i).toInt64)))) (hx : vp_in i a) (k : XR E mi d kc ks Post (pc + 1) L st (n, r, xu σ q i.toNatClampNeg x)) : XR E mi d kc ks Post pc L (.long x.toInt64 :: .int i :: .ref (xB E + q) :: st) (n, r, σ) := by
  intro p e R s m args below meth c hB H locs cells slots ls hl hH hS h1 h2
  have hC := hB.2.2.2.2.2.2.2.2.2.1
  have ha : H[xB E + q]? = some (arrV (xcJ E) a (fun j => .long (σ q j).toInt64)) := by have := hH.1 q hq; rw [he] at this; exact this
  refine W.last hB.1 hB.2.1 ha ((hC.2.1.2 1 _ rfl).1 _ _) (fun h => by cases h) (by rw [arrV_size]; exact hx) rfl rfl hd fun H' e1 e2 e3 => ?_
  rw [arrV_store] at e1
  refine k p e R s m args below meth c hB H' _ cells slots ls hl (hH.set ?_ (fun _ _ _ => rfl) e2 e3) (xS.put hS e2 e3) h1 h2
  rw [he]
  show H'[xB E + q]? = some (arrV (xcJ E) a (fun j => .long (if j = i.toNatClampNeg then x else σ q j).toInt64))
  rw [e1]
  congr 2
  funext j
  simp only [updV]
  split <;> simp_all
/-! fields -/
theorem XR.getfield {q ci fk index N : Nat} {C : String} {T : u_T} {fs : List Value} {v : Value} (hd : decode (xcc mi) pc = .ok (.getfield index, 3)) (hq : q < w.1) (he : xen E w.2.1 q (w.2.2 q) = .inr (ci, fs)) (hc : vwCl[ci]? = some (C, T, N)) (hin : ∀ x ∈ u_ws C T N, x ∈ xTs) (hk : fk < N) (hl : Cond.fieldLink (xy mi).cls index (T fk).1 (T fk).2.1 (T fk).2.2.1 ∈ xTs) (hv : fs[fk]? = some v)
    (k : XR E mi d kc ks Post (pc + 3) L (v :: st) w) : XR E mi d kc ks Post pc L (.ref (xB E + q) :: st) w := by
  intro p e R s m args below meth c hB H locs cells slots ls hl2 hH hS h1 h2
  have hC := hB.2.2.2.2.2.2.2.2.2.1
  have ha := hH.1 q hq
  rw [he] at ha
  refine va_get (D := xD E) (cl := vwCl) (ws := [(xB E + q, .inr (ci, fs))]) hB.1 hB.2.1 hB.2.2.2.2.1 hin hB.2.2.2.1 hC.2.1 (fun j y hy => ?_) 0 rfl hc fk hk (hB.2.2.2.2.1 _ hl) (fun _ h => h) hv hd (k p e R s m args below meth c hB H locs cells slots ls hl2 hH hS h1 h2)
  have : j = 0 := by have := (List.getElem?_eq_some_iff.mp hy).1; simp at this; exact this
  subst this; cases hy; exact ha
theorem xup_id (σ : xS) (q : Nat) : xup σ q (σ q) = σ := by
  funext k
  unfold xup
  split
  · next h => rw [h]
  · rfl
theorem XR.putfield {n r q ci fk index N : Nat} {σ : xS} {x : Int32} {C : String} {T : u_T} {F : (Nat → Int32) → List Value} {ty0 : Nat → FieldType} (hd : decode (xcc mi) pc = .ok (.putfield index, 3)) (hq : q < n) (he : ∀ f, xen E r q f = .inr (ci, F f)) (hc : vwCl[ci]? = some (C, T, N)) (hin : ∀ x ∈ u_ws C T N, x ∈ xTs)
    (hty : ∀ k, k < N → parseFieldDescriptor (T k).2.2.1 = some (ty0 k)) (hnm : ∀ a, a < N → ∀ b, b < N → a ≠ b → (T a).2.1 ≠ (T b).2.1) (hk : fk < N) (hl : Cond.fieldLink (xy mi).cls index (T fk).1 (T fk).2.1 (T fk).2.2.1 ∈ xTs) (hfin : (T fk).2.2.2 = false) (hti : ty0 fk = .int)
    (hF : ∀ f, F (fun j => if j = fk then x else f j) = (F f).set fk (.int x)) (hlen : ∀ f, fk < (F f).length)
    (k : XR E mi d kc ks Post (pc + 3) L st (n, r, xu σ q fk x)) : XR E mi d kc ks Post pc L (.int x :: .ref (xB E + q) :: st) (n, r, σ) := by
  intro p e R s m args below meth c hB H locs cells slots ls hl2 hH hS h1 h2
  have hC := hB.2.2.2.2.2.2.2.2.2.1
  have hts := hB.2.2.2.2.1
  have hap := va_apart (own := (xy mi).cls) hts hin ty0 hty hnm hC.2.1 hc
  obtain ⟨r0, g1, cell, q1, q2, q3, q4⟩ : va_at (xD E) vwCl (xB E + q, .inr (ci, F (σ q))) H := by have := hH.1 q hq; rw [he] at this; exact this
  have hr0 : r0 = (C, T, N) := Option.some.inj (g1.symm.trans hc)
  subst hr0
  obtain ⟨hSl, hfc, kC, hkC, hkind⟩ := hC.2.1.1 ci _ hc
  obtain ⟨cf, kf, fi, f, hi, hsl⟩ := hSl fk hk
  have hlay := hts _ (hin _ (u_in_lay hk))
  unfold u_lay at hlay
  rw [if_neg (by rw [hfin]; decide)] at hlay
  have hst := (u_facts hfc hkC (u_lays hts hin hk) hi).1
  have h6 := u_store (v := .int x) hfc hkC hkind hlay hi (hty fk hk) (by rw [hti]; rfl) (by rw [hti]; rfl)
  refine W.putK hB.1 hB.2.1 (f := f) ⟨hB.2.2.2.1, hts _ hl, ⟨_, _, _, hi⟩, hst⟩ (by rw [q2]; exact h6) q1 q3 (by rw [hsl]; exact k2_hasslot (q4 fk hk)) rfl rfl hd fun H' e1 e2 e3 => ?_
  rw [hsl] at e1 ⊢
  refine k p e R s m args below meth c hB H' _ cells slots ls hl2 (hH.set ?_ (fun _ _ _ => rfl) e2 e3) (xS.put hS e2 e3) h1 h2
  rw [he, hF]
  exact ⟨_, hc, t_OB.to (V := updV (vp_V (F (σ q))) fk (.int x)) ⟨_, e1, q2, q3, t_set q4 hap hk (.int x)⟩ (fun j _ => vp_updV_set (hlen _) (.int x) j)⟩
theorem XR.putref {n r q ci fk index N : Nat} {σ : xS} {v : Value} {C : String} {T : u_T} {fs : List Value} {ty0 : Nat → FieldType} (hd : decode (xcc mi) pc = .ok (.putfield index, 3)) (hq : q < n) (he : xen E r q (σ q) = .inr (ci, fs)) (he' : xen E (r + 1) q (σ q) = .inr (ci, fs.set fk v)) (hr : ∀ j g, j ≠ q → xen E (r + 1) j g = xen E r j g) (hc : vwCl[ci]? = some (C, T, N)) (hin : ∀ x ∈ u_ws C T N, x ∈ xTs)
    (hty : ∀ k, k < N → parseFieldDescriptor (T k).2.2.1 = some (ty0 k)) (hnm : ∀ a, a < N → ∀ b, b < N → a ≠ b → (T a).2.1 ≠ (T b).2.1) (hk : fk < N) (hl : Cond.fieldLink (xy mi).cls index (T fk).1 (T fk).2.1 (T fk).2.2.1 ∈ xTs) (hfin : (T fk).2.2.2 = true) (hini : (xy mi).name = "<init>") (hdecl : (T fk).1 = (xy mi).cls)
    (hnar : narrow (ty0 fk) v = v) (hfit : fits (ty0 fk) v = true) (hlen : fk < fs.length)
    (k : XR E mi d kc ks Post (pc + 3) L st (n, r + 1, σ)) : XR E mi d kc ks Post pc L (v :: .ref (xB E + q) :: st) (n, r, σ) := by
  intro p e R s m args below meth c hB H locs cells slots ls hl2 hH hS h1 h2
  have hC := hB.2.2.2.2.2.2.2.2.2.1
  have hts := hB.2.2.2.2.1
  have hap := va_apart (own := (xy mi).cls) hts hin ty0 hty hnm hC.2.1 hc
  obtain ⟨r0, g1, cell, q1, q2, q3, q4⟩ : va_at (xD E) vwCl (xB E + q, .inr (ci, fs)) H := by have := hH.1 q hq; rw [he] at this; exact this
  have hr0 : r0 = (C, T, N) := Option.some.inj (g1.symm.trans hc)
  subst hr0
  obtain ⟨hSl, hfc, kC, hkC, hkind⟩ := hC.2.1.1 ci _ hc
  obtain ⟨cf, kf, fi, f, hi, hsl⟩ := hSl fk hk
  have hlay := hts _ (hin _ (u_in_lay hk))
  unfold u_lay at hlay
  rw [if_pos hfin] at hlay
  have hst := (u_facts hfc hkC (u_lays hts hin hk) hi).1
  have hcf : m.cls = cf := by
    obtain ⟨_, _, c', _, _, _, -, -, hf', -, -, -, hown2, -⟩ := Cond.laysFinal_spec hlay
    have e1 : c' = cf := by have := hi.symm.trans hf'; simp at this; exact this.1.symm
    rw [hdecl] at hown2
    rw [← e1]; exact Option.some.inj (hB.2.2.2.1.symm.trans hown2)
  have h6 := u_fits hfc hkC hkind (Or.inr hlay) hi (hty fk hk) hnar hfit
  refine W.putFinK hB.1 hB.2.1 hB.2.2.2.1 (hts _ hl) hi hst hcf (hB.2.2.2.2.2.2.2.1.trans hini) (by rw [q2]; exact h6) q1 q3 (by rw [hsl]; exact k2_hasslot (q4 fk hk)) rfl rfl hd fun H' e1 e2 e3 => ?_
  rw [hsl] at e1 ⊢
  have hset := hH.set (r' := r + 1) (q := q) (f := σ q) (H1 := H') (by
    rw [he']
    exact ⟨_, hc, t_OB.to (V := updV (vp_V fs) fk v) ⟨_, e1, q2, q3, t_set q4 hap hk v⟩ (fun j _ => vp_updV_set hlen v j)⟩) hr e2 e3
  rw [xup_id] at hset
  exact k p e R s m args below meth c hB H' _ cells slots ls hl2 hset (xS.put hS e2 e3) h1 h2
/-! new cells, while the world is being made -/
theorem xH.push {n r : Nat} {σ : xS} {H H1 : Heap} (h : xH E (n, r, σ) H) (hn : n < 26) (he : va_at (xD E) vwCl (xB E + n, xen E r n (σ n)) H1) (hz : H1.size = xB E + n + 1) (ho : ∀ a, a < xB E + n → H1[a]? = H[a]?) : xH E (n + 1, r, σ) H1 := by
  refine ⟨fun k hk => ?_, by rw [hz]; exact Nat.le_refl _, fun _ => hz⟩
  by_cases hkq : k = n
  · subst hkq
    exact he
  · have hk' : k < n := by have : k < n + 1 := hk; omega
    exact (h.1 k hk').kept (ho _ (show xB E + k < xB E + n by omega))
theorem xS.push {s : State} {H H1 : Heap} {locs : List Loc} {h : Nat} (hS : va_S (fun q => xB E ≤ q) s.heap H locs) (hh : H.size = h) (hz : H1.size = h + 1) (ho : ∀ a, a < h → H1[a]? = H[a]?) : va_S (fun q => xB E ≤ q) s.heap H1 locs :=
  ⟨by have := hS.1; omega, fun q hq hn => (ho q (by have := hS.1; omega)).trans (hS.2.1 q hq hn), hS.2.2⟩
theorem XR.newc {n r ci N index : Nat} {σ : xS} {C : String} {T : u_T} {ty : Nat → FieldType} {fs : List Value} (hd : decode (xcc mi) pc = .ok (.new index, 3)) (hn : n < 26) (hcl : Cond.classLink (xy mi).cls index C ∈ xTs) (hins : Cond.instantiable C N ∈ xTs) (hini : Cond.initialized C ∈ xTs) (hc : vwCl[ci]? = some (C, T, N)) (hin : ∀ x ∈ u_ws C T N, x ∈ xTs)
    (hty : ∀ k, k < N → parseFieldDescriptor (T k).2.2.1 = some (ty k)) (hfs : ∀ j, j < N → defaultValue (ty j) = vp_V fs j) (he : xen E r n (σ n) = .inr (ci, fs)) (k : XR E mi d kc ks Post (pc + 3) L (.ref (xB E + n) :: st) (n + 1, r, σ)) : XR E mi d (kc + 1) (ks + N) Post pc L st (n, r, σ) := by
  intro p e R s m args below meth c hB H locs cells slots ls hl2 hH hS h1 h2
  have hC := hB.2.2.2.2.2.2.2.2.2.1
  have hts := hB.2.2.2.2.1
  have hsz := hH.2.2 hn
  have hKn := hC.2.1.1 ci _ hc
  have e1 : cells + (kc + 1) = cells + 1 + kc := by omega
  have e2 : slots + (ks + N) = slots + N + ks := by omega
  rw [e1, e2]
  refine W.newcK hB.1 hB.2.1 hB.2.2.2.1 (hts _ hcl) (hts _ hins) (hts _ hini) rfl hd (by omega) (by omega) hKn.2.1 hsz fun H1 kC hkC g1 g2 g3 => ?_
  refine k p e R s m args below meth c hB H1 locs (cells + 1) (slots + N) ls hl2 (hH.push hn ?_ g2 g3) (xS.push hS hsz g2 g3) (by omega) (by omega)
  rw [he]
  exact ⟨_, hc, (u_born ty hts hin hKn hkC g1 hty).to hfs⟩
theorem XR.newaI {n r a : Nat} {σ : xS} {x : Int32} {atype : ArrayType} (hd : decode (xcc mi) pc = .ok (.newarray atype, 2)) (hat : newarray.typeOf atype = .int) (hn : n < 26) (harr : Cond.arrayClass .int ∈ xTs) (hx : ¬ x < 0) (hN : x.toNatClampNeg = a) (hby : a * componentBytes .int ≤ 536870912) (he : xen E r n (σ n) = .inl (xcI E, (a, .inl (fun _ => 0)))) (k : XR E mi d kc ks Post (pc + 2) L (.ref (xB E + n) :: st) (n + 1, r, σ)) : XR E mi d (kc + 1) (ks + a) Post pc L (.int x :: st) (n, r, σ) := by
  intro p e R s m args below meth c hB H locs cells slots ls hl2 hH hS h1 h2
  have hC := hB.2.2.2.2.2.2.2.2.2.1
  have hts := hB.2.2.2.2.1
  have hsz := hH.2.2 hn
  have e1 : cells + (kc + 1) = cells + 1 + kc := by omega
  have e2 : slots + (ks + a) = slots + a + ks := by omega
  rw [e1, e2]
  refine va_newaK (atype := atype) hB.1 hB.2.1 (by rw [hat]; exact hts _ harr) rfl hd rfl hx hN (by rw [hat]; exact hby) (by omega) (by omega) hsz fun H1 cA g1 g2 g3 g4 g5 => ?_
  rw [hat] at g1 g5
  have hcA : cA = xcI E := Option.some.inj (g5.symm.trans (hC.2.1.2 0 _ rfl).2)
  subst hcA
  refine k p e R s m args below meth c hB H1 locs (cells + 1) (slots + a) ls hl2 (hH.push hn ?_ g2 g3) (xS.push hS hsz g2 g3) (by omega) (by omega)
  rw [he]
  exact g1
theorem XR.newaJ {n r a : Nat} {σ : xS} {x : Int32} {atype : ArrayType} (hd : decode (xcc mi) pc = .ok (.newarray atype, 2)) (hat : newarray.typeOf atype = .long) (hn : n < 26) (harr : Cond.arrayClass .long ∈ xTs) (hx : ¬ x < 0) (hN : x.toNatClampNeg = a) (hby : a * componentBytes .long ≤ 536870912) (he : xen E r n (σ n) = .inl (xcJ E, (a, .inr (.inl (fun _ => 0))))) (k : XR E mi d kc ks Post (pc + 2) L (.ref (xB E + n) :: st) (n + 1, r, σ)) : XR E mi d (kc + 1) (ks + a) Post pc L (.int x :: st) (n, r, σ) := by
  intro p e R s m args below meth c hB H locs cells slots ls hl2 hH hS h1 h2
  have hC := hB.2.2.2.2.2.2.2.2.2.1
  have hts := hB.2.2.2.2.1
  have hsz := hH.2.2 hn
  have e1 : cells + (kc + 1) = cells + 1 + kc := by omega
  have e2 : slots + (ks + a) = slots + a + ks := by omega
  rw [e1, e2]
  refine va_newaK (atype := atype) hB.1 hB.2.1 (by rw [hat]; exact hts _ harr) rfl hd rfl hx hN (by rw [hat]; exact hby) (by omega) (by omega) hsz fun H1 cA g1 g2 g3 g4 g5 => ?_
  rw [hat] at g1 g5
  have hcA : cA = xcJ E := Option.some.inj (g5.symm.trans (hC.2.1.2 1 _ rfl).2)
  subst hcA
  refine k p e R s m args below meth c hB H1 locs (cells + 1) (slots + a) ls hl2 (hH.push hn ?_ g2 g3) (xS.push hS hsz g2 g3) (by omega) (by omega)
  rw [he]
  exact g1
theorem XR.newaZ {n r a : Nat} {σ : xS} {x : Int32} {atype : ArrayType} (hd : decode (xcc mi) pc = .ok (.newarray atype, 2)) (hat : newarray.typeOf atype = .boolean) (hn : n < 26) (harr : Cond.arrayClass .boolean ∈ xTs) (hx : ¬ x < 0) (hN : x.toNatClampNeg = a) (hby : a * componentBytes .boolean ≤ 536870912) (he : xen E r n (σ n) = .inl (xcZ E, (a, .inl (fun _ => 0)))) (k : XR E mi d kc ks Post (pc + 2) L (.ref (xB E + n) :: st) (n + 1, r, σ)) : XR E mi d (kc + 1) (ks + a) Post pc L (.int x :: st) (n, r, σ) := by
  intro p e R s m args below meth c hB H locs cells slots ls hl2 hH hS h1 h2
  have hC := hB.2.2.2.2.2.2.2.2.2.1
  have hts := hB.2.2.2.2.1
  have hsz := hH.2.2 hn
  have e1 : cells + (kc + 1) = cells + 1 + kc := by omega
  have e2 : slots + (ks + a) = slots + a + ks := by omega
  rw [e1, e2]
  refine va_newaK (atype := atype) hB.1 hB.2.1 (by rw [hat]; exact hts _ harr) rfl hd rfl hx hN (by rw [hat]; exact hby) (by omega) (by omega) hsz fun H1 cA g1 g2 g3 g4 g5 => ?_
  rw [hat] at g1 g5
  have hcA : cA = xcZ E := Option.some.inj (g5.symm.trans (hC.2.1.2 2 _ rfl).2)
  subst hcA
  refine k p e R s m args below meth c hB H1 locs (cells + 1) (slots + a) ls hl2 (hH.push hn ?_ g2 g3) (xS.push hS hsz g2 g3) (by omega) (by omega)
  rw [he]
  exact g1
theorem XR.objInit {a idx : Nat} (hd : decode (xcc mi) pc = .ok (.invokespecial idx, 3)) (hl : Cond.methodLink (xy mi).cls idx Lib.objectInit ∈ xTs) (hi : Cond.instanceMethod Lib.objectInit ∈ xTs) (hcd : Cond.code Lib.objectInit ⟨#[0xb1]⟩ 1 none ∈ xTs) (hd1 : 1 ≤ d) (hst : (st.map fun v => v.category).sum ≤ 16) (k : XR E mi d kc ks Post (pc + 3) L st w) : XR E mi d kc ks Post pc L (.ref a :: st) w := by
  intro p e R s m args below meth c hB H locs cells slots ls hl2 hH hS h1 h2
  have hts := hB.2.2.2.2.1
  have hR := hB.2.2.2.2.2.2.2.2.2.2
  refine W.objInit hB.1 hB.2.1 hB.2.2.2.1 (hts _ hl) (hts _ hi) (hts _ hcd) rfl (by rw [hB.2.2.1]; exact hl2.1) rfl hd (by omega) ?_ (k p e R s m args below meth c hB H locs cells slots ls hl2 hH hS h1 h2)
  have := hR.2
  unfold xlo at this
  show 2 * 0 + _ + 12 ≤ _
  omega
end XRules
end
section
/-! words that stay -/
def xGood (w : Cond) : Prop := ∀ (s U : State) (A A' : Array Value), s.WarmedH U.vm → w.before A s = true → w.before A' U = true
theorem xgb_good {w : Cond} (h : xgb w = true) : xGood w := by
  intro s U A A' hW hb
  by_cases hk : (w.keepsFace && w.onTables) = true
  · simp only [Bool.and_eq_true] at hk
    exact va_tabs hk.2 (rfl : (s.setVm U.vm).vm = U.vm) (Cond.before_shiftedFace (State.Shifted.of_warmed hW) w hk.1 hb)
  · simp only [xgb, hk, Bool.false_or] at h
    cases w with
    | arrayClass ty => exact word_at hW (Or.inr ⟨ty, rfl⟩) hb
    | not c =>
      cases c with
      | castable C T =>
        have hv := Cond.holds_not_iff.mp hb
        refine Cond.holds_not_iff.mpr ?_
        simp only [Cond.value] at hv ⊢
        simp only [hW.alike.findClass, hW.alike.assignable]
        exact hv
      | _ => simp at h
    | _ => simp at h
theorem xTs_good (w : Cond) (hw : w ∈ xTs) : xGood w := xgb_good (List.mem_filter.mp hw).2
/-- the code words of a method -/
def xCd (mi : xMI) : Prop := (Cond.code (xy mi) (xcc mi) (xnL mi) (xrt mi) ∈ xTs ∧ xhs mi = []) ∨ Cond.codeWith (xy mi) (xcc mi) (xnL mi) (xrt mi) (xhs mi) ∈ xTs
theorem xCd.spec {mi : xMI} (h : xCd mi) {s : State} {A : Array Value} (hts : ∀ x ∈ xTs, x.before A s = true) : ∃ (mk : MethodId) (meth : Method) (c : Code), s.methodNamed? (xy mi) = some mk ∧ s.vm.method? mk = some meth ∧ meth.code = some c ∧ c.code = xcc mi ∧ c.maxLocals = xnL mi ∧ meth.sig.returnType = xrt mi ∧ meth.locks = false ∧
    (c.exceptionTable.toList.map fun x => (x.startPc, x.endPc, x.handlerPc, x.catchType)) = xhs mi ∧ parseMethodDescriptor (xy mi).desc = some meth.sig := by
  rcases h with ⟨h, h0⟩ | h
  · obtain ⟨mk, hn⟩ := Cond.code_named (hts _ h)
    obtain ⟨meth, c, a1, a2, a3, a4, a5, a6, a7, a8⟩ := Cond.code_spec hn (hts _ h)
    refine ⟨mk, meth, c, hn, a1, a2, a3, a4, a5, a6, ?_, a8⟩
    have : c.exceptionTable = #[] := Array.isEmpty_iff.mp a7
    rw [this, h0]; rfl
  · obtain ⟨mk, meth, c, hn, a1, a2, a3, a4, a5, a6, a7, a8⟩ := Cond.codeWith_spec (hts _ h)
    exact ⟨mk, meth, c, hn, a1, a2, a3, a4, a6, a7, a5, a8⟩
section XCalls
variable {E : xE} {mi mj : xMI} {d kc ks pc d' kc' ks' : Nat} {Post Post' : xO → xWd → Prop} {L st as : List Value} {w : xWd}
/-- a body's walk from its entry gives the contract -/
theorem XC.of (hpl : plainName (xy mi).cls = true) (hcd : xCd mi) (hca : ∀ v ∈ as, v.category = 1) (hn : as.length ≤ xnL mi) (h : XR E mi d kc ks Post 0 as [] w) : XC E mi d kc ks as w Post := by
  refine MetFree.of_bodyS (code := xcc mi) (maxLocals := xnL mi) (ret := xrt mi) hpl ?_ ?_
  · intro A s m hp hnm
    obtain ⟨mk, meth, c, b1, b2, b3, b4, b5, b6, b7, -, -⟩ := hcd.spec (atoms_spec (ws := xTs) hp)
    cases hnm.symm.trans b1
    exact ⟨meth, c, b2, b3, b4, b5, b6, b7⟩
  · intro p e s m args below meth c s₁ B hml hP _
    obtain ⟨rfl, hH, hC⟩ := hP
    have hts := atoms_spec (ws := xTs) B.pre
    have hh0 : s₁.heap = s.heap := by rw [B.state]; rfl
    obtain ⟨mk, meth', c', b1, b2, b3, b4, b5, b6, b7, b8, -⟩ := hcd.spec hts
    cases B.named.symm.trans b1
    cases B.method.symm.trans b2
    have hc' : meth.code = some c := (Stand.of_body B).code
    cases hc'.symm.trans b3
    have hB : xB0 E mi d p (xrm d kc ks) s m as.toArray meth c := ⟨B.exec, b4, b5, findClass_of_methodNamed B.named, hts, b6, b7, (name_of_methodNamed B.named B.method).1, b8, hC, Nat.le_refl _, Nat.le_refl _⟩
    have hW := h p e (xrm d kc ks) s m as.toArray below meth c hB s.heap [] 0 0 _ (xL.entry hca hn) hH va_S.rf (by simp [xrm]) (by simp [xrm])
    obtain ⟨t, a1, o, b1, b2, b3⟩ := hW s₁ hh0 (Stand.of_body B)
    rw [lg_entry_eq]
    exact ⟨t, o, a1, b1, b2, by simpa using b3⟩
theorem xcallC {p : Program} {e : Env} {R : Room} {s : State} {m : MethodId} {args : Array Value} {below : List Frame} {meth : Method} {c : Code} {T : State} {locs : List Loc} {cells slots : Nat}
    (X : Stand p (xl E) e R s m args below meth c T locs cells slots) (hts : ∀ x ∈ xTs, x.before args s = true) (hC : xCx E s) (hH : xH E w T.heap) (hS : va_S (fun q => xB E ≤ q) s.heap T.heap locs)
    {g : JFrame} (hg : g.method = m) (hsize : g.locals.size = c.maxLocals) {ig : Instr} {len : Nat} (hdg : decode c.code g.pc = .ok (ig, len)) {mk : MethodId} {methY : Method} {cY : Code} {kY : Class} (hn : T.methodNamed? (xy mj) = some mk) (hmY : T.vm.method? mk = some methY) (hcY : methY.code = some cY) (hlY : cY.maxLocals = xnL mj) (hkY : T.vm.classes[mk.cls]? = some kY) (hiY : kY.init = .initialized)
    (hM : XC E mj d' kc' ks' as w Post') (hd : d' + 1 ≤ R.frames) (hlo : 2 * g.monitorRoom + (g.stack.map fun v => v.category).sum + (xnL mj + 11) + xlo d' ≤ R.locals) (hc : cells + (kc' + 1) ≤ R.cells) (hs : slots + (ks' + 6) ≤ R.slots) :
    (∃ (v : Option Value) (w' : xWd) (T' : State) (L : List Loc), Post' (.inl v) w' ∧ xH E w' T'.heap ∧ va_S (fun q => xB E ≤ q) s.heap T'.heap (locs ++ L) ∧ Stand p (xl E) e R s m args below meth c T' (locs ++ L) (cells + kc') (slots + ks') ∧
      Steps p.tables e below (doInvoke e (T.setTop g) [] mk as.toArray).1 (T'.setTop { g with pc := g.pc + len, stack := v.toList ++ g.stack })) ∨
    (∃ (C : String) (w' : xWd) (x : Addr) (T' : State) (L : List Loc), Post' (.inr C) w' ∧ xH E w' T'.heap ∧ xEx E C x s.vm T'.heap ∧ va_S (fun q => xB E ≤ q) s.heap T'.heap (locs ++ L) ∧ Stand p (xl E) e R s m args below meth c T' (locs ++ L) (cells + (kc' + 1)) (slots + (ks' + 6)) ∧
      Steps p.tables e below (doInvoke e (T.setTop g) [] mk as.toArray).1 ((T'.setTop g).pushFrame (.throwing x))) := by
  have h : At T g.method c below := by rw [hg]; exact X.here
  have hpre : ∀ x ∈ xTs, x.before as.toArray T = true := fun x hx => xTs_good x hx s T args as.toArray X.warmed (hts x hx)
  have happ : (headSpec xTs (xrm d' kc' ks')).appliesLoose (xy mj) e.platform (T.calling g mk as.toArray) = true :=
    Spec.appliesLoose_calling (g := g) h hdg hn hkY hiY (X.room_calling (g := g) (R' := xrm d' kc' ks') hsize hmY hcY hd (by rw [hlY]; exact hlo) hc hs) (atoms_intro hpre)
  obtain ⟨mid, hmid⟩ := h.above
  have hfr : (T.setTop g).frames = (.java g :: mid) ++ below := by rw [State.frames_setTop' g h.top, hmid]; rfl
  have hold : ∀ q, q < xB E → T.heap[q]? = s.heap[q]? := xS.old hC hS
  have hC' : xCx E (T.calling g mk as.toArray) := hC.moved X.warmed.alike hS.1 hold
  obtain ⟨o, t, hsteps, -, hend, hq⟩ := Steps.callFree hM p X.admits X.cas X.clock (acts := []) hfr happ ⟨rfl, hH, hC'⟩ trivial
  rw [State.frames_setTop' g h.top, X.tail] at hend
  cases o with
  | returned v =>
    obtain ⟨⟨w', hp, hw'⟩, hW, hold', L, hsame, hL⟩ := hq
    obtain ⟨T', X', -, -, ht⟩ := X.outOf (g := g) hg hdg (mk := mk) (a := as.toArray) hend hW hsame
    have eh : T'.heap = t.heap := by rw [ht]; simp [State.setTop, State.modifyTopJava]
    have hz : T.heap.size ≤ t.heap.size := hsame.2.1
    refine Or.inl ⟨v, w', T', L, hp, by rw [eh]; exact hw', ⟨by rw [eh]; exact Nat.le_trans hS.1 hz, fun q h1 h2 => ?_, fun x hx => ?_⟩, X', by rw [ht] at hsteps; exact hsteps⟩
    · have hqB : q < xB E := Nat.not_le.mp h2
      rw [eh, hold' q hqB]
      exact hold q hqB
    · rcases List.mem_append.mp hx with hx | hx
      · exact hS.2.2 x hx
      · exact hL x hx
  | threw x =>
    obtain ⟨⟨w', C, hp, hw', hex⟩, hW, hold', L, hsame, hL⟩ := hq
    obtain ⟨T', X', -, -, ht⟩ := X.outOfThrown (g := g) hg (mk := mk) (a := as.toArray) hend hW hsame
    have eh : T'.heap = t.heap := by rw [ht]; simp [State.pushFrame, State.setFrames, State.setTop, State.modifyTopJava]
    have ev : T'.vm = t.vm := by rw [ht]; simp [State.pushFrame, State.setFrames, State.setTop, State.modifyTopJava]
    have hz : T.heap.size ≤ t.heap.size := hsame.2.1
    have hex' : xEx E C x s.vm T'.heap := by
      obtain ⟨cell, c1, c2, c3, c4⟩ := hex
      refine ⟨cell, by rw [eh]; exact c1, c2, ?_, c4⟩
      have := X'.warmed.alike.findClass C none
      rw [ev] at this
      rw [← this]; exact c3
    refine Or.inr ⟨C, w', x, T', L, hp, by rw [eh]; exact hw', hex', ⟨by rw [eh]; exact Nat.le_trans hS.1 hz, fun q h1 h2 => ?_, fun x hx => ?_⟩, X', by rw [ht] at hsteps; exact hsteps⟩
    · have hqB : q < xB E := Nat.not_le.mp h2
      rw [eh, hold' q hqB]
      exact hold q hqB
    · rcases List.mem_append.mp hx with hx | hx
      · exact hS.2.2 x hx
      · exact hL x hx
/-- behind a call's link: the callee's contract, then the caller goes on, or stands under what was thrown -/
theorem xcallD {p : Program} {e : Env} {R : Room} {s : State} {m : MethodId} {args : Array Value} {below : List Frame} {meth : Method} {c : Code} {T : State} {locs : List Loc} {cells slots : Nat} {ls : Array Slot}
    (X : Stand p (xl E) e R s m args below meth c T locs cells slots) (hB : xB0 E mi d p R s m args meth c) (hl : xL ls (xnL mi) L) (hH : xH E w T.heap) (hS : va_S (fun q => xB E ≤ q) s.heap T.heap locs) (h1 : cells + kc + 1 ≤ R.cells) (h2 : slots + ks + 6 ≤ R.slots)
    {ig : Instr} (hd : decode (xcc mi) pc = .ok (ig, 3)) {mk : MethodId} {methY : Method} {cY : Code} {kY : Class} (hn : T.methodNamed? (xy mj) = some mk) (hmY : T.vm.method? mk = some methY) (hcY : methY.code = some cY) (hlY : cY.maxLocals = xnL mj) (hkY : T.vm.classes[mk.cls]? = some kY) (hiY : kY.init = .initialized)
    (hM : XC E mj d' kc' ks' as w Post') (hdd : d' + 1 ≤ d) (hst : (st.map fun v => v.category).sum + xnL mj ≤ 17) (hkc : kc' ≤ kc) (hks : ks' ≤ ks)
    (hr : ∀ v w', Post' (.inl v) w' → XR E mi d (kc - kc') (ks - ks') Post (pc + 3) L (v.toList ++ st) w') (ht : ∀ C w', Post' (.inr C) w' → XT E mi d (kc - kc') (ks - ks') Post pc L C w') :
    ∃ t, Steps p.tables e below (doInvoke e (T.setTop (F0 m pc ls st)) [] mk as.toArray).1 t ∧ xMQ E below Post (cells + kc) (slots + ks) s t := by
  have hC := hB.2.2.2.2.2.2.2.2.2.1
  have hR := hB.2.2.2.2.2.2.2.2.2.2
  have hlo : 2 * (F0 m pc ls st).monitorRoom + ((F0 m pc ls st).stack.map fun v => v.category).sum + (xnL mj + 11) + xlo d' ≤ R.locals := by
    have := hR.2
    unfold xlo at this ⊢
    show 2 * 0 + _ + _ + _ ≤ _
    have e1 : ((F0 m pc ls st).stack.map fun v => v.category).sum = (st.map fun v => v.category).sum := rfl
    omega
  rcases xcallC X hB.2.2.2.2.1 hC hH hS (g := F0 m pc ls st) rfl (by rw [hB.2.2.1]; exact hl.1) (by rw [hB.2.1]; exact hd) hn hmY hcY hlY hkY hiY hM (by omega) hlo (by omega) (by omega) with ⟨v, w', T', Lc, hp, hw', hS', X', hsteps⟩ | ⟨C, w', x, T', Lc, hp, hw', hex, hS', X', hsteps⟩
  · obtain ⟨t, a1, a2⟩ := hr v w' hp p e R s m args below meth c hB T'.heap (locs ++ Lc) (cells + kc') (slots + ks') ls hl hw' hS' (by omega) (by omega) T' rfl X'
    refine ⟨t, hsteps.trans a1, ?_⟩
    have e1 : cells + kc' + (kc - kc') = cells + kc := by omega
    have e2 : slots + ks' + (ks - ks') = slots + ks := by omega
    rw [e1, e2] at a2
    exact a2
  · obtain ⟨t, a1, a2⟩ := ht C w' hp p e R s m args below meth c hB T'.heap (locs ++ Lc) (cells + (kc' + 1)) (slots + (ks' + 6)) ls st x hl hw' hex hS' (by omega) (by omega) T' rfl X'
    refine ⟨t, hsteps.trans a1, ?_⟩
    have e1 : cells + (kc' + 1) + (kc - kc') - 1 = cells + kc := by omega
    have e2 : slots + (ks' + 6) + (ks - ks') - 6 = slots + ks := by omega
    rw [e1, e2] at a2
    exact a2
theorem XR.callS {index : Nat} (hd : decode (xcc mi) pc = .ok (.invokestatic index, 3)) (hl : Cond.methodLink (xy mi).cls index (xy mj) ∈ xTs) (hstat : Cond.static (xy mj) ∈ xTs) (hinit : Cond.initialized (xy mj).cls ∈ xTs) (hcd : xCd mj) (hy : (xy mj).cls ≠ "java/lang/invoke/MethodHandle" ∧ (xy mj).cls ≠ "java/lang/invoke/VarHandle")
    (hlen : (parseMethodDescriptor (xy mj).desc).map (fun g => g.parameters.length) = some as.length) {st0 : List Value} (hst0 : st0 = as.reverse ++ st) (hM : XC E mj d' kc' ks' as w Post') (hdd : d' + 1 ≤ d) (hst : (st.map fun v => v.category).sum + xnL mj ≤ 17) (hkc : kc' ≤ kc) (hks : ks' ≤ ks)
    (hr : ∀ v w', Post' (.inl v) w' → XR E mi d (kc - kc') (ks - ks') Post (pc + 3) L (v.toList ++ st) w') (ht : ∀ C w', Post' (.inr C) w' → XT E mi d (kc - kc') (ks - ks') Post pc L C w') : XR E mi d kc ks Post pc L st0 w := by
  intro p e R s m args below meth c hB H locs cells slots ls hl2 hH hS h1 h2 T hT X
  subst hT
  have hts := hB.2.2.2.2.1
  obtain ⟨mk, methM, cM, hnamed, hmethM, hcodeM, -, hlocM, -, -, -, hsigM⟩ := hcd.spec hts
  have hstatic : methM.isStatic = true := Cond.static_spec hnamed hmethM (hts _ hstat)
  obtain ⟨kP, hkP, -⟩ := className_of_methodNamed hnamed
  have hinitP : kP.init = .initialized := Cond.initialized_spec (findClass_of_methodNamed hnamed) hkP (hts _ hinit)
  have hlen' : as.length = methM.sig.parameters.length := by rw [hsigM] at hlen; simpa using hlen.symm
  obtain ⟨vm₁, X₁, hstep₁⟩ := X.invokestatic hB.1 hB.2.2.2.1 (hts _ hl) hnamed hmethM hstatic hkP hinitP hy (g := F0 m pc ls st0) rfl (argsL := as) (rest := st) hlen' hst0 (by rw [hB.2.1]; exact hd)
  obtain ⟨k1, hk1, he1⟩ := X₁.warmed.alike.2.2 _ _ hkP
  obtain ⟨t, a1, a2⟩ := xcallD X₁ hB hl2 hH hS h1 h2 hd (X₁.named hnamed) (X₁.warmed.methodAt hmethM) hcodeM hlocM hk1 (by rw [he1]; exact hinitP) hM hdd hst hkc hks hr ht
  exact ⟨t, hstep₁ _ fun acts => by rw [doInvoke_state]; exact a1, a2⟩
theorem XR.callV {index b : Nat} {C : String} (hd : decode (xcc mi) pc = .ok (.invokevirtual index, 3)) (hl : Cond.methodLink (xy mi).cls index (xy mj) ∈ xTs) (hinst : Cond.instanceMethod (xy mj) ∈ xTs) (hsel : Cond.selects C (xy mj) (xy mj) ∈ xTs) (hinit : Cond.initialized (xy mj).cls ∈ xTs) (hcd : xCd mj) (hy : (xy mj).cls ≠ "java/lang/invoke/MethodHandle" ∧ (xy mj).cls ≠ "java/lang/invoke/VarHandle")
    {q ci N : Nat} {Tu : u_T} {fs : List Value} (hb : b = xB E + q) (hq : q < w.1) (he : xen E w.2.1 q (w.2.2 q) = .inr (ci, fs)) (hc : vwCl[ci]? = some (C, Tu, N))
    (hlen : (parseMethodDescriptor (xy mj).desc).map (fun g => g.parameters.length) = some as.length) {st0 : List Value} (hst0 : st0 = as.reverse ++ .ref b :: st) (hM : XC E mj d' kc' ks' (.ref b :: as) w Post') (hdd : d' + 1 ≤ d) (hst : (st.map fun v => v.category).sum + xnL mj ≤ 17) (hkc : kc' ≤ kc) (hks : ks' ≤ ks)
    (hr : ∀ v w', Post' (.inl v) w' → XR E mi d (kc - kc') (ks - ks') Post (pc + 3) L (v.toList ++ st) w') (ht : ∀ C w', Post' (.inr C) w' → XT E mi d (kc - kc') (ks - ks') Post pc L C w') : XR E mi d kc ks Post pc L st0 w := by
  intro p e R s m args below meth c hB H locs cells slots ls hl2 hH hS h1 h2 T hT X
  subst hT; subst hb
  have hts := hB.2.2.2.2.1
  have hC := hB.2.2.2.2.2.2.2.2.2.1
  obtain ⟨r0, g1, cellB, hcell, q2, q3, -⟩ : va_at (xD E) vwCl (xB E + q, .inr (ci, fs)) T.heap := by have := hH.1 q hq; rw [he] at this; exact this
  have hr0 : r0 = (C, Tu, N) := Option.some.inj (g1.symm.trans hc)
  subst hr0
  have hcls : s.vm.findClass C = some cellB.cls := by rw [q2]; exact (hC.2.1.1 ci _ hc).2.1
  obtain ⟨mk, methM, hnamed, hmethM, hstM, habM⟩ := Cond.instanceMethod_spec (hts _ hinst)
  obtain ⟨mk', methM', cM, hnamed', hmethM', hcodeM, -, hlocM, -, -, -, hsigM⟩ := hcd.spec hts
  cases hnamed.symm.trans hnamed'
  cases hmethM.symm.trans hmethM'
  have hlen' : as.length = methM.sig.parameters.length := by rw [hsigM] at hlen; simpa using hlen.symm
  obtain ⟨c2, r2, m2, z1, z2, z3, z4, kP, hkP, hkPi⟩ := Cond.selects_spec (hts _ hsel)
  cases hcls.symm.trans z1
  cases (State.methodFound?_of_named hnamed hy).symm.trans z2
  cases hnamed.symm.trans z3
  have hselP : selectMethod e.platform s.vm cellB.cls mk = .method mk := by rw [Launch.admits_selectMethod X.admits]; exact z4
  have hobj : ∀ z, cellB.vm ≠ .statics z := fun z h => by rw [q3] at h; cases h
  obtain ⟨kI, hkI, -⟩ := className_of_methodNamed hnamed
  have hini : kI.init = .initialized := Cond.initialized_spec (findClass_of_methodNamed hnamed) hkI (hts _ hinit)
  obtain ⟨vm₁, X₁, hstep₁⟩ : ∃ vm₁, ∃ _ : Stand p (xl E) e R s m args below meth c (T.setVm vm₁) locs cells slots, ∀ target, (∀ acts, Steps p.tables e below (doInvoke e ((T.setVm vm₁).setTop (F0 m pc ls st)) acts mk (Value.ref (xB E + q) :: as).toArray).1 target) → Steps p.tables e below (T.setTop (F0 m pc ls st0)) target := by
    obtain ⟨vm₁, X₁, hh⟩ := X.invokevirtual hB.1 hB.2.2.2.1 (hts _ hl) hnamed hmethM hstM hkP hkPi hy (a := xB E + q) (cell := cellB) hcell hobj hselP hmethM habM hkP hkPi (g := F0 m pc ls st0) rfl (argsL := as) (rest := st) hlen' hst0 (by rw [hB.2.1]; exact hd)
    exact ⟨vm₁, X₁, hh⟩
  obtain ⟨k1, hk1, he1⟩ := X₁.warmed.alike.2.2 _ _ hkI
  obtain ⟨t, a1, a2⟩ := xcallD (as := .ref (xB E + q) :: as) X₁ hB hl2 hH hS h1 h2 hd (X₁.named hnamed) (X₁.warmed.methodAt hmethM) hcodeM hlocM hk1 (by rw [he1]; exact hini) hM hdd hst hkc hks hr ht
  exact ⟨t, hstep₁ _ fun acts => by rw [doInvoke_state]; exact a1, a2⟩
theorem XR.callI {index b : Nat} (hd : decode (xcc mi) pc = .ok (.invokespecial index, 3)) (hy1 : (xy mj).name = "<init>") (hl : Cond.methodLink (xy mi).cls index (xy mj) ∈ xTs) (hinst : Cond.instanceMethod (xy mj) ∈ xTs) (hinit : Cond.initialized (xy mj).cls ∈ xTs) (hcdw : Cond.code (xy mj) (xcc mj) (xnL mj) none ∈ xTs) (hy : (xy mj).cls ≠ "java/lang/invoke/MethodHandle" ∧ (xy mj).cls ≠ "java/lang/invoke/VarHandle")
    (hlen : (parseMethodDescriptor (xy mj).desc).map (fun g => g.parameters.length) = some as.length) {st0 : List Value} (hst0 : st0 = as.reverse ++ .ref b :: st) (hM : XC E mj d' kc' ks' (.ref b :: as) w Post') (hdd : d' + 1 ≤ d) (hst : (st.map fun v => v.category).sum + xnL mj ≤ 17) (hkc : kc' ≤ kc) (hks : ks' ≤ ks)
    (hr : ∀ v w', Post' (.inl v) w' → XR E mi d (kc - kc') (ks - ks') Post (pc + 3) L (v.toList ++ st) w') (ht : ∀ C w', Post' (.inr C) w' → XT E mi d (kc - kc') (ks - ks') Post pc L C w') : XR E mi d kc ks Post pc L st0 w := by
  intro p e R s m args below meth c hB H locs cells slots ls hl2 hH hS h1 h2 T hT X
  subst hT
  have hts := hB.2.2.2.2.1
  have hpl : e.platform.magicAccessors = ({} : Platform).magicAccessors := by rw [X.admits.platform]
  obtain ⟨mk, methM, cM, kP, vm₁, hnamed, hmethM, hcodeM, -, hlocalsM, -, hkP, -, hW₁, hstep₁⟩ := Steps.initColdArgs (e := e) X.here hB.1 X.warmed hpl hB.2.2.2.1 hy1 hy (hts _ hl) (hts _ hinst) (hts _ hcdw) (f := F0 m pc ls st0) rfl (argsL := as) (rest := st) (a := b) (fun sig h => by rw [h] at hlen; simpa using hlen.symm) hst0 (by rw [hB.2.1]; exact hd)
  have X₁ := X.noted hW₁
  have hkPi : kP.init = .initialized := Cond.initialized_spec (findClass_of_methodNamed hnamed) hkP (hts _ hinit)
  obtain ⟨k1, hk1, he1⟩ := X₁.warmed.alike.2.2 _ _ hkP
  obtain ⟨t, a1, a2⟩ := xcallD (as := .ref b :: as) X₁ hB hl2 hH hS h1 h2 hd (X₁.named hnamed) (X₁.warmed.methodAt hmethM) hcodeM hlocalsM hk1 (by rw [he1]; exact hkPi) hM hdd hst hkc hks hr ht
  exact ⟨t, hstep₁ _ fun acts => by rw [doInvoke_state]; exact a1, a2⟩
/-- thrown, and no handler here -/
theorem XT.leave {C : String} (hout : ∀ x ∈ xhs mi, ¬ (x.1 ≤ pc ∧ pc < x.2.1)) (hP : Post (.inr C) w) : XT E mi d kc ks Post pc L C w := by
  intro p e R s m args below meth c hB H locs cells slots ls st x hl hH hex hS h1 h2 T hT X
  have hC := hB.2.2.2.2.2.2.2.2.2.1
  have X := stand_widen X (show cells ≤ cells + kc - 1 + 1 by omega) (show slots ≤ slots + ks - 6 + 6 by omega)
  have hex2 := hB.2.2.2.2.2.2.2.2.1
  obtain ⟨hst, hr, he, hW, hsame⟩ := X.leaveThrown x (g := F0 m pc ls st) rfl rfl rfl (fun z hz => by
    have hm : (z.startPc, z.endPc, z.handlerPc, z.catchType) ∈ xhs mi := by rw [← hex2]; exact List.mem_map.mpr ⟨z, hz, rfl⟩
    have := hout _ hm
    simp only [covers, Bool.and_eq_false_imp, decide_eq_true_eq, decide_eq_false_iff_not]
    intro q1 q2
    exact this ⟨q1, q2⟩) hB.2.2.2.2.2.2.1
  refine ⟨_, hst, .threw x, hr, he, ⟨w, C, hP, ?_, ?_⟩, hW, fun q hq => ?_, locs, hsame, hS.2.2⟩
  · show xH E w (T.setFrames _).heap
    have : (T.setFrames (.throwing x :: below)).heap = T.heap := by simp [State.setFrames]
    rw [this, hT]; exact hH
  · obtain ⟨cell, c1, c2, c3, c4⟩ := hex
    refine ⟨cell, ?_, c2, ?_, c4⟩
    · have : (T.setFrames (.throwing x :: below)).heap = T.heap := by simp [State.setFrames]
      rw [this, hT]; exact c1
    · have : (T.setFrames (.throwing x :: below)).vm = T.vm := by simp [State.setFrames]
      rw [this, X.warmed.alike.findClass]; exact c3
  · have : (T.setFrames (.throwing x :: below)).heap = T.heap := by simp [State.setFrames]
    rw [this, hT]; exact xS.old hC hS q hq
end XCalls
end
section
/-! catching: the table's rows in their order, their classes resolved or not yet -/
def xCat (own C : String) (pc tgt : Nat) : List (Nat × Nat × Nat × Nat) → Prop
  | [] => False
  | h :: r => h.1 ≤ pc ∧ pc < h.2.1 ∧ h.2.2.2 ≠ 0 ∧ ∃ name, Cond.classLink own h.2.2.2 name ∈ xTs ∧ ((Cond.castable C name ∈ xTs ∧ h.2.2.1 = tgt) ∨ (Cond.not (.castable C name) ∈ xTs ∧ xCat own C pc tgt r))
theorem xfind {e : Env} {s : State} {A : Array Value} {f : JFrame} {a : Addr} {cell : Cell} {own C : String} {tgt : Nat} (hts : ∀ x ∈ xTs, x.before A s = true) (hpl : e.platform.magicAccessors = ({} : Platform).magicAccessors) (hown : s.vm.findClass own = some f.method.cls) (hobj : ∀ k, cell.vm ≠ .statics k) (hC : s.vm.findClass C = some cell.cls) :
    ∀ (t : List ClassFile.ExceptionTableEntry) (S : State), s.WarmedH S.vm → S.heap[a]? = some cell → xCat own C f.pc tgt (t.map fun x => (x.startPc, x.endPc, x.handlerPc, x.catchType)) →
      ∃ vm', s.WarmedH vm' ∧ ∀ (Q : Handler → Pre) (F : CtlPost) (d : Bool) (acts : List Action), wp (findHandler.go f a t) Q F e d acts S ↔ Q (.found tgt) d acts (S.setVm vm') := by
  intro t
  induction t with
  | nil => intro S _ _ h; exact absurd h id
  | cons x r ih =>
    intro S hW hcell h
    obtain ⟨p1, p2, p3, name, hlink, hcase⟩ := h
    have p1' : x.startPc ≤ f.pc := p1
    have p2' : f.pc < x.endPc := p2
    have p3' : x.catchType ≠ 0 := p3
    obtain ⟨c', hc', hcl⟩ := Cond.classLink_spec hown (hts _ hlink) e.platform hpl
    obtain ⟨dk, _, _, kt, hd, _, _, _, _, hkt, _, hopen⟩ := hcl.here
    have hW' : s.WarmedH (S.vm.noted f.method.cls x.catchType (.cls c')) := hW.noted hd hopen (State.rightAt_cls hcl)
    obtain ⟨ha, ht⟩ := (resolveClass_links e.toSetting (hW.classLinks hcl)).op (op := VmOp.resolveClass f.method.cls x.catchType) rfl
    obtain ⟨k0, hk0, -⟩ := Vm.findClass_spec hC
    obtain ⟨k1, hk1, -⟩ := hW'.alike.2.2 _ _ hk0
    obtain ⟨k2, hk2, -⟩ := hW'.alike.2.2 _ _ hkt
    rcases hcase with ⟨hy, hpc⟩ | ⟨hno, hr⟩
    · have hpc' : x.handlerPc = tgt := hpc
      obtain ⟨c0, t0, f1, f2, f3⟩ := Cond.castable_spec (hts _ hy)
      cases hC.symm.trans f1
      cases hc'.symm.trans f2
      have hfit : (S.vm.noted f.method.cls x.catchType (.cls c')).assignable cell.cls c' = true := by rw [hW'.alike.assignable]; exact f3
      refine ⟨_, hW', fun Q F d acts => ?_⟩
      simp [findHandler.go, p1', p2', p3', ha, ht, hcell, hobj, hk1, hk2, hfit, hpc', VmOp.dirties, VmOp.acts]
    · have hv := Cond.holds_not_iff.mp (hts _ hno)
      simp only [Cond.value, hC, hc'] at hv
      have hfit : (S.vm.noted f.method.cls x.catchType (.cls c')).assignable cell.cls c' = false := by rw [hW'.alike.assignable]; exact Option.some.inj hv
      obtain ⟨vm', g1, g2⟩ := ih (S.setVm (S.vm.noted f.method.cls x.catchType (.cls c'))) hW' hcell hr
      refine ⟨vm', g1, fun Q F d acts => ?_⟩
      have := g2 Q F d acts
      simp [findHandler.go, p1', p2', p3', ha, ht, hcell, hobj, hk1, hk2, hfit, VmOp.dirties, VmOp.acts] at this ⊢
      exact this
theorem xcaught {tb : Tables} {e : Env} {u target : State} {g : JFrame} {c : Code} {below : List Frame} {a : Addr} (h : At u g.method c below) {pc : Nat} {vm' : Vm}
    (hf : ∀ (Q : Handler → Pre) (F : CtlPost) (d : Bool) (acts : List Action), wp (findHandler g a) Q F e d acts ((u.setTop g).pushFrame (.throwing a)) ↔ Q (.found pc) d acts (((u.setTop g).pushFrame (.throwing a)).setVm vm'))
    (hrest : Steps tb e below ((u.setVm vm').setTop { g with pc := pc, stack := [.ref a] }) target) : Steps tb e below ((u.setTop g).pushFrame (.throwing a)) target := by
  obtain ⟨hgo, hw⟩ := h.throwing a
  refine Steps.head hgo hw ?_
  obtain ⟨g₀, hg⟩ := Option.isSome_iff_exists.mp h.top
  obtain ⟨r, hr⟩ := State.topJava?_eq_some.mp hg
  have key : (stepThrowing e ((u.setTop g).pushFrame (.throwing a)) a (.java g :: u.frames.tail)).1 = (((u.setTop g).pushFrame (.throwing a)).setVm vm').setFrames (.java { g with pc := pc, stack := [.ref a] } :: u.frames.tail) := by
    simp only [stepThrowing, searchFrame, vmDo]
    generalize hz : Sem.go _ e false [] _ = res
    obtain ⟨as, rfl, -⟩ := Sem.eq_ok_of hz (a := Handler.found pc) (s' := ((u.setTop g).pushFrame (.throwing a)).setVm vm') (acts' := []) (by simp [hf _ _ _ _])
    rfl
  rw [stepThread_throwing (frames_entered h.top _), key, hr, List.tail_cons, State.pushFrame, State.setTop_of_frames _ hr]
  have hr' : (u.setVm vm').frames = .java g₀ :: r := hr
  rw [State.setTop_of_frames _ hr'] at hrest
  have e1 : ∀ (F G : List Frame), ((u.setFrames F).setVm vm').setFrames G = (u.setVm vm').setFrames G := fun F G => by
    have : (u.setFrames F).setVm vm' = (u.setVm vm').setFrames F := rfl
    rw [this, State.setFrames_setFrames]
  rw [State.setFrames_setFrames, e1]
  exact hrest
section XThrows
variable {E : xE} {mi : xMI} {d kc ks pc : Nat} {Post : xO → xWd → Prop} {L st : List Value} {w : xWd}
theorem XT.catch {C : String} {tgt : Nat} (hcat : xCat (xy mi).cls C pc tgt (xhs mi)) (k : ∀ x, XR E mi d kc ks Post tgt L [.ref x] w) : XT E mi d (kc + 1) (ks + 6) Post pc L C w := by
  intro p e R s m args below meth c hB H locs cells slots ls st x hl hH hex hS h1 h2 T hT X
  subst hT
  obtain ⟨cell, c1, c2, c3, c4⟩ := hex
  have hpl : e.platform.magicAccessors = ({} : Platform).magicAccessors := by rw [X.admits.platform]
  have hobj : ∀ k, cell.vm ≠ .statics k := fun k h => by rw [h] at c2; cases c2
  have hex2 := hB.2.2.2.2.2.2.2.2.1
  rw [← hex2] at hcat
  obtain ⟨vm', hW', hq⟩ := xfind (e := e) (f := F0 m pc ls st) (a := x) hB.2.2.2.2.1 hpl hB.2.2.2.1 hobj c3 c.exceptionTable.toList ((T.setTop (F0 m pc ls st)).pushFrame (.throwing x)) (by rw [Stand.throwing_vm]; exact X.warmed) (by rw [Stand.throwing_heap]; exact c1) hcat
  have X' := X.noted hW'
  obtain ⟨t, a1, a2⟩ := k x p e R s m args below meth c hB T.heap locs cells slots ls hl hH hS (by omega) (by omega) (T.setVm vm') rfl X'
  refine ⟨t, xcaught (g := F0 m pc ls st) X.here (fun Q F d acts => ?_) a1, ?_⟩
  · rw [W.findHandler_eq (meth := meth) (code := c) (by rw [Stand.throwing_vm]; exact X.method') X.code]
    exact hq Q F d acts
  · have e1 : cells + (kc + 1) - 1 = cells + kc := by omega
    have e2 : slots + (ks + 6) - 6 = slots + ks := by omega
    rw [e1, e2]; exact a2
/-- a walk may begin anew where it stands -/
theorem xrebase {p : Program} {l : Launch} {e : Env} {R : Room} {s : State} {m : MethodId} {args : Array Value} {below : List Frame} {meth : Method} {c : Code} {T : State} {locs : List Loc} {cells slots k n : Nat}
    (X : Stand p l e R s m args below meth c T locs cells slots) (hk : cells + k ≤ R.cells) (hn : slots + n ≤ R.slots) :
    ∃ s' : State, s'.heap = T.heap ∧ s'.vm = s.vm ∧ Stand p l e { R with cells := k, slots := n } s' m args below meth c T [] 0 0 ∧
      ∀ t : State, s'.sameButNew ({ t with vm := s'.vm } : State) [] k n → s.sameButNew ({ t with vm := s.vm } : State) locs (cells + k) (slots + n) := by
  have e1 := X.same.1
  have hdrop : T.heap.toList.drop T.heap.size = [] := List.drop_eq_nil_of_le (by simp)
  refine ⟨({ s with heap := T.heap, slotsUsed := T.slotsUsed } : State), rfl, rfl, ⟨X.admits, X.cas, X.clock, X.frames, ?_, X.hears, X.method, X.code, X.here, X.tail, X.warmed, X.limits, X.bytes, e1, Nat.le_refl _, Nat.le_refl _, ?_, ?_, fun a cl h => ⟨cl, h, rfl, rfl, fun _ _ => rfl⟩⟩, ?_⟩
  · have hr := X.room
    have hb := X.book
    have hz := X.heapSize
    have hu := X.used
    simp only [State.hasRoom, Bool.and_eq_true, decide_eq_true_eq] at hr ⊢
    obtain ⟨⟨⟨⟨r1, r2⟩, r3⟩, r4⟩, r5⟩ := hr
    refine ⟨⟨⟨⟨r1, r2⟩, ?_⟩, ?_⟩, hb⟩
    · show T.heap.size + k ≤ _
      omega
    · show T.slotsUsed + n ≤ _
      omega
  · show T.slotsUsed = T.slotsUsed + ((T.heap.toList.drop T.heap.size).map (·.slots.size)).sum
    rw [hdrop]; rfl
  · show ((T.heap.toList.drop T.heap.size).map (·.slots.size)).sum ≤ 0
    rw [hdrop]; exact Nat.le_refl _
  · intro t h
    have h3 : (T.setVm s.vm).sameButNew ({ t with vm := s.vm } : State) [] k n := by
      obtain ⟨q1, q2, q3, q4, q5, q6⟩ := h
      refine ⟨?_, q2, q3, q4, q5, q6⟩
      have e2 : (T.setVm s.vm) = ({ s with heap := T.heap, slotsUsed := T.slotsUsed } : State).setFrames T.frames := e1
      rw [e2, State.setFrames_setFrames]
      exact q1
    have h4 := X.same.trans h3
    rw [List.append_nil] at h4
    exact h4
theorem xH.grown {H H1 : Heap} (h : xH E w H) (hw : ¬ w.1 < 26) (hz : H.size ≤ H1.size) (ho : ∀ a, a < H.size → H1[a]? = H[a]?) : xH E w H1 :=
  ⟨fun k hk => (h.1 k hk).kept (ho _ (show xB E + k < H.size by have := h.2.1; omega)), Nat.le_trans h.2.1 hz, fun q => absurd q hw⟩
theorem XR.throw {index ic : Nat} {C : String} {names : List String} (hd0 : decode (xcc mi) pc = .ok (.new index, 3)) (hd1 : decode (xcc mi) (pc + 3) = .ok (.dup, 1)) (hd2 : decode (xcc mi) (pc + 3 + 1) = .ok (.invokespecial ic, 3)) (hd3 : decode (xcc mi) (pc + 3 + 1 + 3) = .ok (.athrow, 1))
    (hcl : Cond.classLink (xy mi).cls index C ∈ xTs) (hins : Cond.instantiable C 6 ∈ xTs) (hini : Cond.initialized C ∈ xTs) (hfc : Bundle.fit C = true) (hfn : ∀ n ∈ names, Bundle.fit n = true) (hat : ∀ a ∈ Bundle.ownAtoms0 (xy mi).cls ic C names, a ∈ xTs ∨ a ∈ xTw)
    (hw : ¬ w.1 < 26) (hout : ∀ x ∈ xhs mi, ¬ (x.1 ≤ pc + 3 + 1 + 3 ∧ pc + 3 + 1 + 3 < x.2.1)) (hdd : names.length + 3 < d) (hst : (st.map fun v => v.category).sum ≤ 8) (hP : Post (.inr C) w) : XR E mi d kc ks Post pc L st w := by
  intro p e R s m args below meth c hB H locs cells slots ls hl hH hS h1 h2 T hT X
  subst hT
  have hC := hB.2.2.2.2.2.2.2.2.2.1
  have hR := hB.2.2.2.2.2.2.2.2.2.2
  have hts := hB.2.2.2.2.1
  have hex2 := hB.2.2.2.2.2.2.2.2.1
  have hlocks := hB.2.2.2.2.2.2.1
  obtain ⟨s', eh, ev, X0, hback⟩ := xrebase X (k := 1) (n := 6) (by omega) (by omega)
  have hW0 : s.WarmedH s'.vm := by rw [ev]; exact State.WarmedH.refl s
  have hts0 : ∀ x ∈ xTs, x.before args s' = true := fun x hx => xTs_good x hx s s' args args hW0 (hts x hx)
  have htw0 : ∀ x ∈ xTw, x.before args s' = true := fun x hx => hC.2.2.2.2 s' hW0.alike (fun q hq => by rw [eh]; exact xS.old hC hS q hq) args x hx
  have htr : e.platform.stackTraces = false := by rw [X.admits.platform]; exact hC.1
  have hown : s'.vm.findClass (xy mi).cls = some m.cls := by rw [ev]; exact hB.2.2.2.1
  have hWalk : W p (xl E) e { R with cells := 1, slots := 6 } s' m args below meth c T.heap [] 0 0 (fun t => t.status = .running ∧ Ended t below (.threw T.heap.size) ∧ s'.WarmedH t.vm ∧ s'.sameButNew ({ t with vm := s'.vm } : State) [] (0 + 1) (0 + 6) ∧ ∃ ce, t.heap[T.heap.size]? = some ce ∧ ce.vm = .none ∧ s'.vm.findClass C = some ce.cls) (F0 m pc ls st) := by
    refine W.newc hB.1 hB.2.1 (own := (xy mi).cls) hown (hts0 _ hcl) (hts0 _ hins) (hts0 _ hini) rfl hd0 (Nat.le_refl _) (Nat.le_refl _) fun cC kC g1 g2 g3 g4 => ?_
    refine lv_dup hB.1 hB.2.1 hd1 rfl ?_
    intro T2 hT2 X2
    have hcell : T2.heap[T.heap.size]? = some (freshCell cC kC) := by rw [hT2]; simp [freshCell]
    have hout2 : ∀ x ∈ c.exceptionTable.toList, covers x (pc + 3 + 1 + 3) = false := fun z hz => by
      have hm : (z.startPc, z.endPc, z.handlerPc, z.catchType) ∈ xhs mi := by rw [← hex2]; exact List.mem_map.mpr ⟨z, hz, rfl⟩
      have := hout _ hm
      simp only [covers, Bool.and_eq_false_imp, decide_eq_true_eq, decide_eq_false_iff_not]
      intro q1 q2
      exact this ⟨q1, q2⟩
    have hloc : 2 * (F0 m (pc + 3 + 1) ls (.ref T.heap.size :: .ref T.heap.size :: st)).monitorRoom + ((Value.ref T.heap.size :: st).map fun v => v.category).sum + (13 * (names.length + 1) + 41) ≤ R.locals := by
      have := hR.2
      unfold xlo at this
      show 2 * 0 + (1 + (st.map fun v => v.category).sum) + _ ≤ R.locals
      omega
    have hfr : names.length + 3 < R.frames := by omega
    obtain ⟨U, u1, u2, u3, u4, u5, ce, u6, u7⟩ := X2.ctorThrow0 hB.1 htr (own := (xy mi).cls) (cls := C) (names := names) (ic := ic) hown hfc hfn (fun a ha => by
        rcases hat a ha with q | q
        · exact hts0 a q
        · exact htw0 a q) (fun x hx => by cases hx) (a := T.heap.size) g1 g2 hcell (by rw [eh]; exact Nat.le_refl _) (g := F0 m (pc + 3 + 1) ls (.ref T.heap.size :: .ref T.heap.size :: st)) rfl (by rw [hB.2.2.1]; exact hl.1) rfl rfl (rest := st) rfl
        (by rw [hB.2.1]; exact hd2) (by rw [hB.2.1]; exact hd3) hout2 hfr hloc hlocks
    exact ⟨U, u1, u2, u3, u4, u5, ce, u6, u7.vm, u7.cls⟩
  obtain ⟨t, a1, b1, b2, b3, b4, ce, b5, b6, b7⟩ := hWalk T rfl X0
  have hz : T.heap.size ≤ t.heap.size := by rw [← eh]; exact b4.2.1
  have ho : ∀ a, a < T.heap.size → t.heap[a]? = T.heap[a]? := fun a ha => by
    have hx : T.heap[a]? = some T.heap[a] := Array.getElem?_eq_getElem ha
    rw [hx]
    exact b4.old_cell (by rw [eh]; exact hx)
  have h4 := (hback t b4).mono (show cells + 1 ≤ cells + kc + 1 by omega) (show slots + 6 ≤ slots + ks + 6 by omega)
  have hWt : s.WarmedH t.vm := State.WarmedH.trans hW0 b3
  refine ⟨t, a1, .threw T.heap.size, b1, b2, ⟨w, C, hP, hH.grown hw hz ho, ce, b5, by rw [b6]; rfl, by rw [b3.alike.findClass]; exact b7, Nat.le_trans (Nat.le_add_right _ _) hH.2.1⟩, hWt, fun q hq => ?_, locs, h4, hS.2.2⟩
  rw [ho q (Nat.lt_of_lt_of_le hq (Nat.le_trans (Nat.le_add_right _ _) hH.2.1))]
  exact xS.old hC hS q hq
end XThrows
end
section
/-! the methods: their code, the words on them -/
def xKS (mj : xMI) (n : Nat) : Prop := Cond.static (xy mj) ∈ xTs ∧ Cond.initialized (xy mj).cls ∈ xTs ∧ xCd mj ∧ ((xy mj).cls ≠ "java/lang/invoke/MethodHandle" ∧ (xy mj).cls ≠ "java/lang/invoke/VarHandle") ∧ (parseMethodDescriptor (xy mj).desc).map (fun g => g.parameters.length) = some n
def xKV (mj : xMI) (C : String) (n : Nat) : Prop := Cond.instanceMethod (xy mj) ∈ xTs ∧ Cond.selects C (xy mj) (xy mj) ∈ xTs ∧ Cond.initialized (xy mj).cls ∈ xTs ∧ xCd mj ∧ ((xy mj).cls ≠ "java/lang/invoke/MethodHandle" ∧ (xy mj).cls ≠ "java/lang/invoke/VarHandle") ∧ (parseMethodDescriptor (xy mj).desc).map (fun g => g.parameters.length) = some n
def xKI (mj : xMI) (n : Nat) : Prop := Cond.instanceMethod (xy mj) ∈ xTs ∧ Cond.initialized (xy mj).cls ∈ xTs ∧ Cond.code (xy mj) (xcc mj) (xnL mj) none ∈ xTs ∧ ((xy mj).cls ≠ "java/lang/invoke/MethodHandle" ∧ (xy mj).cls ≠ "java/lang/invoke/VarHandle") ∧ (parseMethodDescriptor (xy mj).desc).map (fun g => g.parameters.length) = some n ∧ (xy mj).name = "<init>"
abbrev i_B_init : xMI := ((⟨"PageBanks", "<init>", "()V"⟩ : MethodName), prog_1_method_1_code, 1, none, [])
theorem cd_B_init : xCd i_B_init := Or.inl ⟨xT 51 (by decide +kernel) (by decide +kernel), rfl⟩
theorem ki_B_init : xKI i_B_init 0 := ⟨xT 50 (by decide +kernel) (by decide +kernel), xT 32 (by decide +kernel) (by decide +kernel), xT 51 (by decide +kernel) (by decide +kernel), ⟨by decide +kernel, by decide +kernel⟩, by decide +kernel, rfl⟩
abbrev i_T_init : xMI := ((⟨"PageBanks$Tree", "<init>", "()V"⟩ : MethodName), prog_3_method_1_code, 1, none, [])
theorem cd_T_init : xCd i_T_init := Or.inl ⟨xT 59 (by decide +kernel) (by decide +kernel), rfl⟩
theorem ki_T_init : xKI i_T_init 0 := ⟨xT 58 (by decide +kernel) (by decide +kernel), xT 33 (by decide +kernel) (by decide +kernel), xT 59 (by decide +kernel) (by decide +kernel), ⟨by decide +kernel, by decide +kernel⟩, by decide +kernel, rfl⟩
abbrev i_A_fill : xMI := ((⟨"java/util/Arrays", "fill", "([II)V"⟩ : MethodName), prog_15_method_103_code, 4, none, [])
theorem cd_A_fill : xCd i_A_fill := Or.inl ⟨xT 63 (by decide +kernel) (by decide +kernel), rfl⟩
theorem ks_A_fill : xKS i_A_fill 2 := ⟨xT 62 (by decide +kernel) (by decide +kernel), xT 34 (by decide +kernel) (by decide +kernel), cd_A_fill, ⟨by decide +kernel, by decide +kernel⟩, by decide +kernel⟩
abbrev i_S_init : xMI := ((⟨"PageBanks$Store", "<init>", "()V"⟩ : MethodName), prog_2_method_1_code, 1, none, [])
theorem cd_S_init : xCd i_S_init := Or.inl ⟨xT 85 (by decide +kernel) (by decide +kernel), rfl⟩
theorem ki_S_init : xKI i_S_init 0 := ⟨xT 84 (by decide +kernel) (by decide +kernel), xT 35 (by decide +kernel) (by decide +kernel), xT 85 (by decide +kernel) (by decide +kernel), ⟨by decide +kernel, by decide +kernel⟩, by decide +kernel, rfl⟩
abbrev i_B_isAlive : xMI := ((⟨"PageBanks", "isAlive", "(I)Z"⟩ : MethodName), prog_1_method_21_code, 3, (some .boolean), [])
theorem cd_B_isAlive : xCd i_B_isAlive := Or.inl ⟨xT 126 (by decide +kernel) (by decide +kernel), rfl⟩
theorem kv_B_isAlive : xKV i_B_isAlive "PageBanks" 1 := ⟨xT 124 (by decide +kernel) (by decide +kernel), xT 125 (by decide +kernel) (by decide +kernel), xT 32 (by decide +kernel) (by decide +kernel), cd_B_isAlive, ⟨by decide +kernel, by decide +kernel⟩, by decide +kernel⟩
abbrev i_B_placeOf : xMI := ((⟨"PageBanks", "placeOf", "(I)I"⟩ : MethodName), prog_1_method_41_code, 1, (some .int), [])
theorem cd_B_placeOf : xCd i_B_placeOf := Or.inl ⟨xT 129 (by decide +kernel) (by decide +kernel), rfl⟩
theorem ks_B_placeOf : xKS i_B_placeOf 1 := ⟨xT 128 (by decide +kernel) (by decide +kernel), xT 32 (by decide +kernel) (by decide +kernel), cd_B_placeOf, ⟨by decide +kernel, by decide +kernel⟩, by decide +kernel⟩
abbrev i_J_floorMod : xMI := ((⟨"java/lang/Math", "floorMod", "(II)I"⟩ : MethodName), prog_10_method_50_code, 3, (some .int), [])
theorem cd_J_floorMod : xCd i_J_floorMod := Or.inl ⟨xT 132 (by decide +kernel) (by decide +kernel), rfl⟩
theorem ks_J_floorMod : xKS i_J_floorMod 2 := ⟨xT 131 (by decide +kernel) (by decide +kernel), xT 44 (by decide +kernel) (by decide +kernel), cd_J_floorMod, ⟨by decide +kernel, by decide +kernel⟩, by decide +kernel⟩
abbrev i_B_versionOf : xMI := ((⟨"PageBanks", "versionOf", "(I)I"⟩ : MethodName), prog_1_method_42_code, 1, (some .int), [])
theorem cd_B_versionOf : xCd i_B_versionOf := Or.inl ⟨xT 135 (by decide +kernel) (by decide +kernel), rfl⟩
theorem ks_B_versionOf : xKS i_B_versionOf 1 := ⟨xT 134 (by decide +kernel) (by decide +kernel), xT 32 (by decide +kernel) (by decide +kernel), cd_B_versionOf, ⟨by decide +kernel, by decide +kernel⟩, by decide +kernel⟩
abbrev i_J_floorDiv : xMI := ((⟨"java/lang/Math", "floorDiv", "(II)I"⟩ : MethodName), prog_10_method_47_code, 3, (some .int), [])
theorem cd_J_floorDiv : xCd i_J_floorDiv := Or.inl ⟨xT 138 (by decide +kernel) (by decide +kernel), rfl⟩
theorem ks_J_floorDiv : xKS i_J_floorDiv 2 := ⟨xT 137 (by decide +kernel) (by decide +kernel), xT 44 (by decide +kernel) (by decide +kernel), cd_J_floorDiv, ⟨by decide +kernel, by decide +kernel⟩, by decide +kernel⟩
abbrev i_S_hasPage : xMI := ((⟨"PageBanks$Store", "hasPage", "(II)Z"⟩ : MethodName), prog_2_method_4_code, 3, (some .boolean), [])
theorem cd_S_hasPage : xCd i_S_hasPage := Or.inl ⟨xT 142 (by decide +kernel) (by decide +kernel), rfl⟩
theorem kv_S_hasPage : xKV i_S_hasPage "PageBanks$Store" 2 := ⟨xT 140 (by decide +kernel) (by decide +kernel), xT 141 (by decide +kernel) (by decide +kernel), xT 35 (by decide +kernel) (by decide +kernel), cd_S_hasPage, ⟨by decide +kernel, by decide +kernel⟩, by decide +kernel⟩
abbrev i_S_isTaken : xMI := ((⟨"PageBanks$Store", "isTaken", "(I)Z"⟩ : MethodName), prog_2_method_2_code, 2, (some .boolean), [])
theorem cd_S_isTaken : xCd i_S_isTaken := Or.inl ⟨xT 146 (by decide +kernel) (by decide +kernel), rfl⟩
theorem kv_S_isTaken : xKV i_S_isTaken "PageBanks$Store" 1 := ⟨xT 144 (by decide +kernel) (by decide +kernel), xT 145 (by decide +kernel) (by decide +kernel), xT 35 (by decide +kernel) (by decide +kernel), cd_S_isTaken, ⟨by decide +kernel, by decide +kernel⟩, by decide +kernel⟩
abbrev i_S_ownerOf : xMI := ((⟨"PageBanks$Store", "ownerOf", "(I)I"⟩ : MethodName), prog_2_method_6_code, 2, (some .int), [])
theorem cd_S_ownerOf : xCd i_S_ownerOf := Or.inl ⟨xT 150 (by decide +kernel) (by decide +kernel), rfl⟩
theorem kv_S_ownerOf : xKV i_S_ownerOf "PageBanks$Store" 1 := ⟨xT 148 (by decide +kernel) (by decide +kernel), xT 149 (by decide +kernel) (by decide +kernel), xT 35 (by decide +kernel) (by decide +kernel), cd_S_ownerOf, ⟨by decide +kernel, by decide +kernel⟩, by decide +kernel⟩
abbrev i_T_isDying : xMI := ((⟨"PageBanks$Tree", "isDying", "(I)Z"⟩ : MethodName), prog_3_method_3_code, 2, (some .boolean), [])
theorem cd_T_isDying : xCd i_T_isDying := Or.inl ⟨xT 154 (by decide +kernel) (by decide +kernel), rfl⟩
theorem kv_T_isDying : xKV i_T_isDying "PageBanks$Tree" 1 := ⟨xT 152 (by decide +kernel) (by decide +kernel), xT 153 (by decide +kernel) (by decide +kernel), xT 33 (by decide +kernel) (by decide +kernel), cd_T_isDying, ⟨by decide +kernel, by decide +kernel⟩, by decide +kernel⟩
abbrev i_B_refused : xMI := ((⟨"PageBanks", "refused", "()I"⟩ : MethodName), prog_1_method_22_code, 1, (some .int), [])
theorem cd_B_refused : xCd i_B_refused := Or.inl ⟨xT 158 (by decide +kernel) (by decide +kernel), rfl⟩
theorem kv_B_refused : xKV i_B_refused "PageBanks" 0 := ⟨xT 156 (by decide +kernel) (by decide +kernel), xT 157 (by decide +kernel) (by decide +kernel), xT 32 (by decide +kernel) (by decide +kernel), cd_B_refused, ⟨by decide +kernel, by decide +kernel⟩, by decide +kernel⟩
abbrev i_B_count : xMI := ((⟨"PageBanks", "count", "(I)I"⟩ : MethodName), prog_1_method_23_code, 2, (some .int), [])
theorem cd_B_count : xCd i_B_count := Or.inl ⟨xT 162 (by decide +kernel) (by decide +kernel), rfl⟩
theorem kv_B_count : xKV i_B_count "PageBanks" 1 := ⟨xT 160 (by decide +kernel) (by decide +kernel), xT 161 (by decide +kernel) (by decide +kernel), xT 32 (by decide +kernel) (by decide +kernel), cd_B_count, ⟨by decide +kernel, by decide +kernel⟩, by decide +kernel⟩
abbrev i_S_freePlaces : xMI := ((⟨"PageBanks$Store", "freePlaces", "()I"⟩ : MethodName), prog_2_method_11_code, 3, (some .int), [])
theorem cd_S_freePlaces : xCd i_S_freePlaces := Or.inl ⟨xT 166 (by decide +kernel) (by decide +kernel), rfl⟩
theorem kv_S_freePlaces : xKV i_S_freePlaces "PageBanks$Store" 0 := ⟨xT 164 (by decide +kernel) (by decide +kernel), xT 165 (by decide +kernel) (by decide +kernel), xT 35 (by decide +kernel) (by decide +kernel), cd_S_freePlaces, ⟨by decide +kernel, by decide +kernel⟩, by decide +kernel⟩
abbrev i_S_isFree : xMI := ((⟨"PageBanks$Store", "isFree", "(I)Z"⟩ : MethodName), prog_2_method_3_code, 2, (some .boolean), [])
theorem cd_S_isFree : xCd i_S_isFree := Or.inl ⟨xT 170 (by decide +kernel) (by decide +kernel), rfl⟩
theorem kv_S_isFree : xKV i_S_isFree "PageBanks$Store" 1 := ⟨xT 168 (by decide +kernel) (by decide +kernel), xT 169 (by decide +kernel) (by decide +kernel), xT 35 (by decide +kernel) (by decide +kernel), cd_S_isFree, ⟨by decide +kernel, by decide +kernel⟩, by decide +kernel⟩
abbrev i_S_retiredPlaces : xMI := ((⟨"PageBanks$Store", "retiredPlaces", "()I"⟩ : MethodName), prog_2_method_12_code, 1, (some .int), [])
theorem cd_S_retiredPlaces : xCd i_S_retiredPlaces := Or.inl ⟨xT 174 (by decide +kernel) (by decide +kernel), rfl⟩
theorem kv_S_retiredPlaces : xKV i_S_retiredPlaces "PageBanks$Store" 0 := ⟨xT 172 (by decide +kernel) (by decide +kernel), xT 173 (by decide +kernel) (by decide +kernel), xT 35 (by decide +kernel) (by decide +kernel), cd_S_retiredPlaces, ⟨by decide +kernel, by decide +kernel⟩, by decide +kernel⟩
abbrev i_S_pages : xMI := ((⟨"PageBanks$Store", "pages", "()I"⟩ : MethodName), prog_2_method_10_code, 1, (some .int), [])
theorem cd_S_pages : xCd i_S_pages := Or.inl ⟨xT 179 (by decide +kernel) (by decide +kernel), rfl⟩
theorem kv_S_pages : xKV i_S_pages "PageBanks$Store" 0 := ⟨xT 177 (by decide +kernel) (by decide +kernel), xT 178 (by decide +kernel) (by decide +kernel), xT 35 (by decide +kernel) (by decide +kernel), cd_S_pages, ⟨by decide +kernel, by decide +kernel⟩, by decide +kernel⟩
abbrev i_T_subtreeSize : xMI := ((⟨"PageBanks$Tree", "subtreeSize", "(I)I"⟩ : MethodName), prog_3_method_13_code, 4, (some .int), [])
theorem cd_T_subtreeSize : xCd i_T_subtreeSize := Or.inl ⟨xT 183 (by decide +kernel) (by decide +kernel), rfl⟩
theorem kv_T_subtreeSize : xKV i_T_subtreeSize "PageBanks$Tree" 1 := ⟨xT 181 (by decide +kernel) (by decide +kernel), xT 182 (by decide +kernel) (by decide +kernel), xT 33 (by decide +kernel) (by decide +kernel), cd_T_subtreeSize, ⟨by decide +kernel, by decide +kernel⟩, by decide +kernel⟩
abbrev i_T_isBank : xMI := ((⟨"PageBanks$Tree", "isBank", "(I)Z"⟩ : MethodName), prog_3_method_2_code, 2, (some .boolean), [])
theorem cd_T_isBank : xCd i_T_isBank := Or.inl ⟨xT 187 (by decide +kernel) (by decide +kernel), rfl⟩
theorem kv_T_isBank : xKV i_T_isBank "PageBanks$Tree" 1 := ⟨xT 185 (by decide +kernel) (by decide +kernel), xT 186 (by decide +kernel) (by decide +kernel), xT 33 (by decide +kernel) (by decide +kernel), cd_T_isBank, ⟨by decide +kernel, by decide +kernel⟩, by decide +kernel⟩
abbrev i_T_isWithin : xMI := ((⟨"PageBanks$Tree", "isWithin", "(II)Z"⟩ : MethodName), prog_3_method_12_code, 5, (some .boolean), [])
theorem cd_T_isWithin : xCd i_T_isWithin := Or.inl ⟨xT 191 (by decide +kernel) (by decide +kernel), rfl⟩
theorem kv_T_isWithin : xKV i_T_isWithin "PageBanks$Tree" 2 := ⟨xT 189 (by decide +kernel) (by decide +kernel), xT 190 (by decide +kernel) (by decide +kernel), xT 33 (by decide +kernel) (by decide +kernel), cd_T_isWithin, ⟨by decide +kernel, by decide +kernel⟩, by decide +kernel⟩
abbrev i_B_astray : xMI := ((⟨"PageBanks", "astray", "()I"⟩ : MethodName), prog_1_method_24_code, 3, (some .int), [])
theorem cd_B_astray : xCd i_B_astray := Or.inl ⟨xT 195 (by decide +kernel) (by decide +kernel), rfl⟩
theorem kv_B_astray : xKV i_B_astray "PageBanks" 0 := ⟨xT 193 (by decide +kernel) (by decide +kernel), xT 194 (by decide +kernel) (by decide +kernel), xT 32 (by decide +kernel) (by decide +kernel), cd_B_astray, ⟨by decide +kernel, by decide +kernel⟩, by decide +kernel⟩
abbrev i_S_ownedBy : xMI := ((⟨"PageBanks$Store", "ownedBy", "(I)I"⟩ : MethodName), prog_2_method_20_code, 4, (some .int), [])
theorem cd_S_ownedBy : xCd i_S_ownedBy := Or.inl ⟨xT 200 (by decide +kernel) (by decide +kernel), rfl⟩
theorem kv_S_ownedBy : xKV i_S_ownedBy "PageBanks$Store" 1 := ⟨xT 198 (by decide +kernel) (by decide +kernel), xT 199 (by decide +kernel) (by decide +kernel), xT 35 (by decide +kernel) (by decide +kernel), cd_S_ownedBy, ⟨by decide +kernel, by decide +kernel⟩, by decide +kernel⟩
abbrev i_T_isStray : xMI := ((⟨"PageBanks$Tree", "isStray", "(II)Z"⟩ : MethodName), prog_3_method_22_code, 5, (some .boolean), [])
theorem cd_T_isStray : xCd i_T_isStray := Or.inl ⟨xT 204 (by decide +kernel) (by decide +kernel), rfl⟩
theorem kv_T_isStray : xKV i_T_isStray "PageBanks$Tree" 2 := ⟨xT 202 (by decide +kernel) (by decide +kernel), xT 203 (by decide +kernel) (by decide +kernel), xT 33 (by decide +kernel) (by decide +kernel), cd_T_isStray, ⟨by decide +kernel, by decide +kernel⟩, by decide +kernel⟩
abbrev i_S_countListings : xMI := ((⟨"PageBanks$Store", "countListings", "()V"⟩ : MethodName), prog_2_method_22_code, 2, none, [])
theorem cd_S_countListings : xCd i_S_countListings := Or.inl ⟨xT 208 (by decide +kernel) (by decide +kernel), rfl⟩
theorem kv_S_countListings : xKV i_S_countListings "PageBanks$Store" 0 := ⟨xT 206 (by decide +kernel) (by decide +kernel), xT 207 (by decide +kernel) (by decide +kernel), xT 35 (by decide +kernel) (by decide +kernel), cd_S_countListings, ⟨by decide +kernel, by decide +kernel⟩, by decide +kernel⟩
abbrev i_S_isListedWrongly : xMI := ((⟨"PageBanks$Store", "isListedWrongly", "(I)Z"⟩ : MethodName), prog_2_method_23_code, 2, (some .boolean), [])
theorem cd_S_isListedWrongly : xCd i_S_isListedWrongly := Or.inl ⟨xT 212 (by decide +kernel) (by decide +kernel), rfl⟩
theorem kv_S_isListedWrongly : xKV i_S_isListedWrongly "PageBanks$Store" 1 := ⟨xT 210 (by decide +kernel) (by decide +kernel), xT 211 (by decide +kernel) (by decide +kernel), xT 35 (by decide +kernel) (by decide +kernel), cd_S_isListedWrongly, ⟨by decide +kernel, by decide +kernel⟩, by decide +kernel⟩
abbrev i_B_isWithoutBank : xMI := ((⟨"PageBanks", "isWithoutBank", "(I)Z"⟩ : MethodName), prog_1_method_25_code, 2, (some .boolean), [])
theorem cd_B_isWithoutBank : xCd i_B_isWithoutBank := Or.inl ⟨xT 216 (by decide +kernel) (by decide +kernel), rfl⟩
theorem kv_B_isWithoutBank : xKV i_B_isWithoutBank "PageBanks" 1 := ⟨xT 215 (by decide +kernel) (by decide +kernel), xT 0 (by decide +kernel) (by decide +kernel), xT 32 (by decide +kernel) (by decide +kernel), cd_B_isWithoutBank, ⟨by decide +kernel, by decide +kernel⟩, by decide +kernel⟩
abbrev i_L_bank : xMI := ((⟨"PageBanksLaw", "bank", "(LPageBanks;II[J)I"⟩ : MethodName), method_3_code, 5, (some .int), [(0, 10, 13, 13), (0, 10, 17, 15), (0, 10, 21, 17), (0, 10, 25, 19)])
theorem cd_L_bank : xCd i_L_bank := Or.inr (xT 220 (by decide +kernel) (by decide +kernel))
theorem ks_L_bank : xKS i_L_bank 4 := ⟨xT 219 (by decide +kernel) (by decide +kernel), xT 31 (by decide +kernel) (by decide +kernel), cd_L_bank, ⟨by decide +kernel, by decide +kernel⟩, by decide +kernel⟩
abbrev i_B_bank : xMI := ((⟨"PageBanks", "bank", "(II)I"⟩ : MethodName), prog_1_method_2_code, 4, (some .int), [])
theorem cd_B_bank : xCd i_B_bank := Or.inl ⟨xT 228 (by decide +kernel) (by decide +kernel), rfl⟩
theorem kv_B_bank : xKV i_B_bank "PageBanks" 2 := ⟨xT 226 (by decide +kernel) (by decide +kernel), xT 227 (by decide +kernel) (by decide +kernel), xT 32 (by decide +kernel) (by decide +kernel), cd_B_bank, ⟨by decide +kernel, by decide +kernel⟩, by decide +kernel⟩
abbrev i_B_requireBank : xMI := ((⟨"PageBanks", "requireBank", "(I)V"⟩ : MethodName), prog_1_method_31_code, 2, none, [])
theorem cd_B_requireBank : xCd i_B_requireBank := Or.inl ⟨xT 232 (by decide +kernel) (by decide +kernel), rfl⟩
theorem kv_B_requireBank : xKV i_B_requireBank "PageBanks" 1 := ⟨xT 231 (by decide +kernel) (by decide +kernel), xT 1 (by decide +kernel) (by decide +kernel), xT 32 (by decide +kernel) (by decide +kernel), cd_B_requireBank, ⟨by decide +kernel, by decide +kernel⟩, by decide +kernel⟩
abbrev i_B_requireIndex : xMI := ((⟨"PageBanks", "requireIndex", "(Z)V"⟩ : MethodName), prog_1_method_35_code, 1, none, [])
theorem cd_B_requireIndex : xCd i_B_requireIndex := Or.inl ⟨xT 235 (by decide +kernel) (by decide +kernel), rfl⟩
theorem ks_B_requireIndex : xKS i_B_requireIndex 1 := ⟨xT 234 (by decide +kernel) (by decide +kernel), xT 32 (by decide +kernel) (by decide +kernel), cd_B_requireIndex, ⟨by decide +kernel, by decide +kernel⟩, by decide +kernel⟩
abbrev i_B_isUpToAllPages : xMI := ((⟨"PageBanks", "isUpToAllPages", "(I)Z"⟩ : MethodName), prog_1_method_38_code, 1, (some .boolean), [])
theorem cd_B_isUpToAllPages : xCd i_B_isUpToAllPages := Or.inl ⟨xT 303 (by decide +kernel) (by decide +kernel), rfl⟩
theorem ks_B_isUpToAllPages : xKS i_B_isUpToAllPages 1 := ⟨xT 302 (by decide +kernel) (by decide +kernel), xT 32 (by decide +kernel) (by decide +kernel), cd_B_isUpToAllPages, ⟨by decide +kernel, by decide +kernel⟩, by decide +kernel⟩
abbrev i_B_requireArgument : xMI := ((⟨"PageBanks", "requireArgument", "(Z)V"⟩ : MethodName), prog_1_method_36_code, 1, none, [])
theorem cd_B_requireArgument : xCd i_B_requireArgument := Or.inl ⟨xT 306 (by decide +kernel) (by decide +kernel), rfl⟩
theorem ks_B_requireArgument : xKS i_B_requireArgument 1 := ⟨xT 305 (by decide +kernel) (by decide +kernel), xT 32 (by decide +kernel) (by decide +kernel), cd_B_requireArgument, ⟨by decide +kernel, by decide +kernel⟩, by decide +kernel⟩
abbrev i_B_requireLive : xMI := ((⟨"PageBanks", "requireLive", "(I)V"⟩ : MethodName), prog_1_method_33_code, 2, none, [])
theorem cd_B_requireLive : xCd i_B_requireLive := Or.inl ⟨xT 325 (by decide +kernel) (by decide +kernel), rfl⟩
theorem kv_B_requireLive : xKV i_B_requireLive "PageBanks" 1 := ⟨xT 324 (by decide +kernel) (by decide +kernel), xT 3 (by decide +kernel) (by decide +kernel), xT 32 (by decide +kernel) (by decide +kernel), cd_B_requireLive, ⟨by decide +kernel, by decide +kernel⟩, by decide +kernel⟩
abbrev i_T_stateOf : xMI := ((⟨"PageBanks$Tree", "stateOf", "(I)I"⟩ : MethodName), prog_3_method_4_code, 2, (some .int), [])
theorem cd_T_stateOf : xCd i_T_stateOf := Or.inl ⟨xT 329 (by decide +kernel) (by decide +kernel), rfl⟩
theorem kv_T_stateOf : xKV i_T_stateOf "PageBanks$Tree" 1 := ⟨xT 327 (by decide +kernel) (by decide +kernel), xT 328 (by decide +kernel) (by decide +kernel), xT 33 (by decide +kernel) (by decide +kernel), cd_T_stateOf, ⟨by decide +kernel, by decide +kernel⟩, by decide +kernel⟩
abbrev i_B_requireState : xMI := ((⟨"PageBanks", "requireState", "(Z)V"⟩ : MethodName), prog_1_method_37_code, 1, none, [])
theorem cd_B_requireState : xCd i_B_requireState := Or.inl ⟨xT 332 (by decide +kernel) (by decide +kernel), rfl⟩
theorem ks_B_requireState : xKS i_B_requireState 1 := ⟨xT 331 (by decide +kernel) (by decide +kernel), xT 32 (by decide +kernel) (by decide +kernel), cd_B_requireState, ⟨by decide +kernel, by decide +kernel⟩, by decide +kernel⟩
abbrev i_T_leastUnusedNumber : xMI := ((⟨"PageBanks$Tree", "leastUnusedNumber", "()I"⟩ : MethodName), prog_3_method_9_code, 2, (some .int), [])
theorem cd_T_leastUnusedNumber : xCd i_T_leastUnusedNumber := Or.inl ⟨xT 351 (by decide +kernel) (by decide +kernel), rfl⟩
theorem kv_T_leastUnusedNumber : xKV i_T_leastUnusedNumber "PageBanks$Tree" 0 := ⟨xT 349 (by decide +kernel) (by decide +kernel), xT 350 (by decide +kernel) (by decide +kernel), xT 33 (by decide +kernel) (by decide +kernel), cd_T_leastUnusedNumber, ⟨by decide +kernel, by decide +kernel⟩, by decide +kernel⟩
abbrev i_T_depthOf : xMI := ((⟨"PageBanks$Tree", "depthOf", "(I)I"⟩ : MethodName), prog_3_method_11_code, 4, (some .int), [])
theorem cd_T_depthOf : xCd i_T_depthOf := Or.inl ⟨xT 355 (by decide +kernel) (by decide +kernel), rfl⟩
theorem kv_T_depthOf : xKV i_T_depthOf "PageBanks$Tree" 1 := ⟨xT 353 (by decide +kernel) (by decide +kernel), xT 354 (by decide +kernel) (by decide +kernel), xT 33 (by decide +kernel) (by decide +kernel), cd_T_depthOf, ⟨by decide +kernel, by decide +kernel⟩, by decide +kernel⟩
abbrev i_B_refuse : xMI := ((⟨"PageBanks", "refuse", "(I)V"⟩ : MethodName), prog_1_method_30_code, 2, none, [])
theorem cd_B_refuse : xCd i_B_refuse := Or.inl ⟨xT 359 (by decide +kernel) (by decide +kernel), rfl⟩
theorem kv_B_refuse : xKV i_B_refuse "PageBanks" 1 := ⟨xT 358 (by decide +kernel) (by decide +kernel), xT 4 (by decide +kernel) (by decide +kernel), xT 32 (by decide +kernel) (by decide +kernel), cd_B_refuse, ⟨by decide +kernel, by decide +kernel⟩, by decide +kernel⟩
abbrev i_T_open : xMI := ((⟨"PageBanks$Tree", "open", "(III)V"⟩ : MethodName), prog_3_method_10_code, 4, none, [])
theorem cd_T_open : xCd i_T_open := Or.inl ⟨xT 378 (by decide +kernel) (by decide +kernel), rfl⟩
theorem kv_T_open : xKV i_T_open "PageBanks$Tree" 3 := ⟨xT 376 (by decide +kernel) (by decide +kernel), xT 377 (by decide +kernel) (by decide +kernel), xT 33 (by decide +kernel) (by decide +kernel), cd_T_open, ⟨by decide +kernel, by decide +kernel⟩, by decide +kernel⟩
abbrev i_L_buy : xMI := ((⟨"PageBanksLaw", "buy", "(LPageBanks;I[J)I"⟩ : MethodName), method_4_code, 4, (some .int), [(0, 9, 12, 13), (0, 9, 15, 17), (0, 9, 18, 19)])
theorem cd_L_buy : xCd i_L_buy := Or.inr (xT 381 (by decide +kernel) (by decide +kernel))
theorem ks_L_buy : xKS i_L_buy 3 := ⟨xT 380 (by decide +kernel) (by decide +kernel), xT 31 (by decide +kernel) (by decide +kernel), cd_L_buy, ⟨by decide +kernel, by decide +kernel⟩, by decide +kernel⟩
abbrev i_B_buy : xMI := ((⟨"PageBanks", "buy", "(I)I"⟩ : MethodName), prog_1_method_3_code, 2, (some .int), [])
theorem cd_B_buy : xCd i_B_buy := Or.inl ⟨xT 385 (by decide +kernel) (by decide +kernel), rfl⟩
theorem kv_B_buy : xKV i_B_buy "PageBanks" 1 := ⟨xT 383 (by decide +kernel) (by decide +kernel), xT 384 (by decide +kernel) (by decide +kernel), xT 32 (by decide +kernel) (by decide +kernel), cd_B_buy, ⟨by decide +kernel, by decide +kernel⟩, by decide +kernel⟩
abbrev i_B_buyNeighbours : xMI := ((⟨"PageBanks", "buyNeighbours", "(II)I"⟩ : MethodName), prog_1_method_26_code, 5, (some .int), [])
theorem cd_B_buyNeighbours : xCd i_B_buyNeighbours := Or.inl ⟨xT 389 (by decide +kernel) (by decide +kernel), rfl⟩
theorem kv_B_buyNeighbours : xKV i_B_buyNeighbours "PageBanks" 2 := ⟨xT 388 (by decide +kernel) (by decide +kernel), xT 5 (by decide +kernel) (by decide +kernel), xT 32 (by decide +kernel) (by decide +kernel), cd_B_buyNeighbours, ⟨by decide +kernel, by decide +kernel⟩, by decide +kernel⟩
abbrev i_T_reservedBy : xMI := ((⟨"PageBanks$Tree", "reservedBy", "(I)I"⟩ : MethodName), prog_3_method_7_code, 2, (some .int), [])
theorem cd_T_reservedBy : xCd i_T_reservedBy := Or.inl ⟨xT 393 (by decide +kernel) (by decide +kernel), rfl⟩
theorem kv_T_reservedBy : xKV i_T_reservedBy "PageBanks$Tree" 1 := ⟨xT 391 (by decide +kernel) (by decide +kernel), xT 392 (by decide +kernel) (by decide +kernel), xT 33 (by decide +kernel) (by decide +kernel), cd_T_reservedBy, ⟨by decide +kernel, by decide +kernel⟩, by decide +kernel⟩
abbrev i_J_min : xMI := ((⟨"java/lang/Math", "min", "(II)I"⟩ : MethodName), prog_10_method_69_code, 2, (some .int), [])
theorem cd_J_min : xCd i_J_min := Or.inl ⟨xT 396 (by decide +kernel) (by decide +kernel), rfl⟩
theorem ks_J_min : xKS i_J_min 2 := ⟨xT 395 (by decide +kernel) (by decide +kernel), xT 44 (by decide +kernel) (by decide +kernel), cd_J_min, ⟨by decide +kernel, by decide +kernel⟩, by decide +kernel⟩
abbrev i_B_requireUse : xMI := ((⟨"PageBanks", "requireUse", "(II)V"⟩ : MethodName), prog_1_method_29_code, 4, none, [])
theorem cd_B_requireUse : xCd i_B_requireUse := Or.inl ⟨xT 400 (by decide +kernel) (by decide +kernel), rfl⟩
theorem kv_B_requireUse : xKV i_B_requireUse "PageBanks" 2 := ⟨xT 399 (by decide +kernel) (by decide +kernel), xT 6 (by decide +kernel) (by decide +kernel), xT 32 (by decide +kernel) (by decide +kernel), cd_B_requireUse, ⟨by decide +kernel, by decide +kernel⟩, by decide +kernel⟩
abbrev i_T_refuserOf : xMI := ((⟨"PageBanks$Tree", "refuserOf", "(II)I"⟩ : MethodName), prog_3_method_14_code, 5, (some .int), [])
theorem cd_T_refuserOf : xCd i_T_refuserOf := Or.inl ⟨xT 404 (by decide +kernel) (by decide +kernel), rfl⟩
theorem kv_T_refuserOf : xKV i_T_refuserOf "PageBanks$Tree" 2 := ⟨xT 402 (by decide +kernel) (by decide +kernel), xT 403 (by decide +kernel) (by decide +kernel), xT 33 (by decide +kernel) (by decide +kernel), cd_T_refuserOf, ⟨by decide +kernel, by decide +kernel⟩, by decide +kernel⟩
abbrev i_S_leastFree : xMI := ((⟨"PageBanks$Store", "leastFree", "(I)I"⟩ : MethodName), prog_2_method_13_code, 4, (some .int), [])
theorem cd_S_leastFree : xCd i_S_leastFree := Or.inl ⟨xT 408 (by decide +kernel) (by decide +kernel), rfl⟩
theorem kv_S_leastFree : xKV i_S_leastFree "PageBanks$Store" 1 := ⟨xT 406 (by decide +kernel) (by decide +kernel), xT 407 (by decide +kernel) (by decide +kernel), xT 35 (by decide +kernel) (by decide +kernel), cd_S_leastFree, ⟨by decide +kernel, by decide +kernel⟩, by decide +kernel⟩
abbrev i_T_addReserved : xMI := ((⟨"PageBanks$Tree", "addReserved", "(II)V"⟩ : MethodName), prog_3_method_16_code, 3, none, [])
theorem cd_T_addReserved : xCd i_T_addReserved := Or.inl ⟨xT 412 (by decide +kernel) (by decide +kernel), rfl⟩
theorem kv_T_addReserved : xKV i_T_addReserved "PageBanks$Tree" 2 := ⟨xT 410 (by decide +kernel) (by decide +kernel), xT 411 (by decide +kernel) (by decide +kernel), xT 33 (by decide +kernel) (by decide +kernel), cd_T_addReserved, ⟨by decide +kernel, by decide +kernel⟩, by decide +kernel⟩
abbrev i_T_addUse : xMI := ((⟨"PageBanks$Tree", "addUse", "(II)V"⟩ : MethodName), prog_3_method_15_code, 5, none, [])
theorem cd_T_addUse : xCd i_T_addUse := Or.inl ⟨xT 416 (by decide +kernel) (by decide +kernel), rfl⟩
theorem kv_T_addUse : xKV i_T_addUse "PageBanks$Tree" 2 := ⟨xT 414 (by decide +kernel) (by decide +kernel), xT 415 (by decide +kernel) (by decide +kernel), xT 33 (by decide +kernel) (by decide +kernel), cd_T_addUse, ⟨by decide +kernel, by decide +kernel⟩, by decide +kernel⟩
abbrev i_S_fill : xMI := ((⟨"PageBanks$Store", "fill", "(III)V"⟩ : MethodName), prog_2_method_14_code, 5, none, [])
theorem cd_S_fill : xCd i_S_fill := Or.inl ⟨xT 420 (by decide +kernel) (by decide +kernel), rfl⟩
theorem kv_S_fill : xKV i_S_fill "PageBanks$Store" 3 := ⟨xT 418 (by decide +kernel) (by decide +kernel), xT 419 (by decide +kernel) (by decide +kernel), xT 35 (by decide +kernel) (by decide +kernel), cd_S_fill, ⟨by decide +kernel, by decide +kernel⟩, by decide +kernel⟩
abbrev i_S_clearWords : xMI := ((⟨"PageBanks$Store", "clearWords", "(I)V"⟩ : MethodName), prog_2_method_15_code, 3, none, [])
theorem cd_S_clearWords : xCd i_S_clearWords := Or.inl ⟨xT 424 (by decide +kernel) (by decide +kernel), rfl⟩
theorem kv_S_clearWords : xKV i_S_clearWords "PageBanks$Store" 1 := ⟨xT 422 (by decide +kernel) (by decide +kernel), xT 423 (by decide +kernel) (by decide +kernel), xT 35 (by decide +kernel) (by decide +kernel), cd_S_clearWords, ⟨by decide +kernel, by decide +kernel⟩, by decide +kernel⟩
abbrev i_S_give : xMI := ((⟨"PageBanks$Store", "give", "(II)V"⟩ : MethodName), prog_2_method_16_code, 3, none, [])
theorem cd_S_give : xCd i_S_give := Or.inl ⟨xT 428 (by decide +kernel) (by decide +kernel), rfl⟩
theorem kv_S_give : xKV i_S_give "PageBanks$Store" 2 := ⟨xT 426 (by decide +kernel) (by decide +kernel), xT 427 (by decide +kernel) (by decide +kernel), xT 35 (by decide +kernel) (by decide +kernel), cd_S_give, ⟨by decide +kernel, by decide +kernel⟩, by decide +kernel⟩
abbrev i_S_strongKey : xMI := ((⟨"PageBanks$Store", "strongKey", "(I)I"⟩ : MethodName), prog_2_method_7_code, 2, (some .int), [])
theorem cd_S_strongKey : xCd i_S_strongKey := Or.inl ⟨xT 432 (by decide +kernel) (by decide +kernel), rfl⟩
theorem kv_S_strongKey : xKV i_S_strongKey "PageBanks$Store" 1 := ⟨xT 430 (by decide +kernel) (by decide +kernel), xT 431 (by decide +kernel) (by decide +kernel), xT 35 (by decide +kernel) (by decide +kernel), cd_S_strongKey, ⟨by decide +kernel, by decide +kernel⟩, by decide +kernel⟩
abbrev i_L_buyRun : xMI := ((⟨"PageBanksLaw", "buyRun", "(LPageBanks;II[J)I"⟩ : MethodName), method_5_code, 5, (some .int), [(0, 10, 13, 13), (0, 10, 17, 15), (0, 10, 21, 17), (0, 10, 25, 19)])
theorem cd_L_buyRun : xCd i_L_buyRun := Or.inr (xT 435 (by decide +kernel) (by decide +kernel))
theorem ks_L_buyRun : xKS i_L_buyRun 4 := ⟨xT 434 (by decide +kernel) (by decide +kernel), xT 31 (by decide +kernel) (by decide +kernel), cd_L_buyRun, ⟨by decide +kernel, by decide +kernel⟩, by decide +kernel⟩
abbrev i_B_buyRun : xMI := ((⟨"PageBanks", "buyRun", "(II)I"⟩ : MethodName), prog_1_method_4_code, 3, (some .int), [])
theorem cd_B_buyRun : xCd i_B_buyRun := Or.inl ⟨xT 439 (by decide +kernel) (by decide +kernel), rfl⟩
theorem kv_B_buyRun : xKV i_B_buyRun "PageBanks" 2 := ⟨xT 437 (by decide +kernel) (by decide +kernel), xT 438 (by decide +kernel) (by decide +kernel), xT 32 (by decide +kernel) (by decide +kernel), cd_B_buyRun, ⟨by decide +kernel, by decide +kernel⟩, by decide +kernel⟩
abbrev i_L_runKey : xMI := ((⟨"PageBanksLaw", "runKey", "(LPageBanks;II[J)I"⟩ : MethodName), method_6_code, 5, (some .int), [(0, 10, 13, 31), (0, 10, 17, 15)])
theorem cd_L_runKey : xCd i_L_runKey := Or.inr (xT 442 (by decide +kernel) (by decide +kernel))
theorem ks_L_runKey : xKS i_L_runKey 4 := ⟨xT 441 (by decide +kernel) (by decide +kernel), xT 31 (by decide +kernel) (by decide +kernel), cd_L_runKey, ⟨by decide +kernel, by decide +kernel⟩, by decide +kernel⟩
abbrev i_B_runKey : xMI := ((⟨"PageBanks", "runKey", "(II)I"⟩ : MethodName), prog_1_method_5_code, 5, (some .int), [])
theorem cd_B_runKey : xCd i_B_runKey := Or.inl ⟨xT 447 (by decide +kernel) (by decide +kernel), rfl⟩
theorem kv_B_runKey : xKV i_B_runKey "PageBanks" 2 := ⟨xT 445 (by decide +kernel) (by decide +kernel), xT 446 (by decide +kernel) (by decide +kernel), xT 32 (by decide +kernel) (by decide +kernel), cd_B_runKey, ⟨by decide +kernel, by decide +kernel⟩, by decide +kernel⟩
abbrev i_B_requireAlive : xMI := ((⟨"PageBanks", "requireAlive", "(I)V"⟩ : MethodName), prog_1_method_34_code, 2, none, [])
theorem cd_B_requireAlive : xCd i_B_requireAlive := Or.inl ⟨xT 451 (by decide +kernel) (by decide +kernel), rfl⟩
theorem kv_B_requireAlive : xKV i_B_requireAlive "PageBanks" 1 := ⟨xT 450 (by decide +kernel) (by decide +kernel), xT 7 (by decide +kernel) (by decide +kernel), xT 32 (by decide +kernel) (by decide +kernel), cd_B_requireAlive, ⟨by decide +kernel, by decide +kernel⟩, by decide +kernel⟩
abbrev i_B_isStrong : xMI := ((⟨"PageBanks", "isStrong", "(I)Z"⟩ : MethodName), prog_1_method_40_code, 1, (some .boolean), [])
theorem cd_B_isStrong : xCd i_B_isStrong := Or.inl ⟨xT 470 (by decide +kernel) (by decide +kernel), rfl⟩
theorem ks_B_isStrong : xKS i_B_isStrong 1 := ⟨xT 469 (by decide +kernel) (by decide +kernel), xT 32 (by decide +kernel) (by decide +kernel), cd_B_isStrong, ⟨by decide +kernel, by decide +kernel⟩, by decide +kernel⟩
abbrev i_S_isSameRun : xMI := ((⟨"PageBanks$Store", "isSameRun", "(II)Z"⟩ : MethodName), prog_2_method_5_code, 3, (some .boolean), [])
theorem cd_S_isSameRun : xCd i_S_isSameRun := Or.inl ⟨xT 474 (by decide +kernel) (by decide +kernel), rfl⟩
theorem kv_S_isSameRun : xKV i_S_isSameRun "PageBanks$Store" 2 := ⟨xT 472 (by decide +kernel) (by decide +kernel), xT 473 (by decide +kernel) (by decide +kernel), xT 35 (by decide +kernel) (by decide +kernel), cd_S_isSameRun, ⟨by decide +kernel, by decide +kernel⟩, by decide +kernel⟩
abbrev i_L_sell : xMI := ((⟨"PageBanksLaw", "sell", "(LPageBanks;I[J)I"⟩ : MethodName), method_7_code, 4, (some .int), [(0, 9, 12, 31), (0, 9, 15, 15)])
theorem cd_L_sell : xCd i_L_sell := Or.inr (xT 477 (by decide +kernel) (by decide +kernel))
theorem ks_L_sell : xKS i_L_sell 3 := ⟨xT 476 (by decide +kernel) (by decide +kernel), xT 31 (by decide +kernel) (by decide +kernel), cd_L_sell, ⟨by decide +kernel, by decide +kernel⟩, by decide +kernel⟩
abbrev i_B_sell : xMI := ((⟨"PageBanks", "sell", "(I)I"⟩ : MethodName), prog_1_method_6_code, 4, (some .int), [])
theorem cd_B_sell : xCd i_B_sell := Or.inl ⟨xT 481 (by decide +kernel) (by decide +kernel), rfl⟩
theorem kv_B_sell : xKV i_B_sell "PageBanks" 1 := ⟨xT 479 (by decide +kernel) (by decide +kernel), xT 480 (by decide +kernel) (by decide +kernel), xT 32 (by decide +kernel) (by decide +kernel), cd_B_sell, ⟨by decide +kernel, by decide +kernel⟩, by decide +kernel⟩
abbrev i_S_vacate : xMI := ((⟨"PageBanks$Store", "vacate", "(I)V"⟩ : MethodName), prog_2_method_17_code, 2, none, [])
theorem cd_S_vacate : xCd i_S_vacate := Or.inl ⟨xT 485 (by decide +kernel) (by decide +kernel), rfl⟩
theorem kv_S_vacate : xKV i_S_vacate "PageBanks$Store" 1 := ⟨xT 483 (by decide +kernel) (by decide +kernel), xT 484 (by decide +kernel) (by decide +kernel), xT 35 (by decide +kernel) (by decide +kernel), cd_S_vacate, ⟨by decide +kernel, by decide +kernel⟩, by decide +kernel⟩
abbrev i_S_closeGaps : xMI := ((⟨"PageBanks$Store", "closeGaps", "()V"⟩ : MethodName), prog_2_method_18_code, 3, none, [])
theorem cd_S_closeGaps : xCd i_S_closeGaps := Or.inl ⟨xT 489 (by decide +kernel) (by decide +kernel), rfl⟩
theorem kv_S_closeGaps : xKV i_S_closeGaps "PageBanks$Store" 0 := ⟨xT 487 (by decide +kernel) (by decide +kernel), xT 488 (by decide +kernel) (by decide +kernel), xT 35 (by decide +kernel) (by decide +kernel), cd_S_closeGaps, ⟨by decide +kernel, by decide +kernel⟩, by decide +kernel⟩
abbrev i_L_weak : xMI := ((⟨"PageBanksLaw", "weak", "(LPageBanks;I[J)I"⟩ : MethodName), method_8_code, 4, (some .int), [(0, 9, 12, 31)])
theorem cd_L_weak : xCd i_L_weak := Or.inr (xT 492 (by decide +kernel) (by decide +kernel))
theorem ks_L_weak : xKS i_L_weak 3 := ⟨xT 491 (by decide +kernel) (by decide +kernel), xT 31 (by decide +kernel) (by decide +kernel), cd_L_weak, ⟨by decide +kernel, by decide +kernel⟩, by decide +kernel⟩
abbrev i_B_weak : xMI := ((⟨"PageBanks", "weak", "(I)I"⟩ : MethodName), prog_1_method_7_code, 2, (some .int), [])
theorem cd_B_weak : xCd i_B_weak := Or.inl ⟨xT 496 (by decide +kernel) (by decide +kernel), rfl⟩
theorem kv_B_weak : xKV i_B_weak "PageBanks" 1 := ⟨xT 494 (by decide +kernel) (by decide +kernel), xT 495 (by decide +kernel) (by decide +kernel), xT 32 (by decide +kernel) (by decide +kernel), cd_B_weak, ⟨by decide +kernel, by decide +kernel⟩, by decide +kernel⟩
abbrev i_L_read : xMI := ((⟨"PageBanksLaw", "read", "(LPageBanks;II[J)I"⟩ : MethodName), method_9_code, 5, (some .int), [(0, 10, 13, 31), (0, 10, 17, 13)])
theorem cd_L_read : xCd i_L_read := Or.inr (xT 499 (by decide +kernel) (by decide +kernel))
theorem ks_L_read : xKS i_L_read 4 := ⟨xT 498 (by decide +kernel) (by decide +kernel), xT 31 (by decide +kernel) (by decide +kernel), cd_L_read, ⟨by decide +kernel, by decide +kernel⟩, by decide +kernel⟩
abbrev i_B_read : xMI := ((⟨"PageBanks", "read", "(II)I"⟩ : MethodName), prog_1_method_8_code, 3, (some .int), [])
theorem cd_B_read : xCd i_B_read := Or.inl ⟨xT 503 (by decide +kernel) (by decide +kernel), rfl⟩
theorem kv_B_read : xKV i_B_read "PageBanks" 2 := ⟨xT 501 (by decide +kernel) (by decide +kernel), xT 502 (by decide +kernel) (by decide +kernel), xT 32 (by decide +kernel) (by decide +kernel), cd_B_read, ⟨by decide +kernel, by decide +kernel⟩, by decide +kernel⟩
abbrev i_B_isWord : xMI := ((⟨"PageBanks", "isWord", "(I)Z"⟩ : MethodName), prog_1_method_39_code, 1, (some .boolean), [])
theorem cd_B_isWord : xCd i_B_isWord := Or.inl ⟨xT 506 (by decide +kernel) (by decide +kernel), rfl⟩
theorem ks_B_isWord : xKS i_B_isWord 1 := ⟨xT 505 (by decide +kernel) (by decide +kernel), xT 32 (by decide +kernel) (by decide +kernel), cd_B_isWord, ⟨by decide +kernel, by decide +kernel⟩, by decide +kernel⟩
abbrev i_S_wordAt : xMI := ((⟨"PageBanks$Store", "wordAt", "(II)I"⟩ : MethodName), prog_2_method_8_code, 3, (some .int), [])
theorem cd_S_wordAt : xCd i_S_wordAt := Or.inl ⟨xT 510 (by decide +kernel) (by decide +kernel), rfl⟩
theorem kv_S_wordAt : xKV i_S_wordAt "PageBanks$Store" 2 := ⟨xT 508 (by decide +kernel) (by decide +kernel), xT 509 (by decide +kernel) (by decide +kernel), xT 35 (by decide +kernel) (by decide +kernel), cd_S_wordAt, ⟨by decide +kernel, by decide +kernel⟩, by decide +kernel⟩
abbrev i_L_write : xMI := ((⟨"PageBanksLaw", "write", "(LPageBanks;III[J)I"⟩ : MethodName), method_10_code, 6, (some .int), [(0, 12, 15, 31), (0, 12, 19, 15), (0, 12, 23, 13)])
theorem cd_L_write : xCd i_L_write := Or.inr (xT 513 (by decide +kernel) (by decide +kernel))
theorem ks_L_write : xKS i_L_write 5 := ⟨xT 512 (by decide +kernel) (by decide +kernel), xT 31 (by decide +kernel) (by decide +kernel), cd_L_write, ⟨by decide +kernel, by decide +kernel⟩, by decide +kernel⟩
abbrev i_B_write : xMI := ((⟨"PageBanks", "write", "(III)I"⟩ : MethodName), prog_1_method_9_code, 4, (some .int), [])
theorem cd_B_write : xCd i_B_write := Or.inl ⟨xT 517 (by decide +kernel) (by decide +kernel), rfl⟩
theorem kv_B_write : xKV i_B_write "PageBanks" 3 := ⟨xT 515 (by decide +kernel) (by decide +kernel), xT 516 (by decide +kernel) (by decide +kernel), xT 32 (by decide +kernel) (by decide +kernel), cd_B_write, ⟨by decide +kernel, by decide +kernel⟩, by decide +kernel⟩
abbrev i_S_replaceWord : xMI := ((⟨"PageBanks$Store", "replaceWord", "(III)I"⟩ : MethodName), prog_2_method_9_code, 5, (some .int), [])
theorem cd_S_replaceWord : xCd i_S_replaceWord := Or.inl ⟨xT 521 (by decide +kernel) (by decide +kernel), rfl⟩
theorem kv_S_replaceWord : xKV i_S_replaceWord "PageBanks$Store" 3 := ⟨xT 519 (by decide +kernel) (by decide +kernel), xT 520 (by decide +kernel) (by decide +kernel), xT 35 (by decide +kernel) (by decide +kernel), cd_S_replaceWord, ⟨by decide +kernel, by decide +kernel⟩, by decide +kernel⟩
abbrev i_L_move : xMI := ((⟨"PageBanksLaw", "move", "(LPageBanks;II[J)I"⟩ : MethodName), method_11_code, 5, (some .int), [(0, 10, 13, 31), (0, 10, 17, 15), (0, 10, 21, 13), (0, 10, 25, 17), (0, 10, 29, 19)])
theorem cd_L_move : xCd i_L_move := Or.inr (xT 524 (by decide +kernel) (by decide +kernel))
theorem ks_L_move : xKS i_L_move 4 := ⟨xT 523 (by decide +kernel) (by decide +kernel), xT 31 (by decide +kernel) (by decide +kernel), cd_L_move, ⟨by decide +kernel, by decide +kernel⟩, by decide +kernel⟩
abbrev i_B_move : xMI := ((⟨"PageBanks", "move", "(II)I"⟩ : MethodName), prog_1_method_10_code, 6, (some .int), [])
theorem cd_B_move : xCd i_B_move := Or.inl ⟨xT 528 (by decide +kernel) (by decide +kernel), rfl⟩
theorem kv_B_move : xKV i_B_move "PageBanks" 2 := ⟨xT 526 (by decide +kernel) (by decide +kernel), xT 527 (by decide +kernel) (by decide +kernel), xT 32 (by decide +kernel) (by decide +kernel), cd_B_move, ⟨by decide +kernel, by decide +kernel⟩, by decide +kernel⟩
abbrev i_L_limit : xMI := ((⟨"PageBanksLaw", "limit", "(LPageBanks;II[J)I"⟩ : MethodName), method_12_code, 5, (some .int), [(0, 10, 13, 13), (0, 10, 17, 15), (0, 10, 21, 17)])
theorem cd_L_limit : xCd i_L_limit := Or.inr (xT 532 (by decide +kernel) (by decide +kernel))
theorem ks_L_limit : xKS i_L_limit 4 := ⟨xT 531 (by decide +kernel) (by decide +kernel), xT 31 (by decide +kernel) (by decide +kernel), cd_L_limit, ⟨by decide +kernel, by decide +kernel⟩, by decide +kernel⟩
abbrev i_B_limit : xMI := ((⟨"PageBanks", "limit", "(II)I"⟩ : MethodName), prog_1_method_11_code, 3, (some .int), [])
theorem cd_B_limit : xCd i_B_limit := Or.inl ⟨xT 536 (by decide +kernel) (by decide +kernel), rfl⟩
theorem kv_B_limit : xKV i_B_limit "PageBanks" 2 := ⟨xT 534 (by decide +kernel) (by decide +kernel), xT 535 (by decide +kernel) (by decide +kernel), xT 32 (by decide +kernel) (by decide +kernel), cd_B_limit, ⟨by decide +kernel, by decide +kernel⟩, by decide +kernel⟩
abbrev i_T_useOf : xMI := ((⟨"PageBanks$Tree", "useOf", "(I)I"⟩ : MethodName), prog_3_method_8_code, 2, (some .int), [])
theorem cd_T_useOf : xCd i_T_useOf := Or.inl ⟨xT 540 (by decide +kernel) (by decide +kernel), rfl⟩
theorem kv_T_useOf : xKV i_T_useOf "PageBanks$Tree" 1 := ⟨xT 538 (by decide +kernel) (by decide +kernel), xT 539 (by decide +kernel) (by decide +kernel), xT 33 (by decide +kernel) (by decide +kernel), cd_T_useOf, ⟨by decide +kernel, by decide +kernel⟩, by decide +kernel⟩
abbrev i_T_replaceLimit : xMI := ((⟨"PageBanks$Tree", "replaceLimit", "(II)I"⟩ : MethodName), prog_3_method_17_code, 4, (some .int), [])
theorem cd_T_replaceLimit : xCd i_T_replaceLimit := Or.inl ⟨xT 544 (by decide +kernel) (by decide +kernel), rfl⟩
theorem kv_T_replaceLimit : xKV i_T_replaceLimit "PageBanks$Tree" 2 := ⟨xT 542 (by decide +kernel) (by decide +kernel), xT 543 (by decide +kernel) (by decide +kernel), xT 33 (by decide +kernel) (by decide +kernel), cd_T_replaceLimit, ⟨by decide +kernel, by decide +kernel⟩, by decide +kernel⟩
abbrev i_L_reserve : xMI := ((⟨"PageBanksLaw", "reserve", "(LPageBanks;II[J)I"⟩ : MethodName), method_13_code, 5, (some .int), [(0, 10, 13, 13), (0, 10, 17, 15), (0, 10, 21, 17), (0, 10, 25, 19)])
theorem cd_L_reserve : xCd i_L_reserve := Or.inr (xT 547 (by decide +kernel) (by decide +kernel))
theorem ks_L_reserve : xKS i_L_reserve 4 := ⟨xT 546 (by decide +kernel) (by decide +kernel), xT 31 (by decide +kernel) (by decide +kernel), cd_L_reserve, ⟨by decide +kernel, by decide +kernel⟩, by decide +kernel⟩
abbrev i_B_reserve : xMI := ((⟨"PageBanks", "reserve", "(II)I"⟩ : MethodName), prog_1_method_12_code, 3, (some .int), [])
theorem cd_B_reserve : xCd i_B_reserve := Or.inl ⟨xT 551 (by decide +kernel) (by decide +kernel), rfl⟩
theorem kv_B_reserve : xKV i_B_reserve "PageBanks" 2 := ⟨xT 549 (by decide +kernel) (by decide +kernel), xT 550 (by decide +kernel) (by decide +kernel), xT 32 (by decide +kernel) (by decide +kernel), cd_B_reserve, ⟨by decide +kernel, by decide +kernel⟩, by decide +kernel⟩
abbrev i_L_unreserve : xMI := ((⟨"PageBanksLaw", "unreserve", "(LPageBanks;II[J)I"⟩ : MethodName), method_14_code, 5, (some .int), [(0, 10, 13, 13), (0, 10, 17, 15)])
theorem cd_L_unreserve : xCd i_L_unreserve := Or.inr (xT 554 (by decide +kernel) (by decide +kernel))
theorem ks_L_unreserve : xKS i_L_unreserve 4 := ⟨xT 553 (by decide +kernel) (by decide +kernel), xT 31 (by decide +kernel) (by decide +kernel), cd_L_unreserve, ⟨by decide +kernel, by decide +kernel⟩, by decide +kernel⟩
abbrev i_B_unreserve : xMI := ((⟨"PageBanks", "unreserve", "(II)I"⟩ : MethodName), prog_1_method_13_code, 3, (some .int), [])
theorem cd_B_unreserve : xCd i_B_unreserve := Or.inl ⟨xT 558 (by decide +kernel) (by decide +kernel), rfl⟩
theorem kv_B_unreserve : xKV i_B_unreserve "PageBanks" 2 := ⟨xT 556 (by decide +kernel) (by decide +kernel), xT 557 (by decide +kernel) (by decide +kernel), xT 32 (by decide +kernel) (by decide +kernel), cd_B_unreserve, ⟨by decide +kernel, by decide +kernel⟩, by decide +kernel⟩
abbrev i_L_freeze : xMI := ((⟨"PageBanksLaw", "freeze", "(LPageBanks;IZ[J)I"⟩ : MethodName), method_15_code, 5, (some .int), [(0, 17, 20, 13), (0, 17, 24, 15), (0, 17, 28, 17)])
theorem cd_L_freeze : xCd i_L_freeze := Or.inr (xT 561 (by decide +kernel) (by decide +kernel))
theorem ks_L_freeze : xKS i_L_freeze 4 := ⟨xT 560 (by decide +kernel) (by decide +kernel), xT 31 (by decide +kernel) (by decide +kernel), cd_L_freeze, ⟨by decide +kernel, by decide +kernel⟩, by decide +kernel⟩
abbrev i_B_freeze : xMI := ((⟨"PageBanks", "freeze", "(IZ)Z"⟩ : MethodName), prog_1_method_14_code, 3, (some .boolean), [])
theorem cd_B_freeze : xCd i_B_freeze := Or.inl ⟨xT 565 (by decide +kernel) (by decide +kernel), rfl⟩
theorem kv_B_freeze : xKV i_B_freeze "PageBanks" 2 := ⟨xT 563 (by decide +kernel) (by decide +kernel), xT 564 (by decide +kernel) (by decide +kernel), xT 32 (by decide +kernel) (by decide +kernel), cd_B_freeze, ⟨by decide +kernel, by decide +kernel⟩, by decide +kernel⟩
abbrev i_B_requireOtherThanRoot : xMI := ((⟨"PageBanks", "requireOtherThanRoot", "(I)V"⟩ : MethodName), prog_1_method_32_code, 2, none, [])
theorem cd_B_requireOtherThanRoot : xCd i_B_requireOtherThanRoot := Or.inl ⟨xT 569 (by decide +kernel) (by decide +kernel), rfl⟩
theorem kv_B_requireOtherThanRoot : xKV i_B_requireOtherThanRoot "PageBanks" 1 := ⟨xT 568 (by decide +kernel) (by decide +kernel), xT 8 (by decide +kernel) (by decide +kernel), xT 32 (by decide +kernel) (by decide +kernel), cd_B_requireOtherThanRoot, ⟨by decide +kernel, by decide +kernel⟩, by decide +kernel⟩
abbrev i_T_replaceState : xMI := ((⟨"PageBanks$Tree", "replaceState", "(II)I"⟩ : MethodName), prog_3_method_18_code, 4, (some .int), [])
theorem cd_T_replaceState : xCd i_T_replaceState := Or.inl ⟨xT 573 (by decide +kernel) (by decide +kernel), rfl⟩
theorem kv_T_replaceState : xKV i_T_replaceState "PageBanks$Tree" 2 := ⟨xT 571 (by decide +kernel) (by decide +kernel), xT 572 (by decide +kernel) (by decide +kernel), xT 33 (by decide +kernel) (by decide +kernel), cd_T_replaceState, ⟨by decide +kernel, by decide +kernel⟩, by decide +kernel⟩
abbrev i_L_destroy : xMI := ((⟨"PageBanksLaw", "destroy", "(LPageBanks;I[J)I"⟩ : MethodName), method_16_code, 4, (some .int), [(0, 9, 12, 13), (0, 9, 15, 15), (0, 9, 18, 17)])
theorem cd_L_destroy : xCd i_L_destroy := Or.inr (xT 576 (by decide +kernel) (by decide +kernel))
theorem ks_L_destroy : xKS i_L_destroy 3 := ⟨xT 575 (by decide +kernel) (by decide +kernel), xT 31 (by decide +kernel) (by decide +kernel), cd_L_destroy, ⟨by decide +kernel, by decide +kernel⟩, by decide +kernel⟩
abbrev i_B_destroy : xMI := ((⟨"PageBanks", "destroy", "(I)I"⟩ : MethodName), prog_1_method_15_code, 2, (some .int), [])
theorem cd_B_destroy : xCd i_B_destroy := Or.inl ⟨xT 580 (by decide +kernel) (by decide +kernel), rfl⟩
theorem kv_B_destroy : xKV i_B_destroy "PageBanks" 1 := ⟨xT 578 (by decide +kernel) (by decide +kernel), xT 579 (by decide +kernel) (by decide +kernel), xT 32 (by decide +kernel) (by decide +kernel), cd_B_destroy, ⟨by decide +kernel, by decide +kernel⟩, by decide +kernel⟩
abbrev i_T_condemn : xMI := ((⟨"PageBanks$Tree", "condemn", "(I)V"⟩ : MethodName), prog_3_method_19_code, 3, none, [])
theorem cd_T_condemn : xCd i_T_condemn := Or.inl ⟨xT 584 (by decide +kernel) (by decide +kernel), rfl⟩
theorem kv_T_condemn : xKV i_T_condemn "PageBanks$Tree" 1 := ⟨xT 582 (by decide +kernel) (by decide +kernel), xT 583 (by decide +kernel) (by decide +kernel), xT 33 (by decide +kernel) (by decide +kernel), cd_T_condemn, ⟨by decide +kernel, by decide +kernel⟩, by decide +kernel⟩
abbrev i_T_closeEmptyDying : xMI := ((⟨"PageBanks$Tree", "closeEmptyDying", "()V"⟩ : MethodName), prog_3_method_20_code, 2, none, [])
theorem cd_T_closeEmptyDying : xCd i_T_closeEmptyDying := Or.inl ⟨xT 589 (by decide +kernel) (by decide +kernel), rfl⟩
theorem kv_T_closeEmptyDying : xKV i_T_closeEmptyDying "PageBanks$Tree" 0 := ⟨xT 587 (by decide +kernel) (by decide +kernel), xT 588 (by decide +kernel) (by decide +kernel), xT 33 (by decide +kernel) (by decide +kernel), cd_T_closeEmptyDying, ⟨by decide +kernel, by decide +kernel⟩, by decide +kernel⟩
abbrev i_B_dyingPages : xMI := ((⟨"PageBanks", "dyingPages", "()I"⟩ : MethodName), prog_1_method_28_code, 3, (some .int), [])
theorem cd_B_dyingPages : xCd i_B_dyingPages := Or.inl ⟨xT 594 (by decide +kernel) (by decide +kernel), rfl⟩
theorem kv_B_dyingPages : xKV i_B_dyingPages "PageBanks" 0 := ⟨xT 593 (by decide +kernel) (by decide +kernel), xT 9 (by decide +kernel) (by decide +kernel), xT 32 (by decide +kernel) (by decide +kernel), cd_B_dyingPages, ⟨by decide +kernel, by decide +kernel⟩, by decide +kernel⟩
abbrev i_B_isDyingPage : xMI := ((⟨"PageBanks", "isDyingPage", "(I)Z"⟩ : MethodName), prog_1_method_27_code, 2, (some .boolean), [])
theorem cd_B_isDyingPage : xCd i_B_isDyingPage := Or.inl ⟨xT 598 (by decide +kernel) (by decide +kernel), rfl⟩
theorem kv_B_isDyingPage : xKV i_B_isDyingPage "PageBanks" 1 := ⟨xT 597 (by decide +kernel) (by decide +kernel), xT 10 (by decide +kernel) (by decide +kernel), xT 32 (by decide +kernel) (by decide +kernel), cd_B_isDyingPage, ⟨by decide +kernel, by decide +kernel⟩, by decide +kernel⟩
abbrev i_L_work : xMI := ((⟨"PageBanksLaw", "work", "(LPageBanks;I[J)I"⟩ : MethodName), method_17_code, 4, (some .int), [(0, 9, 12, 15)])
theorem cd_L_work : xCd i_L_work := Or.inr (xT 601 (by decide +kernel) (by decide +kernel))
theorem ks_L_work : xKS i_L_work 3 := ⟨xT 600 (by decide +kernel) (by decide +kernel), xT 31 (by decide +kernel) (by decide +kernel), cd_L_work, ⟨by decide +kernel, by decide +kernel⟩, by decide +kernel⟩
abbrev i_B_work : xMI := ((⟨"PageBanks", "work", "(I)I"⟩ : MethodName), prog_1_method_16_code, 4, (some .int), [])
theorem cd_B_work : xCd i_B_work := Or.inl ⟨xT 605 (by decide +kernel) (by decide +kernel), rfl⟩
theorem kv_B_work : xKV i_B_work "PageBanks" 1 := ⟨xT 603 (by decide +kernel) (by decide +kernel), xT 604 (by decide +kernel) (by decide +kernel), xT 32 (by decide +kernel) (by decide +kernel), cd_B_work, ⟨by decide +kernel, by decide +kernel⟩, by decide +kernel⟩
abbrev i_L_handUp : xMI := ((⟨"PageBanksLaw", "handUp", "(LPageBanks;I[J)I"⟩ : MethodName), method_18_code, 4, (some .int), [(0, 9, 12, 13), (0, 9, 15, 15), (0, 9, 18, 17)])
theorem cd_L_handUp : xCd i_L_handUp := Or.inr (xT 608 (by decide +kernel) (by decide +kernel))
theorem ks_L_handUp : xKS i_L_handUp 3 := ⟨xT 607 (by decide +kernel) (by decide +kernel), xT 31 (by decide +kernel) (by decide +kernel), cd_L_handUp, ⟨by decide +kernel, by decide +kernel⟩, by decide +kernel⟩
abbrev i_B_handUp : xMI := ((⟨"PageBanks", "handUp", "(I)I"⟩ : MethodName), prog_1_method_17_code, 3, (some .int), [])
theorem cd_B_handUp : xCd i_B_handUp := Or.inl ⟨xT 612 (by decide +kernel) (by decide +kernel), rfl⟩
theorem kv_B_handUp : xKV i_B_handUp "PageBanks" 1 := ⟨xT 610 (by decide +kernel) (by decide +kernel), xT 611 (by decide +kernel) (by decide +kernel), xT 32 (by decide +kernel) (by decide +kernel), cd_B_handUp, ⟨by decide +kernel, by decide +kernel⟩, by decide +kernel⟩
abbrev i_T_parentOf : xMI := ((⟨"PageBanks$Tree", "parentOf", "(I)I"⟩ : MethodName), prog_3_method_5_code, 2, (some .int), [])
theorem cd_T_parentOf : xCd i_T_parentOf := Or.inl ⟨xT 616 (by decide +kernel) (by decide +kernel), rfl⟩
theorem kv_T_parentOf : xKV i_T_parentOf "PageBanks$Tree" 1 := ⟨xT 614 (by decide +kernel) (by decide +kernel), xT 615 (by decide +kernel) (by decide +kernel), xT 33 (by decide +kernel) (by decide +kernel), cd_T_parentOf, ⟨by decide +kernel, by decide +kernel⟩, by decide +kernel⟩
abbrev i_S_giveAll : xMI := ((⟨"PageBanks$Store", "giveAll", "(II)V"⟩ : MethodName), prog_2_method_19_code, 7, none, [])
theorem cd_S_giveAll : xCd i_S_giveAll := Or.inl ⟨xT 620 (by decide +kernel) (by decide +kernel), rfl⟩
theorem kv_S_giveAll : xKV i_S_giveAll "PageBanks$Store" 2 := ⟨xT 618 (by decide +kernel) (by decide +kernel), xT 619 (by decide +kernel) (by decide +kernel), xT 35 (by decide +kernel) (by decide +kernel), cd_S_giveAll, ⟨by decide +kernel, by decide +kernel⟩, by decide +kernel⟩
abbrev i_T_mergeIntoParent : xMI := ((⟨"PageBanks$Tree", "mergeIntoParent", "(I)V"⟩ : MethodName), prog_3_method_21_code, 4, none, [])
theorem cd_T_mergeIntoParent : xCd i_T_mergeIntoParent := Or.inl ⟨xT 627 (by decide +kernel) (by decide +kernel), rfl⟩
theorem kv_T_mergeIntoParent : xKV i_T_mergeIntoParent "PageBanks$Tree" 1 := ⟨xT 625 (by decide +kernel) (by decide +kernel), xT 626 (by decide +kernel) (by decide +kernel), xT 33 (by decide +kernel) (by decide +kernel), cd_T_mergeIntoParent, ⟨by decide +kernel, by decide +kernel⟩, by decide +kernel⟩
abbrev i_L_told : xMI := ((⟨"PageBanksLaw", "told", "(LPageBanks;II[J)I"⟩ : MethodName), method_19_code, 5, (some .int), [(0, 10, 13, 13), (0, 10, 17, 15)])
theorem cd_L_told : xCd i_L_told := Or.inr (xT 630 (by decide +kernel) (by decide +kernel))
theorem ks_L_told : xKS i_L_told 4 := ⟨xT 629 (by decide +kernel) (by decide +kernel), xT 31 (by decide +kernel) (by decide +kernel), cd_L_told, ⟨by decide +kernel, by decide +kernel⟩, by decide +kernel⟩
abbrev i_B_told : xMI := ((⟨"PageBanks", "told", "(II)I"⟩ : MethodName), prog_1_method_18_code, 3, (some .int), [])
theorem cd_B_told : xCd i_B_told := Or.inl ⟨xT 634 (by decide +kernel) (by decide +kernel), rfl⟩
theorem kv_B_told : xKV i_B_told "PageBanks" 2 := ⟨xT 632 (by decide +kernel) (by decide +kernel), xT 633 (by decide +kernel) (by decide +kernel), xT 32 (by decide +kernel) (by decide +kernel), cd_B_told, ⟨by decide +kernel, by decide +kernel⟩, by decide +kernel⟩
abbrev i_T_limitOf : xMI := ((⟨"PageBanks$Tree", "limitOf", "(I)I"⟩ : MethodName), prog_3_method_6_code, 2, (some .int), [])
theorem cd_T_limitOf : xCd i_T_limitOf := Or.inl ⟨xT 638 (by decide +kernel) (by decide +kernel), rfl⟩
theorem kv_T_limitOf : xKV i_T_limitOf "PageBanks$Tree" 1 := ⟨xT 636 (by decide +kernel) (by decide +kernel), xT 637 (by decide +kernel) (by decide +kernel), xT 33 (by decide +kernel) (by decide +kernel), cd_T_limitOf, ⟨by decide +kernel, by decide +kernel⟩, by decide +kernel⟩
abbrev i_L_page : xMI := ((⟨"PageBanksLaw", "page", "(LPageBanks;II[J)I"⟩ : MethodName), method_20_code, 5, (some .int), [(0, 10, 13, 13)])
theorem cd_L_page : xCd i_L_page := Or.inr (xT 641 (by decide +kernel) (by decide +kernel))
theorem ks_L_page : xKS i_L_page 4 := ⟨xT 640 (by decide +kernel) (by decide +kernel), xT 31 (by decide +kernel) (by decide +kernel), cd_L_page, ⟨by decide +kernel, by decide +kernel⟩, by decide +kernel⟩
abbrev i_B_page : xMI := ((⟨"PageBanks", "page", "(II)I"⟩ : MethodName), prog_1_method_19_code, 4, (some .int), [])
theorem cd_B_page : xCd i_B_page := Or.inl ⟨xT 645 (by decide +kernel) (by decide +kernel), rfl⟩
theorem kv_B_page : xKV i_B_page "PageBanks" 2 := ⟨xT 643 (by decide +kernel) (by decide +kernel), xT 644 (by decide +kernel) (by decide +kernel), xT 32 (by decide +kernel) (by decide +kernel), cd_B_page, ⟨by decide +kernel, by decide +kernel⟩, by decide +kernel⟩
abbrev i_S_placeOfOwned : xMI := ((⟨"PageBanks$Store", "placeOfOwned", "(II)I"⟩ : MethodName), prog_2_method_21_code, 5, (some .int), [])
theorem cd_S_placeOfOwned : xCd i_S_placeOfOwned := Or.inl ⟨xT 649 (by decide +kernel) (by decide +kernel), rfl⟩
theorem kv_S_placeOfOwned : xKV i_S_placeOfOwned "PageBanks$Store" 2 := ⟨xT 647 (by decide +kernel) (by decide +kernel), xT 648 (by decide +kernel) (by decide +kernel), xT 35 (by decide +kernel) (by decide +kernel), cd_S_placeOfOwned, ⟨by decide +kernel, by decide +kernel⟩, by decide +kernel⟩
abbrev i_L_owner : xMI := ((⟨"PageBanksLaw", "owner", "(LPageBanks;I[J)I"⟩ : MethodName), method_21_code, 4, (some .int), [(0, 9, 12, 31)])
theorem cd_L_owner : xCd i_L_owner := Or.inr (xT 652 (by decide +kernel) (by decide +kernel))
theorem ks_L_owner : xKS i_L_owner 3 := ⟨xT 651 (by decide +kernel) (by decide +kernel), xT 31 (by decide +kernel) (by decide +kernel), cd_L_owner, ⟨by decide +kernel, by decide +kernel⟩, by decide +kernel⟩
abbrev i_B_owner : xMI := ((⟨"PageBanks", "owner", "(I)I"⟩ : MethodName), prog_1_method_20_code, 2, (some .int), [])
theorem cd_B_owner : xCd i_B_owner := Or.inl ⟨xT 656 (by decide +kernel) (by decide +kernel), rfl⟩
theorem kv_B_owner : xKV i_B_owner "PageBanks" 1 := ⟨xT 654 (by decide +kernel) (by decide +kernel), xT 655 (by decide +kernel) (by decide +kernel), xT 32 (by decide +kernel) (by decide +kernel), cd_B_owner, ⟨by decide +kernel, by decide +kernel⟩, by decide +kernel⟩
abbrev i_M_init : xMI := ((⟨"PageBanksModel", "<init>", "()V"⟩ : MethodName), prog_5_method_1_code, 2, none, [])
theorem cd_M_init : xCd i_M_init := Or.inl ⟨xT 661 (by decide +kernel) (by decide +kernel), rfl⟩
theorem ki_M_init : xKI i_M_init 0 := ⟨xT 660 (by decide +kernel) (by decide +kernel), xT 36 (by decide +kernel) (by decide +kernel), xT 661 (by decide +kernel) (by decide +kernel), ⟨by decide +kernel, by decide +kernel⟩, by decide +kernel, rfl⟩
abbrev i_M_thrown : xMI := ((⟨"PageBanksModel", "thrown", "()I"⟩ : MethodName), prog_5_method_2_code, 1, (some .int), [])
theorem cd_M_thrown : xCd i_M_thrown := Or.inl ⟨xT 710 (by decide +kernel) (by decide +kernel), rfl⟩
theorem kv_M_thrown : xKV i_M_thrown "PageBanksModel" 0 := ⟨xT 708 (by decide +kernel) (by decide +kernel), xT 709 (by decide +kernel) (by decide +kernel), xT 36 (by decide +kernel) (by decide +kernel), cd_M_thrown, ⟨by decide +kernel, by decide +kernel⟩, by decide +kernel⟩
abbrev i_M_bank : xMI := ((⟨"PageBanksModel", "bank", "(II)I"⟩ : MethodName), prog_5_method_12_code, 4, (some .int), [])
theorem cd_M_bank : xCd i_M_bank := Or.inl ⟨xT 714 (by decide +kernel) (by decide +kernel), rfl⟩
theorem kv_M_bank : xKV i_M_bank "PageBanksModel" 2 := ⟨xT 712 (by decide +kernel) (by decide +kernel), xT 713 (by decide +kernel) (by decide +kernel), xT 36 (by decide +kernel) (by decide +kernel), cd_M_bank, ⟨by decide +kernel, by decide +kernel⟩, by decide +kernel⟩
abbrev i_M_isBank : xMI := ((⟨"PageBanksModel", "isBank", "(I)Z"⟩ : MethodName), prog_5_method_4_code, 2, (some .boolean), [])
theorem cd_M_isBank : xCd i_M_isBank := Or.inl ⟨xT 718 (by decide +kernel) (by decide +kernel), rfl⟩
theorem kv_M_isBank : xKV i_M_isBank "PageBanksModel" 1 := ⟨xT 717 (by decide +kernel) (by decide +kernel), xT 11 (by decide +kernel) (by decide +kernel), xT 36 (by decide +kernel) (by decide +kernel), cd_M_isBank, ⟨by decide +kernel, by decide +kernel⟩, by decide +kernel⟩
abbrev i_M_in : xMI := ((⟨"PageBanksModel", "in", "(III)Z"⟩ : MethodName), prog_5_method_3_code, 3, (some .boolean), [])
theorem cd_M_in : xCd i_M_in := Or.inl ⟨xT 721 (by decide +kernel) (by decide +kernel), rfl⟩
theorem ks_M_in : xKS i_M_in 3 := ⟨xT 720 (by decide +kernel) (by decide +kernel), xT 36 (by decide +kernel) (by decide +kernel), cd_M_in, ⟨by decide +kernel, by decide +kernel⟩, by decide +kernel⟩
abbrev i_M_isOpen : xMI := ((⟨"PageBanksModel", "isOpen", "(I)Z"⟩ : MethodName), prog_5_method_10_code, 2, (some .boolean), [])
theorem cd_M_isOpen : xCd i_M_isOpen := Or.inl ⟨xT 725 (by decide +kernel) (by decide +kernel), rfl⟩
theorem kv_M_isOpen : xKV i_M_isOpen "PageBanksModel" 1 := ⟨xT 724 (by decide +kernel) (by decide +kernel), xT 12 (by decide +kernel) (by decide +kernel), xT 36 (by decide +kernel) (by decide +kernel), cd_M_isOpen, ⟨by decide +kernel, by decide +kernel⟩, by decide +kernel⟩
abbrev i_M_depthOf : xMI := ((⟨"PageBanksModel", "depthOf", "(I)I"⟩ : MethodName), prog_5_method_6_code, 4, (some .int), [])
theorem cd_M_depthOf : xCd i_M_depthOf := Or.inl ⟨xT 729 (by decide +kernel) (by decide +kernel), rfl⟩
theorem kv_M_depthOf : xKV i_M_depthOf "PageBanksModel" 1 := ⟨xT 728 (by decide +kernel) (by decide +kernel), xT 13 (by decide +kernel) (by decide +kernel), xT 36 (by decide +kernel) (by decide +kernel), cd_M_depthOf, ⟨by decide +kernel, by decide +kernel⟩, by decide +kernel⟩
abbrev i_M_unsupported : xMI := ((⟨"PageBanksModel", "unsupported", "(II)I"⟩ : MethodName), prog_5_method_11_code, 3, (some .int), [])
theorem cd_M_unsupported : xCd i_M_unsupported := Or.inl ⟨xT 733 (by decide +kernel) (by decide +kernel), rfl⟩
theorem kv_M_unsupported : xKV i_M_unsupported "PageBanksModel" 2 := ⟨xT 732 (by decide +kernel) (by decide +kernel), xT 14 (by decide +kernel) (by decide +kernel), xT 36 (by decide +kernel) (by decide +kernel), cd_M_unsupported, ⟨by decide +kernel, by decide +kernel⟩, by decide +kernel⟩
abbrev i_M_buy : xMI := ((⟨"PageBanksModel", "buy", "(I)I"⟩ : MethodName), prog_5_method_18_code, 2, (some .int), [])
theorem cd_M_buy : xCd i_M_buy := Or.inl ⟨xT 737 (by decide +kernel) (by decide +kernel), rfl⟩
theorem kv_M_buy : xKV i_M_buy "PageBanksModel" 1 := ⟨xT 735 (by decide +kernel) (by decide +kernel), xT 736 (by decide +kernel) (by decide +kernel), xT 36 (by decide +kernel) (by decide +kernel), cd_M_buy, ⟨by decide +kernel, by decide +kernel⟩, by decide +kernel⟩
abbrev i_M_bought : xMI := ((⟨"PageBanksModel", "bought", "(III)I"⟩ : MethodName), prog_5_method_17_code, 9, (some .int), [])
theorem cd_M_bought : xCd i_M_bought := Or.inl ⟨xT 741 (by decide +kernel) (by decide +kernel), rfl⟩
theorem kv_M_bought : xKV i_M_bought "PageBanksModel" 3 := ⟨xT 740 (by decide +kernel) (by decide +kernel), xT 15 (by decide +kernel) (by decide +kernel), xT 36 (by decide +kernel) (by decide +kernel), cd_M_bought, ⟨by decide +kernel, by decide +kernel⟩, by decide +kernel⟩
abbrev i_M_refuser : xMI := ((⟨"PageBanksModel", "refuser", "(II)I"⟩ : MethodName), prog_5_method_9_code, 4, (some .int), [])
theorem cd_M_refuser : xCd i_M_refuser := Or.inl ⟨xT 745 (by decide +kernel) (by decide +kernel), rfl⟩
theorem kv_M_refuser : xKV i_M_refuser "PageBanksModel" 2 := ⟨xT 744 (by decide +kernel) (by decide +kernel), xT 16 (by decide +kernel) (by decide +kernel), xT 36 (by decide +kernel) (by decide +kernel), cd_M_refuser, ⟨by decide +kernel, by decide +kernel⟩, by decide +kernel⟩
abbrev i_M_useOf : xMI := ((⟨"PageBanksModel", "useOf", "(I)I"⟩ : MethodName), prog_5_method_8_code, 4, (some .int), [])
theorem cd_M_useOf : xCd i_M_useOf := Or.inl ⟨xT 749 (by decide +kernel) (by decide +kernel), rfl⟩
theorem kv_M_useOf : xKV i_M_useOf "PageBanksModel" 1 := ⟨xT 748 (by decide +kernel) (by decide +kernel), xT 17 (by decide +kernel) (by decide +kernel), xT 36 (by decide +kernel) (by decide +kernel), cd_M_useOf, ⟨by decide +kernel, by decide +kernel⟩, by decide +kernel⟩
abbrev i_M_isUnder : xMI := ((⟨"PageBanksModel", "isUnder", "(II)Z"⟩ : MethodName), prog_5_method_5_code, 4, (some .boolean), [])
theorem cd_M_isUnder : xCd i_M_isUnder := Or.inl ⟨xT 753 (by decide +kernel) (by decide +kernel), rfl⟩
theorem kv_M_isUnder : xKV i_M_isUnder "PageBanksModel" 2 := ⟨xT 752 (by decide +kernel) (by decide +kernel), xT 18 (by decide +kernel) (by decide +kernel), xT 36 (by decide +kernel) (by decide +kernel), cd_M_isUnder, ⟨by decide +kernel, by decide +kernel⟩, by decide +kernel⟩
abbrev i_M_owned : xMI := ((⟨"PageBanksModel", "owned", "(I)I"⟩ : MethodName), prog_5_method_7_code, 4, (some .int), [])
theorem cd_M_owned : xCd i_M_owned := Or.inl ⟨xT 757 (by decide +kernel) (by decide +kernel), rfl⟩
theorem kv_M_owned : xKV i_M_owned "PageBanksModel" 1 := ⟨xT 756 (by decide +kernel) (by decide +kernel), xT 19 (by decide +kernel) (by decide +kernel), xT 36 (by decide +kernel) (by decide +kernel), cd_M_owned, ⟨by decide +kernel, by decide +kernel⟩, by decide +kernel⟩
abbrev i_M_room : xMI := ((⟨"PageBanksModel", "room", "(I)I"⟩ : MethodName), prog_5_method_14_code, 6, (some .int), [])
theorem cd_M_room : xCd i_M_room := Or.inl ⟨xT 761 (by decide +kernel) (by decide +kernel), rfl⟩
theorem kv_M_room : xKV i_M_room "PageBanksModel" 1 := ⟨xT 760 (by decide +kernel) (by decide +kernel), xT 20 (by decide +kernel) (by decide +kernel), xT 36 (by decide +kernel) (by decide +kernel), cd_M_room, ⟨by decide +kernel, by decide +kernel⟩, by decide +kernel⟩
abbrev i_M_isFree : xMI := ((⟨"PageBanksModel", "isFree", "(I)Z"⟩ : MethodName), prog_5_method_13_code, 2, (some .boolean), [])
theorem cd_M_isFree : xCd i_M_isFree := Or.inl ⟨xT 765 (by decide +kernel) (by decide +kernel), rfl⟩
theorem kv_M_isFree : xKV i_M_isFree "PageBanksModel" 1 := ⟨xT 764 (by decide +kernel) (by decide +kernel), xT 21 (by decide +kernel) (by decide +kernel), xT 36 (by decide +kernel) (by decide +kernel), cd_M_isFree, ⟨by decide +kernel, by decide +kernel⟩, by decide +kernel⟩
abbrev i_M_own : xMI := ((⟨"PageBanksModel", "own", "(II)V"⟩ : MethodName), prog_5_method_16_code, 3, none, [])
theorem cd_M_own : xCd i_M_own := Or.inl ⟨xT 769 (by decide +kernel) (by decide +kernel), rfl⟩
theorem kv_M_own : xKV i_M_own "PageBanksModel" 2 := ⟨xT 768 (by decide +kernel) (by decide +kernel), xT 22 (by decide +kernel) (by decide +kernel), xT 36 (by decide +kernel) (by decide +kernel), cd_M_own, ⟨by decide +kernel, by decide +kernel⟩, by decide +kernel⟩
abbrev i_M_keyOf : xMI := ((⟨"PageBanksModel", "keyOf", "(II)I"⟩ : MethodName), prog_5_method_15_code, 2, (some .int), [])
theorem cd_M_keyOf : xCd i_M_keyOf := Or.inl ⟨xT 772 (by decide +kernel) (by decide +kernel), rfl⟩
theorem ks_M_keyOf : xKS i_M_keyOf 2 := ⟨xT 771 (by decide +kernel) (by decide +kernel), xT 36 (by decide +kernel) (by decide +kernel), cd_M_keyOf, ⟨by decide +kernel, by decide +kernel⟩, by decide +kernel⟩
abbrev i_M_buyRun : xMI := ((⟨"PageBanksModel", "buyRun", "(II)I"⟩ : MethodName), prog_5_method_19_code, 3, (some .int), [])
theorem cd_M_buyRun : xCd i_M_buyRun := Or.inl ⟨xT 776 (by decide +kernel) (by decide +kernel), rfl⟩
theorem kv_M_buyRun : xKV i_M_buyRun "PageBanksModel" 2 := ⟨xT 774 (by decide +kernel) (by decide +kernel), xT 775 (by decide +kernel) (by decide +kernel), xT 36 (by decide +kernel) (by decide +kernel), cd_M_buyRun, ⟨by decide +kernel, by decide +kernel⟩, by decide +kernel⟩
abbrev i_M_runKey : xMI := ((⟨"PageBanksModel", "runKey", "(II)I"⟩ : MethodName), prog_5_method_23_code, 5, (some .int), [])
theorem cd_M_runKey : xCd i_M_runKey := Or.inl ⟨xT 780 (by decide +kernel) (by decide +kernel), rfl⟩
theorem kv_M_runKey : xKV i_M_runKey "PageBanksModel" 2 := ⟨xT 778 (by decide +kernel) (by decide +kernel), xT 779 (by decide +kernel) (by decide +kernel), xT 36 (by decide +kernel) (by decide +kernel), cd_M_runKey, ⟨by decide +kernel, by decide +kernel⟩, by decide +kernel⟩
abbrev i_M_lives : xMI := ((⟨"PageBanksModel", "lives", "(I)Z"⟩ : MethodName), prog_5_method_22_code, 3, (some .boolean), [])
theorem cd_M_lives : xCd i_M_lives := Or.inl ⟨xT 784 (by decide +kernel) (by decide +kernel), rfl⟩
theorem kv_M_lives : xKV i_M_lives "PageBanksModel" 1 := ⟨xT 783 (by decide +kernel) (by decide +kernel), xT 23 (by decide +kernel) (by decide +kernel), xT 36 (by decide +kernel) (by decide +kernel), cd_M_lives, ⟨by decide +kernel, by decide +kernel⟩, by decide +kernel⟩
abbrev i_M_placeOf : xMI := ((⟨"PageBanksModel", "placeOf", "(I)I"⟩ : MethodName), prog_5_method_20_code, 1, (some .int), [])
theorem cd_M_placeOf : xCd i_M_placeOf := Or.inl ⟨xT 787 (by decide +kernel) (by decide +kernel), rfl⟩
theorem ks_M_placeOf : xKS i_M_placeOf 1 := ⟨xT 786 (by decide +kernel) (by decide +kernel), xT 36 (by decide +kernel) (by decide +kernel), cd_M_placeOf, ⟨by decide +kernel, by decide +kernel⟩, by decide +kernel⟩
abbrev i_M_isWeak : xMI := ((⟨"PageBanksModel", "isWeak", "(I)Z"⟩ : MethodName), prog_5_method_21_code, 1, (some .boolean), [])
theorem cd_M_isWeak : xCd i_M_isWeak := Or.inl ⟨xT 790 (by decide +kernel) (by decide +kernel), rfl⟩
theorem ks_M_isWeak : xKS i_M_isWeak 1 := ⟨xT 789 (by decide +kernel) (by decide +kernel), xT 36 (by decide +kernel) (by decide +kernel), cd_M_isWeak, ⟨by decide +kernel, by decide +kernel⟩, by decide +kernel⟩
abbrev i_M_sell : xMI := ((⟨"PageBanksModel", "sell", "(I)I"⟩ : MethodName), prog_5_method_24_code, 3, (some .int), [])
theorem cd_M_sell : xCd i_M_sell := Or.inl ⟨xT 794 (by decide +kernel) (by decide +kernel), rfl⟩
theorem kv_M_sell : xKV i_M_sell "PageBanksModel" 1 := ⟨xT 792 (by decide +kernel) (by decide +kernel), xT 793 (by decide +kernel) (by decide +kernel), xT 36 (by decide +kernel) (by decide +kernel), cd_M_sell, ⟨by decide +kernel, by decide +kernel⟩, by decide +kernel⟩
abbrev i_M_weak : xMI := ((⟨"PageBanksModel", "weak", "(I)I"⟩ : MethodName), prog_5_method_25_code, 2, (some .int), [])
theorem cd_M_weak : xCd i_M_weak := Or.inl ⟨xT 798 (by decide +kernel) (by decide +kernel), rfl⟩
theorem kv_M_weak : xKV i_M_weak "PageBanksModel" 1 := ⟨xT 796 (by decide +kernel) (by decide +kernel), xT 797 (by decide +kernel) (by decide +kernel), xT 36 (by decide +kernel) (by decide +kernel), cd_M_weak, ⟨by decide +kernel, by decide +kernel⟩, by decide +kernel⟩
abbrev i_M_read : xMI := ((⟨"PageBanksModel", "read", "(II)I"⟩ : MethodName), prog_5_method_26_code, 3, (some .int), [])
theorem cd_M_read : xCd i_M_read := Or.inl ⟨xT 802 (by decide +kernel) (by decide +kernel), rfl⟩
theorem kv_M_read : xKV i_M_read "PageBanksModel" 2 := ⟨xT 800 (by decide +kernel) (by decide +kernel), xT 801 (by decide +kernel) (by decide +kernel), xT 36 (by decide +kernel) (by decide +kernel), cd_M_read, ⟨by decide +kernel, by decide +kernel⟩, by decide +kernel⟩
abbrev i_M_write : xMI := ((⟨"PageBanksModel", "write", "(III)I"⟩ : MethodName), prog_5_method_27_code, 6, (some .int), [])
theorem cd_M_write : xCd i_M_write := Or.inl ⟨xT 806 (by decide +kernel) (by decide +kernel), rfl⟩
theorem kv_M_write : xKV i_M_write "PageBanksModel" 3 := ⟨xT 804 (by decide +kernel) (by decide +kernel), xT 805 (by decide +kernel) (by decide +kernel), xT 36 (by decide +kernel) (by decide +kernel), cd_M_write, ⟨by decide +kernel, by decide +kernel⟩, by decide +kernel⟩
abbrev i_M_move : xMI := ((⟨"PageBanksModel", "move", "(II)I"⟩ : MethodName), prog_5_method_28_code, 6, (some .int), [])
theorem cd_M_move : xCd i_M_move := Or.inl ⟨xT 810 (by decide +kernel) (by decide +kernel), rfl⟩
theorem kv_M_move : xKV i_M_move "PageBanksModel" 2 := ⟨xT 808 (by decide +kernel) (by decide +kernel), xT 809 (by decide +kernel) (by decide +kernel), xT 36 (by decide +kernel) (by decide +kernel), cd_M_move, ⟨by decide +kernel, by decide +kernel⟩, by decide +kernel⟩
abbrev i_M_limit : xMI := ((⟨"PageBanksModel", "limit", "(II)I"⟩ : MethodName), prog_5_method_29_code, 4, (some .int), [])
theorem cd_M_limit : xCd i_M_limit := Or.inl ⟨xT 814 (by decide +kernel) (by decide +kernel), rfl⟩
theorem kv_M_limit : xKV i_M_limit "PageBanksModel" 2 := ⟨xT 812 (by decide +kernel) (by decide +kernel), xT 813 (by decide +kernel) (by decide +kernel), xT 36 (by decide +kernel) (by decide +kernel), cd_M_limit, ⟨by decide +kernel, by decide +kernel⟩, by decide +kernel⟩
abbrev i_M_reserve : xMI := ((⟨"PageBanksModel", "reserve", "(II)I"⟩ : MethodName), prog_5_method_30_code, 4, (some .int), [])
theorem cd_M_reserve : xCd i_M_reserve := Or.inl ⟨xT 818 (by decide +kernel) (by decide +kernel), rfl⟩
theorem kv_M_reserve : xKV i_M_reserve "PageBanksModel" 2 := ⟨xT 816 (by decide +kernel) (by decide +kernel), xT 817 (by decide +kernel) (by decide +kernel), xT 36 (by decide +kernel) (by decide +kernel), cd_M_reserve, ⟨by decide +kernel, by decide +kernel⟩, by decide +kernel⟩
abbrev i_M_unreserve : xMI := ((⟨"PageBanksModel", "unreserve", "(II)I"⟩ : MethodName), prog_5_method_31_code, 3, (some .int), [])
theorem cd_M_unreserve : xCd i_M_unreserve := Or.inl ⟨xT 822 (by decide +kernel) (by decide +kernel), rfl⟩
theorem kv_M_unreserve : xKV i_M_unreserve "PageBanksModel" 2 := ⟨xT 820 (by decide +kernel) (by decide +kernel), xT 821 (by decide +kernel) (by decide +kernel), xT 36 (by decide +kernel) (by decide +kernel), cd_M_unreserve, ⟨by decide +kernel, by decide +kernel⟩, by decide +kernel⟩
abbrev i_M_freeze : xMI := ((⟨"PageBanksModel", "freeze", "(IZ)Z"⟩ : MethodName), prog_5_method_33_code, 4, (some .boolean), [])
theorem cd_M_freeze : xCd i_M_freeze := Or.inl ⟨xT 826 (by decide +kernel) (by decide +kernel), rfl⟩
theorem kv_M_freeze : xKV i_M_freeze "PageBanksModel" 2 := ⟨xT 824 (by decide +kernel) (by decide +kernel), xT 825 (by decide +kernel) (by decide +kernel), xT 36 (by decide +kernel) (by decide +kernel), cd_M_freeze, ⟨by decide +kernel, by decide +kernel⟩, by decide +kernel⟩
abbrev i_M_wrong : xMI := ((⟨"PageBanksModel", "wrong", "(I)I"⟩ : MethodName), prog_5_method_32_code, 2, (some .int), [])
theorem cd_M_wrong : xCd i_M_wrong := Or.inl ⟨xT 830 (by decide +kernel) (by decide +kernel), rfl⟩
theorem kv_M_wrong : xKV i_M_wrong "PageBanksModel" 1 := ⟨xT 829 (by decide +kernel) (by decide +kernel), xT 24 (by decide +kernel) (by decide +kernel), xT 36 (by decide +kernel) (by decide +kernel), cd_M_wrong, ⟨by decide +kernel, by decide +kernel⟩, by decide +kernel⟩
abbrev i_M_destroy : xMI := ((⟨"PageBanksModel", "destroy", "(I)I"⟩ : MethodName), prog_5_method_38_code, 3, (some .int), [])
theorem cd_M_destroy : xCd i_M_destroy := Or.inl ⟨xT 834 (by decide +kernel) (by decide +kernel), rfl⟩
theorem kv_M_destroy : xKV i_M_destroy "PageBanksModel" 1 := ⟨xT 832 (by decide +kernel) (by decide +kernel), xT 833 (by decide +kernel) (by decide +kernel), xT 36 (by decide +kernel) (by decide +kernel), cd_M_destroy, ⟨by decide +kernel, by decide +kernel⟩, by decide +kernel⟩
abbrev i_M_clear : xMI := ((⟨"PageBanksModel", "clear", "()V"⟩ : MethodName), prog_5_method_35_code, 3, none, [])
theorem cd_M_clear : xCd i_M_clear := Or.inl ⟨xT 838 (by decide +kernel) (by decide +kernel), rfl⟩
theorem kv_M_clear : xKV i_M_clear "PageBanksModel" 0 := ⟨xT 837 (by decide +kernel) (by decide +kernel), xT 25 (by decide +kernel) (by decide +kernel), xT 36 (by decide +kernel) (by decide +kernel), cd_M_clear, ⟨by decide +kernel, by decide +kernel⟩, by decide +kernel⟩
abbrev i_M_isParent : xMI := ((⟨"PageBanksModel", "isParent", "(I)Z"⟩ : MethodName), prog_5_method_34_code, 4, (some .boolean), [])
theorem cd_M_isParent : xCd i_M_isParent := Or.inl ⟨xT 842 (by decide +kernel) (by decide +kernel), rfl⟩
theorem kv_M_isParent : xKV i_M_isParent "PageBanksModel" 1 := ⟨xT 841 (by decide +kernel) (by decide +kernel), xT 26 (by decide +kernel) (by decide +kernel), xT 36 (by decide +kernel) (by decide +kernel), cd_M_isParent, ⟨by decide +kernel, by decide +kernel⟩, by decide +kernel⟩
abbrev i_M_toBeFreed : xMI := ((⟨"PageBanksModel", "toBeFreed", "()I"⟩ : MethodName), prog_5_method_37_code, 3, (some .int), [])
theorem cd_M_toBeFreed : xCd i_M_toBeFreed := Or.inl ⟨xT 846 (by decide +kernel) (by decide +kernel), rfl⟩
theorem kv_M_toBeFreed : xKV i_M_toBeFreed "PageBanksModel" 0 := ⟨xT 845 (by decide +kernel) (by decide +kernel), xT 27 (by decide +kernel) (by decide +kernel), xT 36 (by decide +kernel) (by decide +kernel), cd_M_toBeFreed, ⟨by decide +kernel, by decide +kernel⟩, by decide +kernel⟩
abbrev i_M_isToBeFreed : xMI := ((⟨"PageBanksModel", "isToBeFreed", "(I)Z"⟩ : MethodName), prog_5_method_36_code, 2, (some .boolean), [])
theorem cd_M_isToBeFreed : xCd i_M_isToBeFreed := Or.inl ⟨xT 850 (by decide +kernel) (by decide +kernel), rfl⟩
theorem kv_M_isToBeFreed : xKV i_M_isToBeFreed "PageBanksModel" 1 := ⟨xT 849 (by decide +kernel) (by decide +kernel), xT 28 (by decide +kernel) (by decide +kernel), xT 36 (by decide +kernel) (by decide +kernel), cd_M_isToBeFreed, ⟨by decide +kernel, by decide +kernel⟩, by decide +kernel⟩
abbrev i_M_work : xMI := ((⟨"PageBanksModel", "work", "(I)I"⟩ : MethodName), prog_5_method_39_code, 4, (some .int), [])
theorem cd_M_work : xCd i_M_work := Or.inl ⟨xT 854 (by decide +kernel) (by decide +kernel), rfl⟩
theorem kv_M_work : xKV i_M_work "PageBanksModel" 1 := ⟨xT 852 (by decide +kernel) (by decide +kernel), xT 853 (by decide +kernel) (by decide +kernel), xT 36 (by decide +kernel) (by decide +kernel), cd_M_work, ⟨by decide +kernel, by decide +kernel⟩, by decide +kernel⟩
abbrev i_M_handUp : xMI := ((⟨"PageBanksModel", "handUp", "(I)I"⟩ : MethodName), prog_5_method_41_code, 5, (some .int), [])
theorem cd_M_handUp : xCd i_M_handUp := Or.inl ⟨xT 858 (by decide +kernel) (by decide +kernel), rfl⟩
theorem kv_M_handUp : xKV i_M_handUp "PageBanksModel" 1 := ⟨xT 856 (by decide +kernel) (by decide +kernel), xT 857 (by decide +kernel) (by decide +kernel), xT 36 (by decide +kernel) (by decide +kernel), cd_M_handUp, ⟨by decide +kernel, by decide +kernel⟩, by decide +kernel⟩
abbrev i_M_placeOfPage : xMI := ((⟨"PageBanksModel", "placeOfPage", "(II)I"⟩ : MethodName), prog_5_method_40_code, 7, (some .int), [])
theorem cd_M_placeOfPage : xCd i_M_placeOfPage := Or.inl ⟨xT 862 (by decide +kernel) (by decide +kernel), rfl⟩
theorem kv_M_placeOfPage : xKV i_M_placeOfPage "PageBanksModel" 2 := ⟨xT 861 (by decide +kernel) (by decide +kernel), xT 29 (by decide +kernel) (by decide +kernel), xT 36 (by decide +kernel) (by decide +kernel), cd_M_placeOfPage, ⟨by decide +kernel, by decide +kernel⟩, by decide +kernel⟩
abbrev i_M_told : xMI := ((⟨"PageBanksModel", "told", "(II)I"⟩ : MethodName), prog_5_method_43_code, 3, (some .int), [])
theorem cd_M_told : xCd i_M_told := Or.inl ⟨xT 866 (by decide +kernel) (by decide +kernel), rfl⟩
theorem kv_M_told : xKV i_M_told "PageBanksModel" 2 := ⟨xT 864 (by decide +kernel) (by decide +kernel), xT 865 (by decide +kernel) (by decide +kernel), xT 36 (by decide +kernel) (by decide +kernel), cd_M_told, ⟨by decide +kernel, by decide +kernel⟩, by decide +kernel⟩
abbrev i_M_banksUnder : xMI := ((⟨"PageBanksModel", "banksUnder", "(I)I"⟩ : MethodName), prog_5_method_42_code, 4, (some .int), [])
theorem cd_M_banksUnder : xCd i_M_banksUnder := Or.inl ⟨xT 870 (by decide +kernel) (by decide +kernel), rfl⟩
theorem kv_M_banksUnder : xKV i_M_banksUnder "PageBanksModel" 1 := ⟨xT 869 (by decide +kernel) (by decide +kernel), xT 30 (by decide +kernel) (by decide +kernel), xT 36 (by decide +kernel) (by decide +kernel), cd_M_banksUnder, ⟨by decide +kernel, by decide +kernel⟩, by decide +kernel⟩
abbrev i_M_page : xMI := ((⟨"PageBanksModel", "page", "(II)I"⟩ : MethodName), prog_5_method_44_code, 4, (some .int), [])
theorem cd_M_page : xCd i_M_page := Or.inl ⟨xT 874 (by decide +kernel) (by decide +kernel), rfl⟩
theorem kv_M_page : xKV i_M_page "PageBanksModel" 2 := ⟨xT 872 (by decide +kernel) (by decide +kernel), xT 873 (by decide +kernel) (by decide +kernel), xT 36 (by decide +kernel) (by decide +kernel), cd_M_page, ⟨by decide +kernel, by decide +kernel⟩, by decide +kernel⟩
abbrev i_M_owner : xMI := ((⟨"PageBanksModel", "owner", "(I)I"⟩ : MethodName), prog_5_method_45_code, 2, (some .int), [])
theorem cd_M_owner : xCd i_M_owner := Or.inl ⟨xT 878 (by decide +kernel) (by decide +kernel), rfl⟩
theorem kv_M_owner : xKV i_M_owner "PageBanksModel" 1 := ⟨xT 876 (by decide +kernel) (by decide +kernel), xT 877 (by decide +kernel) (by decide +kernel), xT 36 (by decide +kernel) (by decide +kernel), cd_M_owner, ⟨by decide +kernel, by decide +kernel⟩, by decide +kernel⟩
abbrev i_M_isAlive : xMI := ((⟨"PageBanksModel", "isAlive", "(I)Z"⟩ : MethodName), prog_5_method_46_code, 2, (some .boolean), [])
theorem cd_M_isAlive : xCd i_M_isAlive := Or.inl ⟨xT 882 (by decide +kernel) (by decide +kernel), rfl⟩
theorem kv_M_isAlive : xKV i_M_isAlive "PageBanksModel" 1 := ⟨xT 880 (by decide +kernel) (by decide +kernel), xT 881 (by decide +kernel) (by decide +kernel), xT 36 (by decide +kernel) (by decide +kernel), cd_M_isAlive, ⟨by decide +kernel, by decide +kernel⟩, by decide +kernel⟩
abbrev i_M_refused : xMI := ((⟨"PageBanksModel", "refused", "()I"⟩ : MethodName), prog_5_method_47_code, 1, (some .int), [])
theorem cd_M_refused : xCd i_M_refused := Or.inl ⟨xT 886 (by decide +kernel) (by decide +kernel), rfl⟩
theorem kv_M_refused : xKV i_M_refused "PageBanksModel" 0 := ⟨xT 884 (by decide +kernel) (by decide +kernel), xT 885 (by decide +kernel) (by decide +kernel), xT 36 (by decide +kernel) (by decide +kernel), cd_M_refused, ⟨by decide +kernel, by decide +kernel⟩, by decide +kernel⟩
abbrev i_M_count : xMI := ((⟨"PageBanksModel", "count", "(I)I"⟩ : MethodName), prog_5_method_48_code, 5, (some .int), [])
theorem cd_M_count : xCd i_M_count := Or.inl ⟨xT 890 (by decide +kernel) (by decide +kernel), rfl⟩
theorem kv_M_count : xKV i_M_count "PageBanksModel" 1 := ⟨xT 888 (by decide +kernel) (by decide +kernel), xT 889 (by decide +kernel) (by decide +kernel), xT 36 (by decide +kernel) (by decide +kernel), cd_M_count, ⟨by decide +kernel, by decide +kernel⟩, by decide +kernel⟩
abbrev i_M_astray : xMI := ((⟨"PageBanksModel", "astray", "()I"⟩ : MethodName), prog_5_method_49_code, 1, (some .int), [])
theorem cd_M_astray : xCd i_M_astray := Or.inl ⟨xT 894 (by decide +kernel) (by decide +kernel), rfl⟩
theorem kv_M_astray : xKV i_M_astray "PageBanksModel" 0 := ⟨xT 892 (by decide +kernel) (by decide +kernel), xT 893 (by decide +kernel) (by decide +kernel), xT 36 (by decide +kernel) (by decide +kernel), cd_M_astray, ⟨by decide +kernel, by decide +kernel⟩, by decide +kernel⟩
abbrev i_L_law : xMI := ((⟨"PageBanksLaw", "law", "([I)Z"⟩ : MethodName), code, 7, (some .boolean), [])
theorem uin_S : ∀ x ∈ u_ws RS TS 8, x ∈ xTs := by
  intro x hx
  obtain ⟨k, hk, rfl⟩ := List.mem_map.mp hx
  have hk := List.mem_range.mp hk
  match k, hk with
  | 0, _ => exact xT 96 (by decide +kernel) (by decide +kernel)
  | 1, _ => exact xT 98 (by decide +kernel) (by decide +kernel)
  | 2, _ => exact xT 100 (by decide +kernel) (by decide +kernel)
  | 3, _ => exact xT 102 (by decide +kernel) (by decide +kernel)
  | 4, _ => exact xT 104 (by decide +kernel) (by decide +kernel)
  | 5, _ => exact xT 106 (by decide +kernel) (by decide +kernel)
  | 6, _ => exact xT 108 (by decide +kernel) (by decide +kernel)
  | 7, _ => exact xT 110 (by decide +kernel) (by decide +kernel)
  | n + 8, h => omega
theorem uin_T : ∀ x ∈ u_ws RT TT 5, x ∈ xTs := by
  intro x hx
  obtain ⟨k, hk, rfl⟩ := List.mem_map.mp hx
  have hk := List.mem_range.mp hk
  match k, hk with
  | 0, _ => exact xT 69 (by decide +kernel) (by decide +kernel)
  | 1, _ => exact xT 71 (by decide +kernel) (by decide +kernel)
  | 2, _ => exact xT 73 (by decide +kernel) (by decide +kernel)
  | 3, _ => exact xT 75 (by decide +kernel) (by decide +kernel)
  | 4, _ => exact xT 77 (by decide +kernel) (by decide +kernel)
  | n + 5, h => omega
theorem uin_B : ∀ x ∈ u_ws RB TB 3, x ∈ xTs := by
  intro x hx
  obtain ⟨k, hk, rfl⟩ := List.mem_map.mp hx
  have hk := List.mem_range.mp hk
  match k, hk with
  | 0, _ => exact xT 116 (by decide +kernel) (by decide +kernel)
  | 1, _ => exact xT 118 (by decide +kernel) (by decide +kernel)
  | 2, _ => exact xT 120 (by decide +kernel) (by decide +kernel)
  | n + 3, h => omega
theorem uin_M : ∀ x ∈ u_ws RM TM 14, x ∈ xTs := by
  intro x hx
  obtain ⟨k, hk, rfl⟩ := List.mem_map.mp hx
  have hk := List.mem_range.mp hk
  match k, hk with
  | 0, _ => exact xT 677 (by decide +kernel) (by decide +kernel)
  | 1, _ => exact xT 679 (by decide +kernel) (by decide +kernel)
  | 2, _ => exact xT 681 (by decide +kernel) (by decide +kernel)
  | 3, _ => exact xT 683 (by decide +kernel) (by decide +kernel)
  | 4, _ => exact xT 685 (by decide +kernel) (by decide +kernel)
  | 5, _ => exact xT 687 (by decide +kernel) (by decide +kernel)
  | 6, _ => exact xT 689 (by decide +kernel) (by decide +kernel)
  | 7, _ => exact xT 691 (by decide +kernel) (by decide +kernel)
  | 8, _ => exact xT 693 (by decide +kernel) (by decide +kernel)
  | 9, _ => exact xT 695 (by decide +kernel) (by decide +kernel)
  | 10, _ => exact xT 697 (by decide +kernel) (by decide +kernel)
  | 11, _ => exact xT 699 (by decide +kernel) (by decide +kernel)
  | 12, _ => exact xT 701 (by decide +kernel) (by decide +kernel)
  | 13, _ => exact xT 703 (by decide +kernel) (by decide +kernel)
  | n + 14, h => omega
theorem it_PageBanksLaw : Cond.initialized "PageBanksLaw" ∈ xTs := xT 31 (by decide +kernel) (by decide +kernel)
theorem it_PageBanks : Cond.initialized "PageBanks" ∈ xTs := xT 32 (by decide +kernel) (by decide +kernel)
theorem it_PageBanks_Tree : Cond.initialized "PageBanks$Tree" ∈ xTs := xT 33 (by decide +kernel) (by decide +kernel)
theorem it_java_util_Arrays : Cond.initialized "java/util/Arrays" ∈ xTs := xT 34 (by decide +kernel) (by decide +kernel)
theorem it_PageBanks_Store : Cond.initialized "PageBanks$Store" ∈ xTs := xT 35 (by decide +kernel) (by decide +kernel)
theorem it_PageBanksModel : Cond.initialized "PageBanksModel" ∈ xTs := xT 36 (by decide +kernel) (by decide +kernel)
theorem it_java_lang_Throwable : Cond.initialized "java/lang/Throwable" ∈ xTs := xT 37 (by decide +kernel) (by decide +kernel)
theorem it_java_lang_Exception : Cond.initialized "java/lang/Exception" ∈ xTs := xT 38 (by decide +kernel) (by decide +kernel)
theorem it_java_lang_RuntimeException : Cond.initialized "java/lang/RuntimeException" ∈ xTs := xT 39 (by decide +kernel) (by decide +kernel)
theorem it_java_lang_IndexOutOfBoundsException : Cond.initialized "java/lang/IndexOutOfBoundsException" ∈ xTs := xT 40 (by decide +kernel) (by decide +kernel)
theorem it_java_lang_IllegalArgumentException : Cond.initialized "java/lang/IllegalArgumentException" ∈ xTs := xT 41 (by decide +kernel) (by decide +kernel)
theorem it_java_lang_IllegalStateException : Cond.initialized "java/lang/IllegalStateException" ∈ xTs := xT 42 (by decide +kernel) (by decide +kernel)
theorem it_java_lang_UnsupportedOperationException : Cond.initialized "java/lang/UnsupportedOperationException" ∈ xTs := xT 43 (by decide +kernel) (by decide +kernel)
theorem it_java_lang_Math : Cond.initialized "java/lang/Math" ∈ xTs := xT 44 (by decide +kernel) (by decide +kernel)
theorem it_java_util_NoSuchElementException : Cond.initialized "java/util/NoSuchElementException" ∈ xTs := xT 45 (by decide +kernel) (by decide +kernel)
theorem it_java_lang_System : Cond.initialized "java/lang/System" ∈ xTs := xT 46 (by decide +kernel) (by decide +kernel)
theorem c_L_8 : Cond.classLink "PageBanksLaw" 8 "PageBanks" ∈ xTs := xT 47 (by decide +kernel) (by decide +kernel)
theorem in_PageBanks : Cond.instantiable "PageBanks" 3 ∈ xTs := xT 48 (by decide +kernel) (by decide +kernel)
theorem l_L_80 : Cond.methodLink "PageBanksLaw" 80 (xy i_B_init) ∈ xTs := xT 49 (by decide +kernel) (by decide +kernel)
theorem l_B_1 : Cond.methodLink "PageBanks" 1 Lib.objectInit ∈ xTs := xT 52 (by decide +kernel) (by decide +kernel)
theorem c_B_7 : Cond.classLink "PageBanks" 7 "PageBanks$Tree" ∈ xTs := xT 55 (by decide +kernel) (by decide +kernel)
theorem in_PageBanks_Tree : Cond.instantiable "PageBanks$Tree" 5 ∈ xTs := xT 56 (by decide +kernel) (by decide +kernel)
theorem l_B_9 : Cond.methodLink "PageBanks" 9 (xy i_T_init) ∈ xTs := xT 57 (by decide +kernel) (by decide +kernel)
theorem l_T_3 : Cond.methodLink "PageBanks$Tree" 3 Lib.objectInit ∈ xTs := xT 60 (by decide +kernel) (by decide +kernel)
theorem l_T_27 : Cond.methodLink "PageBanks$Tree" 27 (xy i_A_fill) ∈ xTs := xT 61 (by decide +kernel) (by decide +kernel)
theorem f_T_9 : Cond.fieldLink "PageBanks$Tree" 9 (TT 0).1 (TT 0).2.1 (TT 0).2.2.1 ∈ xTs := xT 64 (by decide +kernel) (by decide +kernel)
theorem f_T_15 : Cond.fieldLink "PageBanks$Tree" 15 (TT 1).1 (TT 1).2.1 (TT 1).2.2.1 ∈ xTs := xT 65 (by decide +kernel) (by decide +kernel)
theorem f_T_18 : Cond.fieldLink "PageBanks$Tree" 18 (TT 2).1 (TT 2).2.1 (TT 2).2.2.1 ∈ xTs := xT 66 (by decide +kernel) (by decide +kernel)
theorem f_T_21 : Cond.fieldLink "PageBanks$Tree" 21 (TT 3).1 (TT 3).2.1 (TT 3).2.2.1 ∈ xTs := xT 67 (by decide +kernel) (by decide +kernel)
theorem f_T_24 : Cond.fieldLink "PageBanks$Tree" 24 (TT 4).1 (TT 4).2.1 (TT 4).2.2.1 ∈ xTs := xT 68 (by decide +kernel) (by decide +kernel)
theorem ar_int : Cond.arrayClass .int ∈ xTs := xT 80 (by decide +kernel) (by decide +kernel)
theorem c_B_16 : Cond.classLink "PageBanks" 16 "PageBanks$Store" ∈ xTs := xT 81 (by decide +kernel) (by decide +kernel)
theorem in_PageBanks_Store : Cond.instantiable "PageBanks$Store" 8 ∈ xTs := xT 82 (by decide +kernel) (by decide +kernel)
theorem l_B_18 : Cond.methodLink "PageBanks" 18 (xy i_S_init) ∈ xTs := xT 83 (by decide +kernel) (by decide +kernel)
theorem l_S_3 : Cond.methodLink "PageBanks$Store" 3 Lib.objectInit ∈ xTs := xT 86 (by decide +kernel) (by decide +kernel)
theorem l_S_30 : Cond.methodLink "PageBanks$Store" 30 (xy i_A_fill) ∈ xTs := xT 87 (by decide +kernel) (by decide +kernel)
theorem f_S_9 : Cond.fieldLink "PageBanks$Store" 9 (TS 0).1 (TS 0).2.1 (TS 0).2.2.1 ∈ xTs := xT 88 (by decide +kernel) (by decide +kernel)
theorem f_S_15 : Cond.fieldLink "PageBanks$Store" 15 (TS 1).1 (TS 1).2.1 (TS 1).2.2.1 ∈ xTs := xT 89 (by decide +kernel) (by decide +kernel)
theorem f_S_18 : Cond.fieldLink "PageBanks$Store" 18 (TS 2).1 (TS 2).2.1 (TS 2).2.2.1 ∈ xTs := xT 90 (by decide +kernel) (by decide +kernel)
theorem f_S_21 : Cond.fieldLink "PageBanks$Store" 21 (TS 3).1 (TS 3).2.1 (TS 3).2.2.1 ∈ xTs := xT 91 (by decide +kernel) (by decide +kernel)
theorem f_S_24 : Cond.fieldLink "PageBanks$Store" 24 (TS 4).1 (TS 4).2.1 (TS 4).2.2.1 ∈ xTs := xT 92 (by decide +kernel) (by decide +kernel)
theorem f_S_27 : Cond.fieldLink "PageBanks$Store" 27 (TS 5).1 (TS 5).2.1 (TS 5).2.2.1 ∈ xTs := xT 93 (by decide +kernel) (by decide +kernel)
theorem f_S_40 : Cond.fieldLink "PageBanks$Store" 40 (TS 6).1 (TS 6).2.1 (TS 6).2.2.1 ∈ xTs := xT 94 (by decide +kernel) (by decide +kernel)
theorem f_S_51 : Cond.fieldLink "PageBanks$Store" 51 (TS 7).1 (TS 7).2.1 (TS 7).2.2.1 ∈ xTs := xT 95 (by decide +kernel) (by decide +kernel)
theorem f_B_10 : Cond.fieldLink "PageBanks" 10 (TB 0).1 (TB 0).2.1 (TB 0).2.2.1 ∈ xTs := xT 113 (by decide +kernel) (by decide +kernel)
theorem f_B_19 : Cond.fieldLink "PageBanks" 19 (TB 1).1 (TB 1).2.1 (TB 1).2.2.1 ∈ xTs := xT 114 (by decide +kernel) (by decide +kernel)
theorem f_B_23 : Cond.fieldLink "PageBanks" 23 (TB 2).1 (TB 2).2.1 (TB 2).2.2.1 ∈ xTs := xT 115 (by decide +kernel) (by decide +kernel)
theorem l_L_151 : Cond.methodLink "PageBanksLaw" 151 (xy i_B_isAlive) ∈ xTs := xT 123 (by decide +kernel) (by decide +kernel)
theorem l_B_67 : Cond.methodLink "PageBanks" 67 (xy i_B_placeOf) ∈ xTs := xT 127 (by decide +kernel) (by decide +kernel)
theorem l_B_234 : Cond.methodLink "PageBanks" 234 (xy i_J_floorMod) ∈ xTs := xT 130 (by decide +kernel) (by decide +kernel)
theorem l_B_175 : Cond.methodLink "PageBanks" 175 (xy i_B_versionOf) ∈ xTs := xT 133 (by decide +kernel) (by decide +kernel)
theorem l_B_237 : Cond.methodLink "PageBanks" 237 (xy i_J_floorDiv) ∈ xTs := xT 136 (by decide +kernel) (by decide +kernel)
theorem l_B_178 : Cond.methodLink "PageBanks" 178 (xy i_S_hasPage) ∈ xTs := xT 139 (by decide +kernel) (by decide +kernel)
theorem l_S_36 : Cond.methodLink "PageBanks$Store" 36 (xy i_S_isTaken) ∈ xTs := xT 143 (by decide +kernel) (by decide +kernel)
theorem l_B_74 : Cond.methodLink "PageBanks" 74 (xy i_S_ownerOf) ∈ xTs := xT 147 (by decide +kernel) (by decide +kernel)
theorem l_B_77 : Cond.methodLink "PageBanks" 77 (xy i_T_isDying) ∈ xTs := xT 151 (by decide +kernel) (by decide +kernel)
theorem l_L_156 : Cond.methodLink "PageBanksLaw" 156 (xy i_B_refused) ∈ xTs := xT 155 (by decide +kernel) (by decide +kernel)
theorem l_L_160 : Cond.methodLink "PageBanksLaw" 160 (xy i_B_count) ∈ xTs := xT 159 (by decide +kernel) (by decide +kernel)
theorem l_B_181 : Cond.methodLink "PageBanks" 181 (xy i_S_freePlaces) ∈ xTs := xT 163 (by decide +kernel) (by decide +kernel)
theorem l_S_44 : Cond.methodLink "PageBanks$Store" 44 (xy i_S_isFree) ∈ xTs := xT 167 (by decide +kernel) (by decide +kernel)
theorem l_B_184 : Cond.methodLink "PageBanks" 184 (xy i_S_retiredPlaces) ∈ xTs := xT 171 (by decide +kernel) (by decide +kernel)
theorem l_S_47 : Cond.methodLink "PageBanks$Store" 47 (xy i_S_freePlaces) ∈ xTs := xT 175 (by decide +kernel) (by decide +kernel)
theorem l_B_187 : Cond.methodLink "PageBanks" 187 (xy i_S_pages) ∈ xTs := xT 176 (by decide +kernel) (by decide +kernel)
theorem l_B_166 : Cond.methodLink "PageBanks" 166 (xy i_T_subtreeSize) ∈ xTs := xT 180 (by decide +kernel) (by decide +kernel)
theorem l_T_33 : Cond.methodLink "PageBanks$Tree" 33 (xy i_T_isBank) ∈ xTs := xT 184 (by decide +kernel) (by decide +kernel)
theorem l_T_37 : Cond.methodLink "PageBanks$Tree" 37 (xy i_T_isWithin) ∈ xTs := xT 188 (by decide +kernel) (by decide +kernel)
theorem l_L_164 : Cond.methodLink "PageBanksLaw" 164 (xy i_B_astray) ∈ xTs := xT 192 (by decide +kernel) (by decide +kernel)
theorem l_B_190 : Cond.methodLink "PageBanks" 190 (xy i_T_isBank) ∈ xTs := xT 196 (by decide +kernel) (by decide +kernel)
theorem l_B_148 : Cond.methodLink "PageBanks" 148 (xy i_S_ownedBy) ∈ xTs := xT 197 (by decide +kernel) (by decide +kernel)
theorem l_B_193 : Cond.methodLink "PageBanks" 193 (xy i_T_isStray) ∈ xTs := xT 201 (by decide +kernel) (by decide +kernel)
theorem l_B_196 : Cond.methodLink "PageBanks" 196 (xy i_S_countListings) ∈ xTs := xT 205 (by decide +kernel) (by decide +kernel)
theorem l_B_199 : Cond.methodLink "PageBanks" 199 (xy i_S_isListedWrongly) ∈ xTs := xT 209 (by decide +kernel) (by decide +kernel)
theorem l_B_202 : Cond.methodLink "PageBanks" 202 (xy i_B_isWithoutBank) ∈ xTs := xT 213 (by decide +kernel) (by decide +kernel)
theorem l_B_205 : Cond.methodLink "PageBanks" 205 (xy i_S_isTaken) ∈ xTs := xT 217 (by decide +kernel) (by decide +kernel)
theorem l_L_84 : Cond.methodLink "PageBanksLaw" 84 (xy i_L_bank) ∈ xTs := xT 218 (by decide +kernel) (by decide +kernel)
theorem c_L_13 : Cond.classLink "PageBanksLaw" 13 "java/lang/IndexOutOfBoundsException" ∈ xTs := xT 221 (by decide +kernel) (by decide +kernel)
theorem c_L_15 : Cond.classLink "PageBanksLaw" 15 "java/lang/IllegalArgumentException" ∈ xTs := xT 222 (by decide +kernel) (by decide +kernel)
theorem c_L_17 : Cond.classLink "PageBanksLaw" 17 "java/lang/IllegalStateException" ∈ xTs := xT 223 (by decide +kernel) (by decide +kernel)
theorem c_L_19 : Cond.classLink "PageBanksLaw" 19 "java/lang/UnsupportedOperationException" ∈ xTs := xT 224 (by decide +kernel) (by decide +kernel)
theorem l_L_7 : Cond.methodLink "PageBanksLaw" 7 (xy i_B_bank) ∈ xTs := xT 225 (by decide +kernel) (by decide +kernel)
theorem l_B_27 : Cond.methodLink "PageBanks" 27 (xy i_B_requireBank) ∈ xTs := xT 229 (by decide +kernel) (by decide +kernel)
theorem l_B_96 : Cond.methodLink "PageBanks" 96 (xy i_B_requireIndex) ∈ xTs := xT 233 (by decide +kernel) (by decide +kernel)
theorem c_B_228 : Cond.classLink "PageBanks" 228 "java/lang/IndexOutOfBoundsException" ∈ xTs := xT 236 (by decide +kernel) (by decide +kernel)
theorem in_java_lang_IndexOutOfBoundsException : Cond.instantiable "java/lang/IndexOutOfBoundsException" 6 ∈ xTs := xT 237 (by decide +kernel) (by decide +kernel)
theorem ca_IndexOutOfBoundsException : Cond.castable "java/lang/IndexOutOfBoundsException" "java/lang/IndexOutOfBoundsException" ∈ xTs := xT 238 (by decide +kernel) (by decide +kernel)
theorem in_java_lang_Throwable : Cond.instantiable "java/lang/Throwable" 6 ∈ xTs := xT 277 (by decide +kernel) (by decide +kernel)
theorem l_B_31 : Cond.methodLink "PageBanks" 31 (xy i_B_isUpToAllPages) ∈ xTs := xT 301 (by decide +kernel) (by decide +kernel)
theorem l_B_35 : Cond.methodLink "PageBanks" 35 (xy i_B_requireArgument) ∈ xTs := xT 304 (by decide +kernel) (by decide +kernel)
theorem c_B_169 : Cond.classLink "PageBanks" 169 "java/lang/IllegalArgumentException" ∈ xTs := xT 307 (by decide +kernel) (by decide +kernel)
theorem in_java_lang_IllegalArgumentException : Cond.instantiable "java/lang/IllegalArgumentException" 6 ∈ xTs := xT 308 (by decide +kernel) (by decide +kernel)
theorem ca_IllegalArgumentException : Cond.castable "java/lang/IllegalArgumentException" "java/lang/IllegalArgumentException" ∈ xTs := xT 309 (by decide +kernel) (by decide +kernel)
theorem l_B_39 : Cond.methodLink "PageBanks" 39 (xy i_B_requireLive) ∈ xTs := xT 322 (by decide +kernel) (by decide +kernel)
theorem l_B_163 : Cond.methodLink "PageBanks" 163 (xy i_T_stateOf) ∈ xTs := xT 326 (by decide +kernel) (by decide +kernel)
theorem l_B_115 : Cond.methodLink "PageBanks" 115 (xy i_B_requireState) ∈ xTs := xT 330 (by decide +kernel) (by decide +kernel)
theorem c_B_231 : Cond.classLink "PageBanks" 231 "java/lang/IllegalStateException" ∈ xTs := xT 333 (by decide +kernel) (by decide +kernel)
theorem in_java_lang_IllegalStateException : Cond.instantiable "java/lang/IllegalStateException" 6 ∈ xTs := xT 334 (by decide +kernel) (by decide +kernel)
theorem ca_IllegalStateException : Cond.castable "java/lang/IllegalStateException" "java/lang/IllegalStateException" ∈ xTs := xT 335 (by decide +kernel) (by decide +kernel)
theorem l_B_42 : Cond.methodLink "PageBanks" 42 (xy i_T_leastUnusedNumber) ∈ xTs := xT 348 (by decide +kernel) (by decide +kernel)
theorem l_B_46 : Cond.methodLink "PageBanks" 46 (xy i_T_depthOf) ∈ xTs := xT 352 (by decide +kernel) (by decide +kernel)
theorem l_B_50 : Cond.methodLink "PageBanks" 50 (xy i_B_refuse) ∈ xTs := xT 356 (by decide +kernel) (by decide +kernel)
theorem c_B_219 : Cond.classLink "PageBanks" 219 "java/lang/UnsupportedOperationException" ∈ xTs := xT 360 (by decide +kernel) (by decide +kernel)
theorem in_java_lang_UnsupportedOperationException : Cond.instantiable "java/lang/UnsupportedOperationException" 6 ∈ xTs := xT 361 (by decide +kernel) (by decide +kernel)
theorem ca_UnsupportedOperationException : Cond.castable "java/lang/UnsupportedOperationException" "java/lang/UnsupportedOperationException" ∈ xTs := xT 362 (by decide +kernel) (by decide +kernel)
theorem l_B_53 : Cond.methodLink "PageBanks" 53 (xy i_T_open) ∈ xTs := xT 375 (by decide +kernel) (by decide +kernel)
theorem l_L_94 : Cond.methodLink "PageBanksLaw" 94 (xy i_L_buy) ∈ xTs := xT 379 (by decide +kernel) (by decide +kernel)
theorem l_L_21 : Cond.methodLink "PageBanksLaw" 21 (xy i_B_buy) ∈ xTs := xT 382 (by decide +kernel) (by decide +kernel)
theorem l_B_57 : Cond.methodLink "PageBanks" 57 (xy i_B_buyNeighbours) ∈ xTs := xT 386 (by decide +kernel) (by decide +kernel)
theorem l_B_127 : Cond.methodLink "PageBanks" 127 (xy i_T_reservedBy) ∈ xTs := xT 390 (by decide +kernel) (by decide +kernel)
theorem l_B_208 : Cond.methodLink "PageBanks" 208 (xy i_J_min) ∈ xTs := xT 394 (by decide +kernel) (by decide +kernel)
theorem l_B_121 : Cond.methodLink "PageBanks" 121 (xy i_B_requireUse) ∈ xTs := xT 397 (by decide +kernel) (by decide +kernel)
theorem l_B_106 : Cond.methodLink "PageBanks" 106 (xy i_T_refuserOf) ∈ xTs := xT 401 (by decide +kernel) (by decide +kernel)
theorem l_B_213 : Cond.methodLink "PageBanks" 213 (xy i_S_leastFree) ∈ xTs := xT 405 (by decide +kernel) (by decide +kernel)
theorem l_B_124 : Cond.methodLink "PageBanks" 124 (xy i_T_addReserved) ∈ xTs := xT 409 (by decide +kernel) (by decide +kernel)
theorem l_B_89 : Cond.methodLink "PageBanks" 89 (xy i_T_addUse) ∈ xTs := xT 413 (by decide +kernel) (by decide +kernel)
theorem l_B_216 : Cond.methodLink "PageBanks" 216 (xy i_S_fill) ∈ xTs := xT 417 (by decide +kernel) (by decide +kernel)
theorem l_S_54 : Cond.methodLink "PageBanks$Store" 54 (xy i_S_clearWords) ∈ xTs := xT 421 (by decide +kernel) (by decide +kernel)
theorem l_S_58 : Cond.methodLink "PageBanks$Store" 58 (xy i_S_give) ∈ xTs := xT 425 (by decide +kernel) (by decide +kernel)
theorem l_B_80 : Cond.methodLink "PageBanks" 80 (xy i_S_strongKey) ∈ xTs := xT 429 (by decide +kernel) (by decide +kernel)
theorem l_L_98 : Cond.methodLink "PageBanksLaw" 98 (xy i_L_buyRun) ∈ xTs := xT 433 (by decide +kernel) (by decide +kernel)
theorem l_L_25 : Cond.methodLink "PageBanksLaw" 25 (xy i_B_buyRun) ∈ xTs := xT 436 (by decide +kernel) (by decide +kernel)
theorem l_L_101 : Cond.methodLink "PageBanksLaw" 101 (xy i_L_runKey) ∈ xTs := xT 440 (by decide +kernel) (by decide +kernel)
theorem c_L_31 : Cond.classLink "PageBanksLaw" 31 "java/util/NoSuchElementException" ∈ xTs := xT 443 (by decide +kernel) (by decide +kernel)
theorem l_L_28 : Cond.methodLink "PageBanksLaw" 28 (xy i_B_runKey) ∈ xTs := xT 444 (by decide +kernel) (by decide +kernel)
theorem l_B_61 : Cond.methodLink "PageBanks" 61 (xy i_B_requireAlive) ∈ xTs := xT 448 (by decide +kernel) (by decide +kernel)
theorem l_B_222 : Cond.methodLink "PageBanks" 222 (xy i_B_isAlive) ∈ xTs := xT 452 (by decide +kernel) (by decide +kernel)
theorem c_B_225 : Cond.classLink "PageBanks" 225 "java/util/NoSuchElementException" ∈ xTs := xT 453 (by decide +kernel) (by decide +kernel)
theorem in_java_util_NoSuchElementException : Cond.instantiable "java/util/NoSuchElementException" 6 ∈ xTs := xT 454 (by decide +kernel) (by decide +kernel)
theorem ca_NoSuchElementException : Cond.castable "java/util/NoSuchElementException" "java/util/NoSuchElementException" ∈ xTs := xT 455 (by decide +kernel) (by decide +kernel)
theorem l_B_64 : Cond.methodLink "PageBanks" 64 (xy i_B_isStrong) ∈ xTs := xT 468 (by decide +kernel) (by decide +kernel)
theorem l_B_70 : Cond.methodLink "PageBanks" 70 (xy i_S_isSameRun) ∈ xTs := xT 471 (by decide +kernel) (by decide +kernel)
theorem l_L_104 : Cond.methodLink "PageBanksLaw" 104 (xy i_L_sell) ∈ xTs := xT 475 (by decide +kernel) (by decide +kernel)
theorem l_L_33 : Cond.methodLink "PageBanksLaw" 33 (xy i_B_sell) ∈ xTs := xT 478 (by decide +kernel) (by decide +kernel)
theorem l_B_83 : Cond.methodLink "PageBanks" 83 (xy i_S_vacate) ∈ xTs := xT 482 (by decide +kernel) (by decide +kernel)
theorem l_B_86 : Cond.methodLink "PageBanks" 86 (xy i_S_closeGaps) ∈ xTs := xT 486 (by decide +kernel) (by decide +kernel)
theorem l_L_107 : Cond.methodLink "PageBanksLaw" 107 (xy i_L_weak) ∈ xTs := xT 490 (by decide +kernel) (by decide +kernel)
theorem l_L_36 : Cond.methodLink "PageBanksLaw" 36 (xy i_B_weak) ∈ xTs := xT 493 (by decide +kernel) (by decide +kernel)
theorem l_L_110 : Cond.methodLink "PageBanksLaw" 110 (xy i_L_read) ∈ xTs := xT 497 (by decide +kernel) (by decide +kernel)
theorem l_L_39 : Cond.methodLink "PageBanksLaw" 39 (xy i_B_read) ∈ xTs := xT 500 (by decide +kernel) (by decide +kernel)
theorem l_B_93 : Cond.methodLink "PageBanks" 93 (xy i_B_isWord) ∈ xTs := xT 504 (by decide +kernel) (by decide +kernel)
theorem l_B_99 : Cond.methodLink "PageBanks" 99 (xy i_S_wordAt) ∈ xTs := xT 507 (by decide +kernel) (by decide +kernel)
theorem l_L_113 : Cond.methodLink "PageBanksLaw" 113 (xy i_L_write) ∈ xTs := xT 511 (by decide +kernel) (by decide +kernel)
theorem l_L_42 : Cond.methodLink "PageBanksLaw" 42 (xy i_B_write) ∈ xTs := xT 514 (by decide +kernel) (by decide +kernel)
theorem l_B_102 : Cond.methodLink "PageBanks" 102 (xy i_S_replaceWord) ∈ xTs := xT 518 (by decide +kernel) (by decide +kernel)
theorem l_L_117 : Cond.methodLink "PageBanksLaw" 117 (xy i_L_move) ∈ xTs := xT 522 (by decide +kernel) (by decide +kernel)
theorem l_L_46 : Cond.methodLink "PageBanksLaw" 46 (xy i_B_move) ∈ xTs := xT 525 (by decide +kernel) (by decide +kernel)
theorem l_B_109 : Cond.methodLink "PageBanks" 109 (xy i_S_give) ∈ xTs := xT 529 (by decide +kernel) (by decide +kernel)
theorem l_L_120 : Cond.methodLink "PageBanksLaw" 120 (xy i_L_limit) ∈ xTs := xT 530 (by decide +kernel) (by decide +kernel)
theorem l_L_49 : Cond.methodLink "PageBanksLaw" 49 (xy i_B_limit) ∈ xTs := xT 533 (by decide +kernel) (by decide +kernel)
theorem l_B_112 : Cond.methodLink "PageBanks" 112 (xy i_T_useOf) ∈ xTs := xT 537 (by decide +kernel) (by decide +kernel)
theorem l_B_118 : Cond.methodLink "PageBanks" 118 (xy i_T_replaceLimit) ∈ xTs := xT 541 (by decide +kernel) (by decide +kernel)
theorem l_L_123 : Cond.methodLink "PageBanksLaw" 123 (xy i_L_reserve) ∈ xTs := xT 545 (by decide +kernel) (by decide +kernel)
theorem l_L_52 : Cond.methodLink "PageBanksLaw" 52 (xy i_B_reserve) ∈ xTs := xT 548 (by decide +kernel) (by decide +kernel)
theorem l_L_126 : Cond.methodLink "PageBanksLaw" 126 (xy i_L_unreserve) ∈ xTs := xT 552 (by decide +kernel) (by decide +kernel)
theorem l_L_55 : Cond.methodLink "PageBanksLaw" 55 (xy i_B_unreserve) ∈ xTs := xT 555 (by decide +kernel) (by decide +kernel)
theorem l_L_129 : Cond.methodLink "PageBanksLaw" 129 (xy i_L_freeze) ∈ xTs := xT 559 (by decide +kernel) (by decide +kernel)
theorem l_L_58 : Cond.methodLink "PageBanksLaw" 58 (xy i_B_freeze) ∈ xTs := xT 562 (by decide +kernel) (by decide +kernel)
theorem l_B_130 : Cond.methodLink "PageBanks" 130 (xy i_B_requireOtherThanRoot) ∈ xTs := xT 566 (by decide +kernel) (by decide +kernel)
theorem l_B_133 : Cond.methodLink "PageBanks" 133 (xy i_T_replaceState) ∈ xTs := xT 570 (by decide +kernel) (by decide +kernel)
theorem l_L_133 : Cond.methodLink "PageBanksLaw" 133 (xy i_L_destroy) ∈ xTs := xT 574 (by decide +kernel) (by decide +kernel)
theorem l_L_62 : Cond.methodLink "PageBanksLaw" 62 (xy i_B_destroy) ∈ xTs := xT 577 (by decide +kernel) (by decide +kernel)
theorem l_B_136 : Cond.methodLink "PageBanks" 136 (xy i_T_condemn) ∈ xTs := xT 581 (by decide +kernel) (by decide +kernel)
theorem l_T_41 : Cond.methodLink "PageBanks$Tree" 41 (xy i_T_addUse) ∈ xTs := xT 585 (by decide +kernel) (by decide +kernel)
theorem l_B_139 : Cond.methodLink "PageBanks" 139 (xy i_T_closeEmptyDying) ∈ xTs := xT 586 (by decide +kernel) (by decide +kernel)
theorem l_T_45 : Cond.methodLink "PageBanks$Tree" 45 (xy i_T_isDying) ∈ xTs := xT 590 (by decide +kernel) (by decide +kernel)
theorem l_B_142 : Cond.methodLink "PageBanks" 142 (xy i_B_dyingPages) ∈ xTs := xT 591 (by decide +kernel) (by decide +kernel)
theorem l_B_145 : Cond.methodLink "PageBanks" 145 (xy i_B_isDyingPage) ∈ xTs := xT 595 (by decide +kernel) (by decide +kernel)
theorem l_L_136 : Cond.methodLink "PageBanksLaw" 136 (xy i_L_work) ∈ xTs := xT 599 (by decide +kernel) (by decide +kernel)
theorem l_L_65 : Cond.methodLink "PageBanksLaw" 65 (xy i_B_work) ∈ xTs := xT 602 (by decide +kernel) (by decide +kernel)
theorem l_L_139 : Cond.methodLink "PageBanksLaw" 139 (xy i_L_handUp) ∈ xTs := xT 606 (by decide +kernel) (by decide +kernel)
theorem l_L_68 : Cond.methodLink "PageBanksLaw" 68 (xy i_B_handUp) ∈ xTs := xT 609 (by decide +kernel) (by decide +kernel)
theorem l_B_151 : Cond.methodLink "PageBanks" 151 (xy i_T_parentOf) ∈ xTs := xT 613 (by decide +kernel) (by decide +kernel)
theorem l_B_154 : Cond.methodLink "PageBanks" 154 (xy i_S_giveAll) ∈ xTs := xT 617 (by decide +kernel) (by decide +kernel)
theorem l_B_157 : Cond.methodLink "PageBanks" 157 (xy i_T_mergeIntoParent) ∈ xTs := xT 624 (by decide +kernel) (by decide +kernel)
theorem l_L_142 : Cond.methodLink "PageBanksLaw" 142 (xy i_L_told) ∈ xTs := xT 628 (by decide +kernel) (by decide +kernel)
theorem l_L_71 : Cond.methodLink "PageBanksLaw" 71 (xy i_B_told) ∈ xTs := xT 631 (by decide +kernel) (by decide +kernel)
theorem l_B_160 : Cond.methodLink "PageBanks" 160 (xy i_T_limitOf) ∈ xTs := xT 635 (by decide +kernel) (by decide +kernel)
theorem l_L_145 : Cond.methodLink "PageBanksLaw" 145 (xy i_L_page) ∈ xTs := xT 639 (by decide +kernel) (by decide +kernel)
theorem l_L_74 : Cond.methodLink "PageBanksLaw" 74 (xy i_B_page) ∈ xTs := xT 642 (by decide +kernel) (by decide +kernel)
theorem l_B_172 : Cond.methodLink "PageBanks" 172 (xy i_S_placeOfOwned) ∈ xTs := xT 646 (by decide +kernel) (by decide +kernel)
theorem l_L_148 : Cond.methodLink "PageBanksLaw" 148 (xy i_L_owner) ∈ xTs := xT 650 (by decide +kernel) (by decide +kernel)
theorem l_L_77 : Cond.methodLink "PageBanksLaw" 77 (xy i_B_owner) ∈ xTs := xT 653 (by decide +kernel) (by decide +kernel)
theorem c_L_81 : Cond.classLink "PageBanksLaw" 81 "PageBanksModel" ∈ xTs := xT 657 (by decide +kernel) (by decide +kernel)
theorem in_PageBanksModel : Cond.instantiable "PageBanksModel" 14 ∈ xTs := xT 658 (by decide +kernel) (by decide +kernel)
theorem l_L_83 : Cond.methodLink "PageBanksLaw" 83 (xy i_M_init) ∈ xTs := xT 659 (by decide +kernel) (by decide +kernel)
theorem l_M_1 : Cond.methodLink "PageBanksModel" 1 Lib.objectInit ∈ xTs := xT 662 (by decide +kernel) (by decide +kernel)
theorem f_M_45 : Cond.fieldLink "PageBanksModel" 45 (TM 0).1 (TM 0).2.1 (TM 0).2.2.1 ∈ xTs := xT 663 (by decide +kernel) (by decide +kernel)
theorem f_M_7 : Cond.fieldLink "PageBanksModel" 7 (TM 1).1 (TM 1).2.1 (TM 1).2.2.1 ∈ xTs := xT 664 (by decide +kernel) (by decide +kernel)
theorem f_M_13 : Cond.fieldLink "PageBanksModel" 13 (TM 2).1 (TM 2).2.1 (TM 2).2.2.1 ∈ xTs := xT 665 (by decide +kernel) (by decide +kernel)
theorem f_M_16 : Cond.fieldLink "PageBanksModel" 16 (TM 3).1 (TM 3).2.1 (TM 3).2.2.1 ∈ xTs := xT 666 (by decide +kernel) (by decide +kernel)
theorem f_M_19 : Cond.fieldLink "PageBanksModel" 19 (TM 4).1 (TM 4).2.1 (TM 4).2.2.1 ∈ xTs := xT 667 (by decide +kernel) (by decide +kernel)
theorem f_M_22 : Cond.fieldLink "PageBanksModel" 22 (TM 5).1 (TM 5).2.1 (TM 5).2.2.1 ∈ xTs := xT 668 (by decide +kernel) (by decide +kernel)
theorem f_M_89 : Cond.fieldLink "PageBanksModel" 89 (TM 6).1 (TM 6).2.1 (TM 6).2.2.1 ∈ xTs := xT 669 (by decide +kernel) (by decide +kernel)
theorem f_M_80 : Cond.fieldLink "PageBanksModel" 80 (TM 7).1 (TM 7).2.1 (TM 7).2.2.1 ∈ xTs := xT 670 (by decide +kernel) (by decide +kernel)
theorem f_M_25 : Cond.fieldLink "PageBanksModel" 25 (TM 8).1 (TM 8).2.1 (TM 8).2.2.1 ∈ xTs := xT 671 (by decide +kernel) (by decide +kernel)
theorem f_M_29 : Cond.fieldLink "PageBanksModel" 29 (TM 9).1 (TM 9).2.1 (TM 9).2.2.1 ∈ xTs := xT 672 (by decide +kernel) (by decide +kernel)
theorem f_M_32 : Cond.fieldLink "PageBanksModel" 32 (TM 10).1 (TM 10).2.1 (TM 10).2.2.1 ∈ xTs := xT 673 (by decide +kernel) (by decide +kernel)
theorem f_M_35 : Cond.fieldLink "PageBanksModel" 35 (TM 11).1 (TM 11).2.1 (TM 11).2.2.1 ∈ xTs := xT 674 (by decide +kernel) (by decide +kernel)
theorem f_M_38 : Cond.fieldLink "PageBanksModel" 38 (TM 12).1 (TM 12).2.1 (TM 12).2.2.1 ∈ xTs := xT 675 (by decide +kernel) (by decide +kernel)
theorem f_M_41 : Cond.fieldLink "PageBanksModel" 41 (TM 13).1 (TM 13).2.1 (TM 13).2.2.1 ∈ xTs := xT 676 (by decide +kernel) (by decide +kernel)
theorem ar_boolean : Cond.arrayClass .boolean ∈ xTs := xT 706 (by decide +kernel) (by decide +kernel)
theorem l_L_90 : Cond.methodLink "PageBanksLaw" 90 (xy i_M_thrown) ∈ xTs := xT 707 (by decide +kernel) (by decide +kernel)
theorem l_L_89 : Cond.methodLink "PageBanksLaw" 89 (xy i_M_bank) ∈ xTs := xT 711 (by decide +kernel) (by decide +kernel)
theorem l_M_63 : Cond.methodLink "PageBanksModel" 63 (xy i_M_isBank) ∈ xTs := xT 715 (by decide +kernel) (by decide +kernel)
theorem l_M_48 : Cond.methodLink "PageBanksModel" 48 (xy i_M_in) ∈ xTs := xT 719 (by decide +kernel) (by decide +kernel)
theorem l_M_67 : Cond.methodLink "PageBanksModel" 67 (xy i_M_isOpen) ∈ xTs := xT 722 (by decide +kernel) (by decide +kernel)
theorem l_M_70 : Cond.methodLink "PageBanksModel" 70 (xy i_M_depthOf) ∈ xTs := xT 726 (by decide +kernel) (by decide +kernel)
theorem l_M_73 : Cond.methodLink "PageBanksModel" 73 (xy i_M_unsupported) ∈ xTs := xT 730 (by decide +kernel) (by decide +kernel)
theorem l_L_97 : Cond.methodLink "PageBanksLaw" 97 (xy i_M_buy) ∈ xTs := xT 734 (by decide +kernel) (by decide +kernel)
theorem l_M_99 : Cond.methodLink "PageBanksModel" 99 (xy i_M_bought) ∈ xTs := xT 738 (by decide +kernel) (by decide +kernel)
theorem l_M_83 : Cond.methodLink "PageBanksModel" 83 (xy i_M_refuser) ∈ xTs := xT 742 (by decide +kernel) (by decide +kernel)
theorem l_M_60 : Cond.methodLink "PageBanksModel" 60 (xy i_M_useOf) ∈ xTs := xT 746 (by decide +kernel) (by decide +kernel)
theorem l_M_52 : Cond.methodLink "PageBanksModel" 52 (xy i_M_isUnder) ∈ xTs := xT 750 (by decide +kernel) (by decide +kernel)
theorem l_M_56 : Cond.methodLink "PageBanksModel" 56 (xy i_M_owned) ∈ xTs := xT 754 (by decide +kernel) (by decide +kernel)
theorem l_M_86 : Cond.methodLink "PageBanksModel" 86 (xy i_M_room) ∈ xTs := xT 758 (by decide +kernel) (by decide +kernel)
theorem l_M_77 : Cond.methodLink "PageBanksModel" 77 (xy i_M_isFree) ∈ xTs := xT 762 (by decide +kernel) (by decide +kernel)
theorem l_M_92 : Cond.methodLink "PageBanksModel" 92 (xy i_M_own) ∈ xTs := xT 766 (by decide +kernel) (by decide +kernel)
theorem l_M_96 : Cond.methodLink "PageBanksModel" 96 (xy i_M_keyOf) ∈ xTs := xT 770 (by decide +kernel) (by decide +kernel)
theorem l_L_100 : Cond.methodLink "PageBanksLaw" 100 (xy i_M_buyRun) ∈ xTs := xT 773 (by decide +kernel) (by decide +kernel)
theorem l_L_103 : Cond.methodLink "PageBanksLaw" 103 (xy i_M_runKey) ∈ xTs := xT 777 (by decide +kernel) (by decide +kernel)
theorem l_M_106 : Cond.methodLink "PageBanksModel" 106 (xy i_M_lives) ∈ xTs := xT 781 (by decide +kernel) (by decide +kernel)
theorem l_M_103 : Cond.methodLink "PageBanksModel" 103 (xy i_M_placeOf) ∈ xTs := xT 785 (by decide +kernel) (by decide +kernel)
theorem l_M_109 : Cond.methodLink "PageBanksModel" 109 (xy i_M_isWeak) ∈ xTs := xT 788 (by decide +kernel) (by decide +kernel)
theorem l_L_106 : Cond.methodLink "PageBanksLaw" 106 (xy i_M_sell) ∈ xTs := xT 791 (by decide +kernel) (by decide +kernel)
theorem l_L_109 : Cond.methodLink "PageBanksLaw" 109 (xy i_M_weak) ∈ xTs := xT 795 (by decide +kernel) (by decide +kernel)
theorem l_L_112 : Cond.methodLink "PageBanksLaw" 112 (xy i_M_read) ∈ xTs := xT 799 (by decide +kernel) (by decide +kernel)
theorem l_L_116 : Cond.methodLink "PageBanksLaw" 116 (xy i_M_write) ∈ xTs := xT 803 (by decide +kernel) (by decide +kernel)
theorem l_L_119 : Cond.methodLink "PageBanksLaw" 119 (xy i_M_move) ∈ xTs := xT 807 (by decide +kernel) (by decide +kernel)
theorem l_L_122 : Cond.methodLink "PageBanksLaw" 122 (xy i_M_limit) ∈ xTs := xT 811 (by decide +kernel) (by decide +kernel)
theorem l_L_125 : Cond.methodLink "PageBanksLaw" 125 (xy i_M_reserve) ∈ xTs := xT 815 (by decide +kernel) (by decide +kernel)
theorem l_L_128 : Cond.methodLink "PageBanksLaw" 128 (xy i_M_unreserve) ∈ xTs := xT 819 (by decide +kernel) (by decide +kernel)
theorem l_L_132 : Cond.methodLink "PageBanksLaw" 132 (xy i_M_freeze) ∈ xTs := xT 823 (by decide +kernel) (by decide +kernel)
theorem l_M_112 : Cond.methodLink "PageBanksModel" 112 (xy i_M_wrong) ∈ xTs := xT 827 (by decide +kernel) (by decide +kernel)
theorem l_L_135 : Cond.methodLink "PageBanksLaw" 135 (xy i_M_destroy) ∈ xTs := xT 831 (by decide +kernel) (by decide +kernel)
theorem l_M_121 : Cond.methodLink "PageBanksModel" 121 (xy i_M_clear) ∈ xTs := xT 835 (by decide +kernel) (by decide +kernel)
theorem l_M_115 : Cond.methodLink "PageBanksModel" 115 (xy i_M_isParent) ∈ xTs := xT 839 (by decide +kernel) (by decide +kernel)
theorem l_M_124 : Cond.methodLink "PageBanksModel" 124 (xy i_M_toBeFreed) ∈ xTs := xT 843 (by decide +kernel) (by decide +kernel)
theorem l_M_118 : Cond.methodLink "PageBanksModel" 118 (xy i_M_isToBeFreed) ∈ xTs := xT 847 (by decide +kernel) (by decide +kernel)
theorem l_L_138 : Cond.methodLink "PageBanksLaw" 138 (xy i_M_work) ∈ xTs := xT 851 (by decide +kernel) (by decide +kernel)
theorem l_L_141 : Cond.methodLink "PageBanksLaw" 141 (xy i_M_handUp) ∈ xTs := xT 855 (by decide +kernel) (by decide +kernel)
theorem l_M_128 : Cond.methodLink "PageBanksModel" 128 (xy i_M_placeOfPage) ∈ xTs := xT 859 (by decide +kernel) (by decide +kernel)
theorem l_L_144 : Cond.methodLink "PageBanksLaw" 144 (xy i_M_told) ∈ xTs := xT 863 (by decide +kernel) (by decide +kernel)
theorem l_M_131 : Cond.methodLink "PageBanksModel" 131 (xy i_M_banksUnder) ∈ xTs := xT 867 (by decide +kernel) (by decide +kernel)
theorem l_L_147 : Cond.methodLink "PageBanksLaw" 147 (xy i_M_page) ∈ xTs := xT 871 (by decide +kernel) (by decide +kernel)
theorem l_L_150 : Cond.methodLink "PageBanksLaw" 150 (xy i_M_owner) ∈ xTs := xT 875 (by decide +kernel) (by decide +kernel)
theorem l_L_155 : Cond.methodLink "PageBanksLaw" 155 (xy i_M_isAlive) ∈ xTs := xT 879 (by decide +kernel) (by decide +kernel)
theorem l_L_159 : Cond.methodLink "PageBanksLaw" 159 (xy i_M_refused) ∈ xTs := xT 883 (by decide +kernel) (by decide +kernel)
theorem l_L_163 : Cond.methodLink "PageBanksLaw" 163 (xy i_M_count) ∈ xTs := xT 887 (by decide +kernel) (by decide +kernel)
theorem l_L_167 : Cond.methodLink "PageBanksLaw" 167 (xy i_M_astray) ∈ xTs := xT 891 (by decide +kernel) (by decide +kernel)
theorem ar_long : Cond.arrayClass .long ∈ xTs := xT 895 (by decide +kernel) (by decide +kernel)
theorem nc_IndexOutOfBoundsException_IllegalArgumentException : Cond.not (.castable "java/lang/IndexOutOfBoundsException" "java/lang/IllegalArgumentException") ∈ xTs := xTn 0 (by decide +kernel) (by decide +kernel)
theorem nc_IndexOutOfBoundsException_IllegalStateException : Cond.not (.castable "java/lang/IndexOutOfBoundsException" "java/lang/IllegalStateException") ∈ xTs := xTn 1 (by decide +kernel) (by decide +kernel)
theorem nc_IndexOutOfBoundsException_UnsupportedOperationException : Cond.not (.castable "java/lang/IndexOutOfBoundsException" "java/lang/UnsupportedOperationException") ∈ xTs := xTn 2 (by decide +kernel) (by decide +kernel)
theorem nc_IndexOutOfBoundsException_NoSuchElementException : Cond.not (.castable "java/lang/IndexOutOfBoundsException" "java/util/NoSuchElementException") ∈ xTs := xTn 3 (by decide +kernel) (by decide +kernel)
theorem nc_IllegalArgumentException_IndexOutOfBoundsException : Cond.not (.castable "java/lang/IllegalArgumentException" "java/lang/IndexOutOfBoundsException") ∈ xTs := xTn 4 (by decide +kernel) (by decide +kernel)
theorem nc_IllegalArgumentException_IllegalStateException : Cond.not (.castable "java/lang/IllegalArgumentException" "java/lang/IllegalStateException") ∈ xTs := xTn 5 (by decide +kernel) (by decide +kernel)
theorem nc_IllegalArgumentException_UnsupportedOperationException : Cond.not (.castable "java/lang/IllegalArgumentException" "java/lang/UnsupportedOperationException") ∈ xTs := xTn 6 (by decide +kernel) (by decide +kernel)
theorem nc_IllegalArgumentException_NoSuchElementException : Cond.not (.castable "java/lang/IllegalArgumentException" "java/util/NoSuchElementException") ∈ xTs := xTn 7 (by decide +kernel) (by decide +kernel)
theorem nc_IllegalStateException_IndexOutOfBoundsException : Cond.not (.castable "java/lang/IllegalStateException" "java/lang/IndexOutOfBoundsException") ∈ xTs := xTn 8 (by decide +kernel) (by decide +kernel)
theorem nc_IllegalStateException_IllegalArgumentException : Cond.not (.castable "java/lang/IllegalStateException" "java/lang/IllegalArgumentException") ∈ xTs := xTn 9 (by decide +kernel) (by decide +kernel)
theorem nc_IllegalStateException_UnsupportedOperationException : Cond.not (.castable "java/lang/IllegalStateException" "java/lang/UnsupportedOperationException") ∈ xTs := xTn 10 (by decide +kernel) (by decide +kernel)
theorem nc_IllegalStateException_NoSuchElementException : Cond.not (.castable "java/lang/IllegalStateException" "java/util/NoSuchElementException") ∈ xTs := xTn 11 (by decide +kernel) (by decide +kernel)
theorem nc_UnsupportedOperationException_IndexOutOfBoundsException : Cond.not (.castable "java/lang/UnsupportedOperationException" "java/lang/IndexOutOfBoundsException") ∈ xTs := xTn 12 (by decide +kernel) (by decide +kernel)
theorem nc_UnsupportedOperationException_IllegalArgumentException : Cond.not (.castable "java/lang/UnsupportedOperationException" "java/lang/IllegalArgumentException") ∈ xTs := xTn 13 (by decide +kernel) (by decide +kernel)
theorem nc_UnsupportedOperationException_IllegalStateException : Cond.not (.castable "java/lang/UnsupportedOperationException" "java/lang/IllegalStateException") ∈ xTs := xTn 14 (by decide +kernel) (by decide +kernel)
theorem nc_UnsupportedOperationException_NoSuchElementException : Cond.not (.castable "java/lang/UnsupportedOperationException" "java/util/NoSuchElementException") ∈ xTs := xTn 15 (by decide +kernel) (by decide +kernel)
theorem nc_NoSuchElementException_IndexOutOfBoundsException : Cond.not (.castable "java/util/NoSuchElementException" "java/lang/IndexOutOfBoundsException") ∈ xTs := xTn 16 (by decide +kernel) (by decide +kernel)
theorem nc_NoSuchElementException_IllegalArgumentException : Cond.not (.castable "java/util/NoSuchElementException" "java/lang/IllegalArgumentException") ∈ xTs := xTn 17 (by decide +kernel) (by decide +kernel)
theorem nc_NoSuchElementException_IllegalStateException : Cond.not (.castable "java/util/NoSuchElementException" "java/lang/IllegalStateException") ∈ xTs := xTn 18 (by decide +kernel) (by decide +kernel)
theorem nc_NoSuchElementException_UnsupportedOperationException : Cond.not (.castable "java/util/NoSuchElementException" "java/lang/UnsupportedOperationException") ∈ xTs := xTn 19 (by decide +kernel) (by decide +kernel)
theorem oi_inst : Cond.instanceMethod Lib.objectInit ∈ xTs := xT 53 (by decide +kernel) (by decide +kernel)
theorem oi_code : Cond.code Lib.objectInit ⟨#[0xb1]⟩ 1 none ∈ xTs := xT 54 (by decide +kernel) (by decide +kernel)
end
section
theorem d_A_fill_0 : decode prog_15_method_103_code 0 = .ok (.iconst 0, 1) := by decide +kernel
theorem d_A_fill_1 : decode prog_15_method_103_code 1 = .ok (.istore_n 2, 1) := by decide +kernel
theorem d_A_fill_2 : decode prog_15_method_103_code 2 = .ok (.aload_n 0, 1) := by decide +kernel
theorem d_A_fill_3 : decode prog_15_method_103_code 3 = .ok (.arraylength, 1) := by decide +kernel
theorem d_A_fill_4 : decode prog_15_method_103_code 4 = .ok (.istore_n 3, 1) := by decide +kernel
theorem d_A_fill_5 : decode prog_15_method_103_code 5 = .ok (.iload_n 2, 1) := by decide +kernel
theorem d_A_fill_6 : decode prog_15_method_103_code 6 = .ok (.iload_n 3, 1) := by decide +kernel
theorem d_A_fill_7 : decode prog_15_method_103_code 7 = .ok (.if_icmp .ge 13, 3) := by decide +kernel
theorem d_A_fill_10 : decode prog_15_method_103_code 10 = .ok (.aload_n 0, 1) := by decide +kernel
theorem d_A_fill_11 : decode prog_15_method_103_code 11 = .ok (.iload_n 2, 1) := by decide +kernel
theorem d_A_fill_12 : decode prog_15_method_103_code 12 = .ok (.iload_n 1, 1) := by decide +kernel
theorem d_A_fill_13 : decode prog_15_method_103_code 13 = .ok (.iastore, 1) := by decide +kernel
theorem d_A_fill_14 : decode prog_15_method_103_code 14 = .ok (.iinc 2 1, 3) := by decide +kernel
theorem d_A_fill_17 : decode prog_15_method_103_code 17 = .ok (.goto (-12), 3) := by decide +kernel
theorem d_A_fill_20 : decode prog_15_method_103_code 20 = .ok (.return_, 1) := by decide +kernel
end
section
theorem d_B_init_0 : decode prog_1_method_1_code 0 = .ok (.aload_n 0, 1) := by decide +kernel
theorem d_B_init_1 : decode prog_1_method_1_code 1 = .ok (.invokespecial 1, 3) := by decide +kernel
theorem d_B_init_4 : decode prog_1_method_1_code 4 = .ok (.aload_n 0, 1) := by decide +kernel
theorem d_B_init_5 : decode prog_1_method_1_code 5 = .ok (.new 7, 3) := by decide +kernel
theorem d_B_init_8 : decode prog_1_method_1_code 8 = .ok (.dup, 1) := by decide +kernel
theorem d_B_init_9 : decode prog_1_method_1_code 9 = .ok (.invokespecial 9, 3) := by decide +kernel
theorem d_B_init_12 : decode prog_1_method_1_code 12 = .ok (.putfield 10, 3) := by decide +kernel
theorem d_B_init_15 : decode prog_1_method_1_code 15 = .ok (.aload_n 0, 1) := by decide +kernel
theorem d_B_init_16 : decode prog_1_method_1_code 16 = .ok (.new 16, 3) := by decide +kernel
theorem d_B_init_19 : decode prog_1_method_1_code 19 = .ok (.dup, 1) := by decide +kernel
theorem d_B_init_20 : decode prog_1_method_1_code 20 = .ok (.invokespecial 18, 3) := by decide +kernel
theorem d_B_init_23 : decode prog_1_method_1_code 23 = .ok (.putfield 19, 3) := by decide +kernel
theorem d_B_init_26 : decode prog_1_method_1_code 26 = .ok (.aload_n 0, 1) := by decide +kernel
theorem d_B_init_27 : decode prog_1_method_1_code 27 = .ok (.iconst (-1), 1) := by decide +kernel
theorem d_B_init_28 : decode prog_1_method_1_code 28 = .ok (.putfield 23, 3) := by decide +kernel
theorem d_B_init_31 : decode prog_1_method_1_code 31 = .ok (.return_, 1) := by decide +kernel
theorem d_B_isAlive_0 : decode prog_1_method_21_code 0 = .ok (.iload_n 1, 1) := by decide +kernel
theorem d_B_isAlive_1 : decode prog_1_method_21_code 1 = .ok (.invokestatic 67, 3) := by decide +kernel
theorem d_B_isAlive_4 : decode prog_1_method_21_code 4 = .ok (.istore_n 2, 1) := by decide +kernel
theorem d_B_isAlive_5 : decode prog_1_method_21_code 5 = .ok (.aload_n 0, 1) := by decide +kernel
theorem d_B_isAlive_6 : decode prog_1_method_21_code 6 = .ok (.getfield 19, 3) := by decide +kernel
theorem d_B_isAlive_9 : decode prog_1_method_21_code 9 = .ok (.iload_n 2, 1) := by decide +kernel
theorem d_B_isAlive_10 : decode prog_1_method_21_code 10 = .ok (.iload_n 1, 1) := by decide +kernel
theorem d_B_isAlive_11 : decode prog_1_method_21_code 11 = .ok (.invokestatic 175, 3) := by decide +kernel
theorem d_B_isAlive_14 : decode prog_1_method_21_code 14 = .ok (.invokevirtual 178, 3) := by decide +kernel
theorem d_B_isAlive_17 : decode prog_1_method_21_code 17 = .ok (.ifCond .eq 25, 3) := by decide +kernel
theorem d_B_isAlive_20 : decode prog_1_method_21_code 20 = .ok (.aload_n 0, 1) := by decide +kernel
theorem d_B_isAlive_21 : decode prog_1_method_21_code 21 = .ok (.getfield 10, 3) := by decide +kernel
theorem d_B_isAlive_24 : decode prog_1_method_21_code 24 = .ok (.aload_n 0, 1) := by decide +kernel
theorem d_B_isAlive_25 : decode prog_1_method_21_code 25 = .ok (.getfield 19, 3) := by decide +kernel
theorem d_B_isAlive_28 : decode prog_1_method_21_code 28 = .ok (.iload_n 2, 1) := by decide +kernel
theorem d_B_isAlive_29 : decode prog_1_method_21_code 29 = .ok (.invokevirtual 74, 3) := by decide +kernel
theorem d_B_isAlive_32 : decode prog_1_method_21_code 32 = .ok (.invokevirtual 77, 3) := by decide +kernel
theorem d_B_isAlive_35 : decode prog_1_method_21_code 35 = .ok (.ifCond .ne 7, 3) := by decide +kernel
theorem d_B_isAlive_38 : decode prog_1_method_21_code 38 = .ok (.iconst 1, 1) := by decide +kernel
theorem d_B_isAlive_39 : decode prog_1_method_21_code 39 = .ok (.goto 4, 3) := by decide +kernel
theorem d_B_isAlive_42 : decode prog_1_method_21_code 42 = .ok (.iconst 0, 1) := by decide +kernel
theorem d_B_isAlive_43 : decode prog_1_method_21_code 43 = .ok (.ireturn, 1) := by decide +kernel
theorem d_B_placeOf_0 : decode prog_1_method_41_code 0 = .ok (.iload_n 0, 1) := by decide +kernel
theorem d_B_placeOf_1 : decode prog_1_method_41_code 1 = .ok (.sipush 1024, 3) := by decide +kernel
theorem d_B_placeOf_4 : decode prog_1_method_41_code 4 = .ok (.invokestatic 234, 3) := by decide +kernel
theorem d_B_placeOf_7 : decode prog_1_method_41_code 7 = .ok (.iconst 2, 1) := by decide +kernel
theorem d_B_placeOf_8 : decode prog_1_method_41_code 8 = .ok (.idiv, 1) := by decide +kernel
theorem d_B_placeOf_9 : decode prog_1_method_41_code 9 = .ok (.ireturn, 1) := by decide +kernel
theorem d_B_versionOf_0 : decode prog_1_method_42_code 0 = .ok (.iload_n 0, 1) := by decide +kernel
theorem d_B_versionOf_1 : decode prog_1_method_42_code 1 = .ok (.sipush 1024, 3) := by decide +kernel
theorem d_B_versionOf_4 : decode prog_1_method_42_code 4 = .ok (.invokestatic 237, 3) := by decide +kernel
theorem d_B_versionOf_7 : decode prog_1_method_42_code 7 = .ok (.ireturn, 1) := by decide +kernel
theorem d_B_refused_0 : decode prog_1_method_22_code 0 = .ok (.aload_n 0, 1) := by decide +kernel
theorem d_B_refused_1 : decode prog_1_method_22_code 1 = .ok (.getfield 23, 3) := by decide +kernel
theorem d_B_refused_4 : decode prog_1_method_22_code 4 = .ok (.ireturn, 1) := by decide +kernel
theorem d_B_count_0 : decode prog_1_method_23_code 0 = .ok (.iload_n 1, 1) := by decide +kernel
theorem d_B_count_1 : decode prog_1_method_23_code 1 = .ok (.tableswitch 64 0 3 #[31, 39, 47, 55], 31) := by decide +kernel
theorem d_B_count_32 : decode prog_1_method_23_code 32 = .ok (.aload_n 0, 1) := by decide +kernel
theorem d_B_count_33 : decode prog_1_method_23_code 33 = .ok (.getfield 19, 3) := by decide +kernel
theorem d_B_count_36 : decode prog_1_method_23_code 36 = .ok (.invokevirtual 181, 3) := by decide +kernel
theorem d_B_count_39 : decode prog_1_method_23_code 39 = .ok (.ireturn, 1) := by decide +kernel
theorem d_B_count_40 : decode prog_1_method_23_code 40 = .ok (.aload_n 0, 1) := by decide +kernel
theorem d_B_count_41 : decode prog_1_method_23_code 41 = .ok (.getfield 19, 3) := by decide +kernel
theorem d_B_count_44 : decode prog_1_method_23_code 44 = .ok (.invokevirtual 184, 3) := by decide +kernel
theorem d_B_count_47 : decode prog_1_method_23_code 47 = .ok (.ireturn, 1) := by decide +kernel
theorem d_B_count_48 : decode prog_1_method_23_code 48 = .ok (.aload_n 0, 1) := by decide +kernel
theorem d_B_count_49 : decode prog_1_method_23_code 49 = .ok (.getfield 19, 3) := by decide +kernel
theorem d_B_count_52 : decode prog_1_method_23_code 52 = .ok (.invokevirtual 187, 3) := by decide +kernel
theorem d_B_count_55 : decode prog_1_method_23_code 55 = .ok (.ireturn, 1) := by decide +kernel
theorem d_B_count_56 : decode prog_1_method_23_code 56 = .ok (.aload_n 0, 1) := by decide +kernel
theorem d_B_count_57 : decode prog_1_method_23_code 57 = .ok (.getfield 10, 3) := by decide +kernel
theorem d_B_count_60 : decode prog_1_method_23_code 60 = .ok (.iconst 0, 1) := by decide +kernel
theorem d_B_count_61 : decode prog_1_method_23_code 61 = .ok (.invokevirtual 166, 3) := by decide +kernel
theorem d_B_count_64 : decode prog_1_method_23_code 64 = .ok (.ireturn, 1) := by decide +kernel
theorem d_B_count_65 : decode prog_1_method_23_code 65 = .ok (.iconst (-1), 1) := by decide +kernel
theorem d_B_count_66 : decode prog_1_method_23_code 66 = .ok (.ireturn, 1) := by decide +kernel
theorem d_B_astray_0 : decode prog_1_method_24_code 0 = .ok (.iconst 0, 1) := by decide +kernel
theorem d_B_astray_1 : decode prog_1_method_24_code 1 = .ok (.istore_n 1, 1) := by decide +kernel
theorem d_B_astray_2 : decode prog_1_method_24_code 2 = .ok (.iconst 0, 1) := by decide +kernel
theorem d_B_astray_3 : decode prog_1_method_24_code 3 = .ok (.istore_n 2, 1) := by decide +kernel
theorem d_B_astray_4 : decode prog_1_method_24_code 4 = .ok (.iload_n 2, 1) := by decide +kernel
theorem d_B_astray_5 : decode prog_1_method_24_code 5 = .ok (.bipush 40, 2) := by decide +kernel
theorem d_B_astray_7 : decode prog_1_method_24_code 7 = .ok (.if_icmp .ge 42, 3) := by decide +kernel
theorem d_B_astray_10 : decode prog_1_method_24_code 10 = .ok (.aload_n 0, 1) := by decide +kernel
theorem d_B_astray_11 : decode prog_1_method_24_code 11 = .ok (.getfield 10, 3) := by decide +kernel
theorem d_B_astray_14 : decode prog_1_method_24_code 14 = .ok (.iload_n 2, 1) := by decide +kernel
theorem d_B_astray_15 : decode prog_1_method_24_code 15 = .ok (.invokevirtual 190, 3) := by decide +kernel
theorem d_B_astray_18 : decode prog_1_method_24_code 18 = .ok (.ifCond .eq 25, 3) := by decide +kernel
theorem d_B_astray_21 : decode prog_1_method_24_code 21 = .ok (.aload_n 0, 1) := by decide +kernel
theorem d_B_astray_22 : decode prog_1_method_24_code 22 = .ok (.getfield 10, 3) := by decide +kernel
theorem d_B_astray_25 : decode prog_1_method_24_code 25 = .ok (.iload_n 2, 1) := by decide +kernel
theorem d_B_astray_26 : decode prog_1_method_24_code 26 = .ok (.aload_n 0, 1) := by decide +kernel
theorem d_B_astray_27 : decode prog_1_method_24_code 27 = .ok (.getfield 19, 3) := by decide +kernel
theorem d_B_astray_30 : decode prog_1_method_24_code 30 = .ok (.iload_n 2, 1) := by decide +kernel
theorem d_B_astray_31 : decode prog_1_method_24_code 31 = .ok (.invokevirtual 148, 3) := by decide +kernel
theorem d_B_astray_34 : decode prog_1_method_24_code 34 = .ok (.invokevirtual 193, 3) := by decide +kernel
theorem d_B_astray_37 : decode prog_1_method_24_code 37 = .ok (.ifCond .eq 6, 3) := by decide +kernel
theorem d_B_astray_40 : decode prog_1_method_24_code 40 = .ok (.iinc 1 1, 3) := by decide +kernel
theorem d_B_astray_43 : decode prog_1_method_24_code 43 = .ok (.iinc 2 1, 3) := by decide +kernel
theorem d_B_astray_46 : decode prog_1_method_24_code 46 = .ok (.goto (-42), 3) := by decide +kernel
theorem d_B_astray_49 : decode prog_1_method_24_code 49 = .ok (.aload_n 0, 1) := by decide +kernel
theorem d_B_astray_50 : decode prog_1_method_24_code 50 = .ok (.getfield 19, 3) := by decide +kernel
theorem d_B_astray_53 : decode prog_1_method_24_code 53 = .ok (.invokevirtual 196, 3) := by decide +kernel
theorem d_B_astray_56 : decode prog_1_method_24_code 56 = .ok (.iconst 0, 1) := by decide +kernel
theorem d_B_astray_57 : decode prog_1_method_24_code 57 = .ok (.istore_n 2, 1) := by decide +kernel
theorem d_B_astray_58 : decode prog_1_method_24_code 58 = .ok (.iload_n 2, 1) := by decide +kernel
theorem d_B_astray_59 : decode prog_1_method_24_code 59 = .ok (.sipush 192, 3) := by decide +kernel
theorem d_B_astray_62 : decode prog_1_method_24_code 62 = .ok (.if_icmp .ge 31, 3) := by decide +kernel
theorem d_B_astray_65 : decode prog_1_method_24_code 65 = .ok (.aload_n 0, 1) := by decide +kernel
theorem d_B_astray_66 : decode prog_1_method_24_code 66 = .ok (.getfield 19, 3) := by decide +kernel
theorem d_B_astray_69 : decode prog_1_method_24_code 69 = .ok (.iload_n 2, 1) := by decide +kernel
theorem d_B_astray_70 : decode prog_1_method_24_code 70 = .ok (.invokevirtual 199, 3) := by decide +kernel
theorem d_B_astray_73 : decode prog_1_method_24_code 73 = .ok (.ifCond .ne 11, 3) := by decide +kernel
theorem d_B_astray_76 : decode prog_1_method_24_code 76 = .ok (.aload_n 0, 1) := by decide +kernel
theorem d_B_astray_77 : decode prog_1_method_24_code 77 = .ok (.iload_n 2, 1) := by decide +kernel
theorem d_B_astray_78 : decode prog_1_method_24_code 78 = .ok (.invokevirtual 202, 3) := by decide +kernel
theorem d_B_astray_81 : decode prog_1_method_24_code 81 = .ok (.ifCond .eq 6, 3) := by decide +kernel
theorem d_B_astray_84 : decode prog_1_method_24_code 84 = .ok (.iinc 1 1, 3) := by decide +kernel
theorem d_B_astray_87 : decode prog_1_method_24_code 87 = .ok (.iinc 2 1, 3) := by decide +kernel
theorem d_B_astray_90 : decode prog_1_method_24_code 90 = .ok (.goto (-32), 3) := by decide +kernel
theorem d_B_astray_93 : decode prog_1_method_24_code 93 = .ok (.iload_n 1, 1) := by decide +kernel
theorem d_B_astray_94 : decode prog_1_method_24_code 94 = .ok (.ireturn, 1) := by decide +kernel
theorem d_B_isWithoutBank_0 : decode prog_1_method_25_code 0 = .ok (.aload_n 0, 1) := by decide +kernel
theorem d_B_isWithoutBank_1 : decode prog_1_method_25_code 1 = .ok (.getfield 19, 3) := by decide +kernel
theorem d_B_isWithoutBank_4 : decode prog_1_method_25_code 4 = .ok (.iload_n 1, 1) := by decide +kernel
theorem d_B_isWithoutBank_5 : decode prog_1_method_25_code 5 = .ok (.invokevirtual 205, 3) := by decide +kernel
theorem d_B_isWithoutBank_8 : decode prog_1_method_25_code 8 = .ok (.ifCond .eq 25, 3) := by decide +kernel
theorem d_B_isWithoutBank_11 : decode prog_1_method_25_code 11 = .ok (.aload_n 0, 1) := by decide +kernel
theorem d_B_isWithoutBank_12 : decode prog_1_method_25_code 12 = .ok (.getfield 10, 3) := by decide +kernel
theorem d_B_isWithoutBank_15 : decode prog_1_method_25_code 15 = .ok (.aload_n 0, 1) := by decide +kernel
theorem d_B_isWithoutBank_16 : decode prog_1_method_25_code 16 = .ok (.getfield 19, 3) := by decide +kernel
theorem d_B_isWithoutBank_19 : decode prog_1_method_25_code 19 = .ok (.iload_n 1, 1) := by decide +kernel
theorem d_B_isWithoutBank_20 : decode prog_1_method_25_code 20 = .ok (.invokevirtual 74, 3) := by decide +kernel
theorem d_B_isWithoutBank_23 : decode prog_1_method_25_code 23 = .ok (.invokevirtual 190, 3) := by decide +kernel
theorem d_B_isWithoutBank_26 : decode prog_1_method_25_code 26 = .ok (.ifCond .ne 7, 3) := by decide +kernel
theorem d_B_isWithoutBank_29 : decode prog_1_method_25_code 29 = .ok (.iconst 1, 1) := by decide +kernel
theorem d_B_isWithoutBank_30 : decode prog_1_method_25_code 30 = .ok (.goto 4, 3) := by decide +kernel
theorem d_B_isWithoutBank_33 : decode prog_1_method_25_code 33 = .ok (.iconst 0, 1) := by decide +kernel
theorem d_B_isWithoutBank_34 : decode prog_1_method_25_code 34 = .ok (.ireturn, 1) := by decide +kernel
theorem d_B_bank_0 : decode prog_1_method_2_code 0 = .ok (.aload_n 0, 1) := by decide +kernel
theorem d_B_bank_1 : decode prog_1_method_2_code 1 = .ok (.iload_n 1, 1) := by decide +kernel
theorem d_B_bank_2 : decode prog_1_method_2_code 2 = .ok (.invokevirtual 27, 3) := by decide +kernel
theorem d_B_bank_5 : decode prog_1_method_2_code 5 = .ok (.iload_n 2, 1) := by decide +kernel
theorem d_B_bank_6 : decode prog_1_method_2_code 6 = .ok (.invokestatic 31, 3) := by decide +kernel
theorem d_B_bank_9 : decode prog_1_method_2_code 9 = .ok (.invokestatic 35, 3) := by decide +kernel
theorem d_B_bank_12 : decode prog_1_method_2_code 12 = .ok (.aload_n 0, 1) := by decide +kernel
theorem d_B_bank_13 : decode prog_1_method_2_code 13 = .ok (.iload_n 1, 1) := by decide +kernel
theorem d_B_bank_14 : decode prog_1_method_2_code 14 = .ok (.invokevirtual 39, 3) := by decide +kernel
theorem d_B_bank_17 : decode prog_1_method_2_code 17 = .ok (.aload_n 0, 1) := by decide +kernel
theorem d_B_bank_18 : decode prog_1_method_2_code 18 = .ok (.getfield 10, 3) := by decide +kernel
theorem d_B_bank_21 : decode prog_1_method_2_code 21 = .ok (.invokevirtual 42, 3) := by decide +kernel
theorem d_B_bank_24 : decode prog_1_method_2_code 24 = .ok (.istore_n 3, 1) := by decide +kernel
theorem d_B_bank_25 : decode prog_1_method_2_code 25 = .ok (.iload_n 3, 1) := by decide +kernel
theorem d_B_bank_26 : decode prog_1_method_2_code 26 = .ok (.iconst (-1), 1) := by decide +kernel
theorem d_B_bank_27 : decode prog_1_method_2_code 27 = .ok (.if_icmp .eq 16, 3) := by decide +kernel
theorem d_B_bank_30 : decode prog_1_method_2_code 30 = .ok (.aload_n 0, 1) := by decide +kernel
theorem d_B_bank_31 : decode prog_1_method_2_code 31 = .ok (.getfield 10, 3) := by decide +kernel
theorem d_B_bank_34 : decode prog_1_method_2_code 34 = .ok (.iload_n 1, 1) := by decide +kernel
theorem d_B_bank_35 : decode prog_1_method_2_code 35 = .ok (.invokevirtual 46, 3) := by decide +kernel
theorem d_B_bank_38 : decode prog_1_method_2_code 38 = .ok (.bipush 6, 2) := by decide +kernel
theorem d_B_bank_40 : decode prog_1_method_2_code 40 = .ok (.if_icmp .lt 8, 3) := by decide +kernel
theorem d_B_bank_43 : decode prog_1_method_2_code 43 = .ok (.aload_n 0, 1) := by decide +kernel
theorem d_B_bank_44 : decode prog_1_method_2_code 44 = .ok (.iconst (-1), 1) := by decide +kernel
theorem d_B_bank_45 : decode prog_1_method_2_code 45 = .ok (.invokevirtual 50, 3) := by decide +kernel
theorem d_B_bank_48 : decode prog_1_method_2_code 48 = .ok (.aload_n 0, 1) := by decide +kernel
theorem d_B_bank_49 : decode prog_1_method_2_code 49 = .ok (.getfield 10, 3) := by decide +kernel
theorem d_B_bank_52 : decode prog_1_method_2_code 52 = .ok (.iload_n 3, 1) := by decide +kernel
theorem d_B_bank_53 : decode prog_1_method_2_code 53 = .ok (.iload_n 1, 1) := by decide +kernel
theorem d_B_bank_54 : decode prog_1_method_2_code 54 = .ok (.iload_n 2, 1) := by decide +kernel
theorem d_B_bank_55 : decode prog_1_method_2_code 55 = .ok (.invokevirtual 53, 3) := by decide +kernel
theorem d_B_bank_58 : decode prog_1_method_2_code 58 = .ok (.iload_n 3, 1) := by decide +kernel
theorem d_B_bank_59 : decode prog_1_method_2_code 59 = .ok (.ireturn, 1) := by decide +kernel
theorem d_B_requireBank_0 : decode prog_1_method_31_code 0 = .ok (.aload_n 0, 1) := by decide +kernel
theorem d_B_requireBank_1 : decode prog_1_method_31_code 1 = .ok (.getfield 10, 3) := by decide +kernel
theorem d_B_requireBank_4 : decode prog_1_method_31_code 4 = .ok (.iload_n 1, 1) := by decide +kernel
theorem d_B_requireBank_5 : decode prog_1_method_31_code 5 = .ok (.invokevirtual 190, 3) := by decide +kernel
theorem d_B_requireBank_8 : decode prog_1_method_31_code 8 = .ok (.invokestatic 96, 3) := by decide +kernel
theorem d_B_requireBank_11 : decode prog_1_method_31_code 11 = .ok (.return_, 1) := by decide +kernel
theorem d_B_requireIndex_0 : decode prog_1_method_35_code 0 = .ok (.iload_n 0, 1) := by decide +kernel
theorem d_B_requireIndex_1 : decode prog_1_method_35_code 1 = .ok (.ifCond .ne 11, 3) := by decide +kernel
theorem d_B_requireIndex_4 : decode prog_1_method_35_code 4 = .ok (.new 228, 3) := by decide +kernel
theorem d_B_requireIndex_7 : decode prog_1_method_35_code 7 = .ok (.dup, 1) := by decide +kernel
theorem d_B_requireIndex_8 : decode prog_1_method_35_code 8 = .ok (.invokespecial 230, 3) := by decide +kernel
theorem d_B_requireIndex_11 : decode prog_1_method_35_code 11 = .ok (.athrow, 1) := by decide +kernel
theorem d_B_requireIndex_12 : decode prog_1_method_35_code 12 = .ok (.return_, 1) := by decide +kernel
theorem d_B_isUpToAllPages_0 : decode prog_1_method_38_code 0 = .ok (.iload_n 0, 1) := by decide +kernel
theorem d_B_isUpToAllPages_1 : decode prog_1_method_38_code 1 = .ok (.ifCond .lt 14, 3) := by decide +kernel
theorem d_B_isUpToAllPages_4 : decode prog_1_method_38_code 4 = .ok (.iload_n 0, 1) := by decide +kernel
theorem d_B_isUpToAllPages_5 : decode prog_1_method_38_code 5 = .ok (.sipush 192, 3) := by decide +kernel
theorem d_B_isUpToAllPages_8 : decode prog_1_method_38_code 8 = .ok (.if_icmp .gt 7, 3) := by decide +kernel
theorem d_B_isUpToAllPages_11 : decode prog_1_method_38_code 11 = .ok (.iconst 1, 1) := by decide +kernel
theorem d_B_isUpToAllPages_12 : decode prog_1_method_38_code 12 = .ok (.goto 4, 3) := by decide +kernel
theorem d_B_isUpToAllPages_15 : decode prog_1_method_38_code 15 = .ok (.iconst 0, 1) := by decide +kernel
theorem d_B_isUpToAllPages_16 : decode prog_1_method_38_code 16 = .ok (.ireturn, 1) := by decide +kernel
theorem d_B_requireArgument_0 : decode prog_1_method_36_code 0 = .ok (.iload_n 0, 1) := by decide +kernel
theorem d_B_requireArgument_1 : decode prog_1_method_36_code 1 = .ok (.ifCond .ne 11, 3) := by decide +kernel
theorem d_B_requireArgument_4 : decode prog_1_method_36_code 4 = .ok (.new 169, 3) := by decide +kernel
theorem d_B_requireArgument_7 : decode prog_1_method_36_code 7 = .ok (.dup, 1) := by decide +kernel
theorem d_B_requireArgument_8 : decode prog_1_method_36_code 8 = .ok (.invokespecial 171, 3) := by decide +kernel
theorem d_B_requireArgument_11 : decode prog_1_method_36_code 11 = .ok (.athrow, 1) := by decide +kernel
theorem d_B_requireArgument_12 : decode prog_1_method_36_code 12 = .ok (.return_, 1) := by decide +kernel
theorem d_B_requireLive_0 : decode prog_1_method_33_code 0 = .ok (.aload_n 0, 1) := by decide +kernel
theorem d_B_requireLive_1 : decode prog_1_method_33_code 1 = .ok (.getfield 10, 3) := by decide +kernel
theorem d_B_requireLive_4 : decode prog_1_method_33_code 4 = .ok (.iload_n 1, 1) := by decide +kernel
theorem d_B_requireLive_5 : decode prog_1_method_33_code 5 = .ok (.invokevirtual 163, 3) := by decide +kernel
theorem d_B_requireLive_8 : decode prog_1_method_33_code 8 = .ok (.ifCond .ne 7, 3) := by decide +kernel
theorem d_B_requireLive_11 : decode prog_1_method_33_code 11 = .ok (.iconst 1, 1) := by decide +kernel
theorem d_B_requireLive_12 : decode prog_1_method_33_code 12 = .ok (.goto 4, 3) := by decide +kernel
theorem d_B_requireLive_15 : decode prog_1_method_33_code 15 = .ok (.iconst 0, 1) := by decide +kernel
theorem d_B_requireLive_16 : decode prog_1_method_33_code 16 = .ok (.invokestatic 115, 3) := by decide +kernel
theorem d_B_requireLive_19 : decode prog_1_method_33_code 19 = .ok (.return_, 1) := by decide +kernel
theorem d_B_requireState_0 : decode prog_1_method_37_code 0 = .ok (.iload_n 0, 1) := by decide +kernel
theorem d_B_requireState_1 : decode prog_1_method_37_code 1 = .ok (.ifCond .ne 11, 3) := by decide +kernel
theorem d_B_requireState_4 : decode prog_1_method_37_code 4 = .ok (.new 231, 3) := by decide +kernel
theorem d_B_requireState_7 : decode prog_1_method_37_code 7 = .ok (.dup, 1) := by decide +kernel
theorem d_B_requireState_8 : decode prog_1_method_37_code 8 = .ok (.invokespecial 233, 3) := by decide +kernel
theorem d_B_requireState_11 : decode prog_1_method_37_code 11 = .ok (.athrow, 1) := by decide +kernel
theorem d_B_requireState_12 : decode prog_1_method_37_code 12 = .ok (.return_, 1) := by decide +kernel
theorem d_B_refuse_0 : decode prog_1_method_30_code 0 = .ok (.aload_n 0, 1) := by decide +kernel
theorem d_B_refuse_1 : decode prog_1_method_30_code 1 = .ok (.iload_n 1, 1) := by decide +kernel
theorem d_B_refuse_2 : decode prog_1_method_30_code 2 = .ok (.putfield 23, 3) := by decide +kernel
theorem d_B_refuse_5 : decode prog_1_method_30_code 5 = .ok (.new 219, 3) := by decide +kernel
theorem d_B_refuse_8 : decode prog_1_method_30_code 8 = .ok (.dup, 1) := by decide +kernel
theorem d_B_refuse_9 : decode prog_1_method_30_code 9 = .ok (.invokespecial 221, 3) := by decide +kernel
theorem d_B_refuse_12 : decode prog_1_method_30_code 12 = .ok (.athrow, 1) := by decide +kernel
theorem d_B_buy_0 : decode prog_1_method_3_code 0 = .ok (.aload_n 0, 1) := by decide +kernel
theorem d_B_buy_1 : decode prog_1_method_3_code 1 = .ok (.iload_n 1, 1) := by decide +kernel
theorem d_B_buy_2 : decode prog_1_method_3_code 2 = .ok (.invokevirtual 27, 3) := by decide +kernel
theorem d_B_buy_5 : decode prog_1_method_3_code 5 = .ok (.aload_n 0, 1) := by decide +kernel
theorem d_B_buy_6 : decode prog_1_method_3_code 6 = .ok (.iload_n 1, 1) := by decide +kernel
theorem d_B_buy_7 : decode prog_1_method_3_code 7 = .ok (.invokevirtual 39, 3) := by decide +kernel
theorem d_B_buy_10 : decode prog_1_method_3_code 10 = .ok (.aload_n 0, 1) := by decide +kernel
theorem d_B_buy_11 : decode prog_1_method_3_code 11 = .ok (.iload_n 1, 1) := by decide +kernel
theorem d_B_buy_12 : decode prog_1_method_3_code 12 = .ok (.iconst 1, 1) := by decide +kernel
theorem d_B_buy_13 : decode prog_1_method_3_code 13 = .ok (.invokevirtual 57, 3) := by decide +kernel
theorem d_B_buy_16 : decode prog_1_method_3_code 16 = .ok (.ireturn, 1) := by decide +kernel
theorem d_B_buyNeighbours_0 : decode prog_1_method_26_code 0 = .ok (.iload_n 2, 1) := by decide +kernel
theorem d_B_buyNeighbours_1 : decode prog_1_method_26_code 1 = .ok (.aload_n 0, 1) := by decide +kernel
theorem d_B_buyNeighbours_2 : decode prog_1_method_26_code 2 = .ok (.getfield 10, 3) := by decide +kernel
theorem d_B_buyNeighbours_5 : decode prog_1_method_26_code 5 = .ok (.iload_n 1, 1) := by decide +kernel
theorem d_B_buyNeighbours_6 : decode prog_1_method_26_code 6 = .ok (.invokevirtual 127, 3) := by decide +kernel
theorem d_B_buyNeighbours_9 : decode prog_1_method_26_code 9 = .ok (.invokestatic 208, 3) := by decide +kernel
theorem d_B_buyNeighbours_12 : decode prog_1_method_26_code 12 = .ok (.istore_n 3, 1) := by decide +kernel
theorem d_B_buyNeighbours_13 : decode prog_1_method_26_code 13 = .ok (.aload_n 0, 1) := by decide +kernel
theorem d_B_buyNeighbours_14 : decode prog_1_method_26_code 14 = .ok (.iload_n 1, 1) := by decide +kernel
theorem d_B_buyNeighbours_15 : decode prog_1_method_26_code 15 = .ok (.iload_n 2, 1) := by decide +kernel
theorem d_B_buyNeighbours_16 : decode prog_1_method_26_code 16 = .ok (.iload_n 3, 1) := by decide +kernel
theorem d_B_buyNeighbours_17 : decode prog_1_method_26_code 17 = .ok (.isub, 1) := by decide +kernel
theorem d_B_buyNeighbours_18 : decode prog_1_method_26_code 18 = .ok (.invokevirtual 121, 3) := by decide +kernel
theorem d_B_buyNeighbours_21 : decode prog_1_method_26_code 21 = .ok (.aload_n 0, 1) := by decide +kernel
theorem d_B_buyNeighbours_22 : decode prog_1_method_26_code 22 = .ok (.getfield 19, 3) := by decide +kernel
theorem d_B_buyNeighbours_25 : decode prog_1_method_26_code 25 = .ok (.iload_n 2, 1) := by decide +kernel
theorem d_B_buyNeighbours_26 : decode prog_1_method_26_code 26 = .ok (.invokevirtual 213, 3) := by decide +kernel
theorem d_B_buyNeighbours_29 : decode prog_1_method_26_code 29 = .ok (.istore 4, 2) := by decide +kernel
theorem d_B_buyNeighbours_31 : decode prog_1_method_26_code 31 = .ok (.iload 4, 2) := by decide +kernel
theorem d_B_buyNeighbours_33 : decode prog_1_method_26_code 33 = .ok (.iconst (-1), 1) := by decide +kernel
theorem d_B_buyNeighbours_34 : decode prog_1_method_26_code 34 = .ok (.if_icmp .ne 8, 3) := by decide +kernel
theorem d_B_buyNeighbours_37 : decode prog_1_method_26_code 37 = .ok (.aload_n 0, 1) := by decide +kernel
theorem d_B_buyNeighbours_38 : decode prog_1_method_26_code 38 = .ok (.iconst (-1), 1) := by decide +kernel
theorem d_B_buyNeighbours_39 : decode prog_1_method_26_code 39 = .ok (.invokevirtual 50, 3) := by decide +kernel
theorem d_B_buyNeighbours_42 : decode prog_1_method_26_code 42 = .ok (.aload_n 0, 1) := by decide +kernel
theorem d_B_buyNeighbours_43 : decode prog_1_method_26_code 43 = .ok (.getfield 10, 3) := by decide +kernel
theorem d_B_buyNeighbours_46 : decode prog_1_method_26_code 46 = .ok (.iload_n 1, 1) := by decide +kernel
theorem d_B_buyNeighbours_47 : decode prog_1_method_26_code 47 = .ok (.iload_n 3, 1) := by decide +kernel
theorem d_B_buyNeighbours_48 : decode prog_1_method_26_code 48 = .ok (.ineg, 1) := by decide +kernel
theorem d_B_buyNeighbours_49 : decode prog_1_method_26_code 49 = .ok (.invokevirtual 124, 3) := by decide +kernel
theorem d_B_buyNeighbours_52 : decode prog_1_method_26_code 52 = .ok (.aload_n 0, 1) := by decide +kernel
theorem d_B_buyNeighbours_53 : decode prog_1_method_26_code 53 = .ok (.getfield 10, 3) := by decide +kernel
theorem d_B_buyNeighbours_56 : decode prog_1_method_26_code 56 = .ok (.iload_n 1, 1) := by decide +kernel
theorem d_B_buyNeighbours_57 : decode prog_1_method_26_code 57 = .ok (.iload_n 2, 1) := by decide +kernel
theorem d_B_buyNeighbours_58 : decode prog_1_method_26_code 58 = .ok (.iload_n 3, 1) := by decide +kernel
theorem d_B_buyNeighbours_59 : decode prog_1_method_26_code 59 = .ok (.isub, 1) := by decide +kernel
theorem d_B_buyNeighbours_60 : decode prog_1_method_26_code 60 = .ok (.invokevirtual 89, 3) := by decide +kernel
theorem d_B_buyNeighbours_63 : decode prog_1_method_26_code 63 = .ok (.aload_n 0, 1) := by decide +kernel
theorem d_B_buyNeighbours_64 : decode prog_1_method_26_code 64 = .ok (.getfield 19, 3) := by decide +kernel
theorem d_B_buyNeighbours_67 : decode prog_1_method_26_code 67 = .ok (.iload 4, 2) := by decide +kernel
theorem d_B_buyNeighbours_69 : decode prog_1_method_26_code 69 = .ok (.iload_n 2, 1) := by decide +kernel
theorem d_B_buyNeighbours_70 : decode prog_1_method_26_code 70 = .ok (.iload_n 1, 1) := by decide +kernel
theorem d_B_buyNeighbours_71 : decode prog_1_method_26_code 71 = .ok (.invokevirtual 216, 3) := by decide +kernel
theorem d_B_buyNeighbours_74 : decode prog_1_method_26_code 74 = .ok (.aload_n 0, 1) := by decide +kernel
theorem d_B_buyNeighbours_75 : decode prog_1_method_26_code 75 = .ok (.getfield 19, 3) := by decide +kernel
theorem d_B_buyNeighbours_78 : decode prog_1_method_26_code 78 = .ok (.iload 4, 2) := by decide +kernel
theorem d_B_buyNeighbours_80 : decode prog_1_method_26_code 80 = .ok (.invokevirtual 80, 3) := by decide +kernel
theorem d_B_buyNeighbours_83 : decode prog_1_method_26_code 83 = .ok (.ireturn, 1) := by decide +kernel
theorem d_B_requireUse_0 : decode prog_1_method_29_code 0 = .ok (.aload_n 0, 1) := by decide +kernel
theorem d_B_requireUse_1 : decode prog_1_method_29_code 1 = .ok (.getfield 10, 3) := by decide +kernel
theorem d_B_requireUse_4 : decode prog_1_method_29_code 4 = .ok (.iload_n 1, 1) := by decide +kernel
theorem d_B_requireUse_5 : decode prog_1_method_29_code 5 = .ok (.iload_n 2, 1) := by decide +kernel
theorem d_B_requireUse_6 : decode prog_1_method_29_code 6 = .ok (.invokevirtual 106, 3) := by decide +kernel
theorem d_B_requireUse_9 : decode prog_1_method_29_code 9 = .ok (.istore_n 3, 1) := by decide +kernel
theorem d_B_requireUse_10 : decode prog_1_method_29_code 10 = .ok (.iload_n 3, 1) := by decide +kernel
theorem d_B_requireUse_11 : decode prog_1_method_29_code 11 = .ok (.iconst (-1), 1) := by decide +kernel
theorem d_B_requireUse_12 : decode prog_1_method_29_code 12 = .ok (.if_icmp .eq 8, 3) := by decide +kernel
theorem d_B_requireUse_15 : decode prog_1_method_29_code 15 = .ok (.aload_n 0, 1) := by decide +kernel
theorem d_B_requireUse_16 : decode prog_1_method_29_code 16 = .ok (.iload_n 3, 1) := by decide +kernel
theorem d_B_requireUse_17 : decode prog_1_method_29_code 17 = .ok (.invokevirtual 50, 3) := by decide +kernel
theorem d_B_requireUse_20 : decode prog_1_method_29_code 20 = .ok (.return_, 1) := by decide +kernel
theorem d_B_buyRun_0 : decode prog_1_method_4_code 0 = .ok (.aload_n 0, 1) := by decide +kernel
theorem d_B_buyRun_1 : decode prog_1_method_4_code 1 = .ok (.iload_n 1, 1) := by decide +kernel
theorem d_B_buyRun_2 : decode prog_1_method_4_code 2 = .ok (.invokevirtual 27, 3) := by decide +kernel
theorem d_B_buyRun_5 : decode prog_1_method_4_code 5 = .ok (.iload_n 2, 1) := by decide +kernel
theorem d_B_buyRun_6 : decode prog_1_method_4_code 6 = .ok (.iconst 1, 1) := by decide +kernel
theorem d_B_buyRun_7 : decode prog_1_method_4_code 7 = .ok (.if_icmp .lt 13, 3) := by decide +kernel
theorem d_B_buyRun_10 : decode prog_1_method_4_code 10 = .ok (.iload_n 2, 1) := by decide +kernel
theorem d_B_buyRun_11 : decode prog_1_method_4_code 11 = .ok (.bipush 16, 2) := by decide +kernel
theorem d_B_buyRun_13 : decode prog_1_method_4_code 13 = .ok (.if_icmp .gt 7, 3) := by decide +kernel
theorem d_B_buyRun_16 : decode prog_1_method_4_code 16 = .ok (.iconst 1, 1) := by decide +kernel
theorem d_B_buyRun_17 : decode prog_1_method_4_code 17 = .ok (.goto 4, 3) := by decide +kernel
theorem d_B_buyRun_20 : decode prog_1_method_4_code 20 = .ok (.iconst 0, 1) := by decide +kernel
theorem d_B_buyRun_21 : decode prog_1_method_4_code 21 = .ok (.invokestatic 35, 3) := by decide +kernel
theorem d_B_buyRun_24 : decode prog_1_method_4_code 24 = .ok (.aload_n 0, 1) := by decide +kernel
theorem d_B_buyRun_25 : decode prog_1_method_4_code 25 = .ok (.iload_n 1, 1) := by decide +kernel
theorem d_B_buyRun_26 : decode prog_1_method_4_code 26 = .ok (.invokevirtual 39, 3) := by decide +kernel
theorem d_B_buyRun_29 : decode prog_1_method_4_code 29 = .ok (.aload_n 0, 1) := by decide +kernel
theorem d_B_buyRun_30 : decode prog_1_method_4_code 30 = .ok (.iload_n 1, 1) := by decide +kernel
theorem d_B_buyRun_31 : decode prog_1_method_4_code 31 = .ok (.iload_n 2, 1) := by decide +kernel
theorem d_B_buyRun_32 : decode prog_1_method_4_code 32 = .ok (.invokevirtual 57, 3) := by decide +kernel
theorem d_B_buyRun_35 : decode prog_1_method_4_code 35 = .ok (.ireturn, 1) := by decide +kernel
theorem d_B_runKey_0 : decode prog_1_method_5_code 0 = .ok (.aload_n 0, 1) := by decide +kernel
theorem d_B_runKey_1 : decode prog_1_method_5_code 1 = .ok (.iload_n 1, 1) := by decide +kernel
theorem d_B_runKey_2 : decode prog_1_method_5_code 2 = .ok (.invokevirtual 61, 3) := by decide +kernel
theorem d_B_runKey_5 : decode prog_1_method_5_code 5 = .ok (.iload_n 1, 1) := by decide +kernel
theorem d_B_runKey_6 : decode prog_1_method_5_code 6 = .ok (.invokestatic 64, 3) := by decide +kernel
theorem d_B_runKey_9 : decode prog_1_method_5_code 9 = .ok (.ifCond .eq 17, 3) := by decide +kernel
theorem d_B_runKey_12 : decode prog_1_method_5_code 12 = .ok (.iload_n 2, 1) := by decide +kernel
theorem d_B_runKey_13 : decode prog_1_method_5_code 13 = .ok (.ifCond .lt 13, 3) := by decide +kernel
theorem d_B_runKey_16 : decode prog_1_method_5_code 16 = .ok (.iload_n 2, 1) := by decide +kernel
theorem d_B_runKey_17 : decode prog_1_method_5_code 17 = .ok (.bipush 16, 2) := by decide +kernel
theorem d_B_runKey_19 : decode prog_1_method_5_code 19 = .ok (.if_icmp .ge 7, 3) := by decide +kernel
theorem d_B_runKey_22 : decode prog_1_method_5_code 22 = .ok (.iconst 1, 1) := by decide +kernel
theorem d_B_runKey_23 : decode prog_1_method_5_code 23 = .ok (.goto 4, 3) := by decide +kernel
theorem d_B_runKey_26 : decode prog_1_method_5_code 26 = .ok (.iconst 0, 1) := by decide +kernel
theorem d_B_runKey_27 : decode prog_1_method_5_code 27 = .ok (.invokestatic 35, 3) := by decide +kernel
theorem d_B_runKey_30 : decode prog_1_method_5_code 30 = .ok (.iload_n 1, 1) := by decide +kernel
theorem d_B_runKey_31 : decode prog_1_method_5_code 31 = .ok (.invokestatic 67, 3) := by decide +kernel
theorem d_B_runKey_34 : decode prog_1_method_5_code 34 = .ok (.istore_n 3, 1) := by decide +kernel
theorem d_B_runKey_35 : decode prog_1_method_5_code 35 = .ok (.iload_n 3, 1) := by decide +kernel
theorem d_B_runKey_36 : decode prog_1_method_5_code 36 = .ok (.iload_n 2, 1) := by decide +kernel
theorem d_B_runKey_37 : decode prog_1_method_5_code 37 = .ok (.iadd, 1) := by decide +kernel
theorem d_B_runKey_38 : decode prog_1_method_5_code 38 = .ok (.istore 4, 2) := by decide +kernel
theorem d_B_runKey_40 : decode prog_1_method_5_code 40 = .ok (.aload_n 0, 1) := by decide +kernel
theorem d_B_runKey_41 : decode prog_1_method_5_code 41 = .ok (.getfield 19, 3) := by decide +kernel
theorem d_B_runKey_44 : decode prog_1_method_5_code 44 = .ok (.iload_n 3, 1) := by decide +kernel
theorem d_B_runKey_45 : decode prog_1_method_5_code 45 = .ok (.iload 4, 2) := by decide +kernel
theorem d_B_runKey_47 : decode prog_1_method_5_code 47 = .ok (.invokevirtual 70, 3) := by decide +kernel
theorem d_B_runKey_50 : decode prog_1_method_5_code 50 = .ok (.ifCond .eq 22, 3) := by decide +kernel
theorem d_B_runKey_53 : decode prog_1_method_5_code 53 = .ok (.aload_n 0, 1) := by decide +kernel
theorem d_B_runKey_54 : decode prog_1_method_5_code 54 = .ok (.getfield 10, 3) := by decide +kernel
theorem d_B_runKey_57 : decode prog_1_method_5_code 57 = .ok (.aload_n 0, 1) := by decide +kernel
theorem d_B_runKey_58 : decode prog_1_method_5_code 58 = .ok (.getfield 19, 3) := by decide +kernel
theorem d_B_runKey_61 : decode prog_1_method_5_code 61 = .ok (.iload 4, 2) := by decide +kernel
theorem d_B_runKey_63 : decode prog_1_method_5_code 63 = .ok (.invokevirtual 74, 3) := by decide +kernel
theorem d_B_runKey_66 : decode prog_1_method_5_code 66 = .ok (.invokevirtual 77, 3) := by decide +kernel
theorem d_B_runKey_69 : decode prog_1_method_5_code 69 = .ok (.ifCond .eq 5, 3) := by decide +kernel
theorem d_B_runKey_72 : decode prog_1_method_5_code 72 = .ok (.iconst 0, 1) := by decide +kernel
theorem d_B_runKey_73 : decode prog_1_method_5_code 73 = .ok (.ireturn, 1) := by decide +kernel
theorem d_B_runKey_74 : decode prog_1_method_5_code 74 = .ok (.aload_n 0, 1) := by decide +kernel
theorem d_B_runKey_75 : decode prog_1_method_5_code 75 = .ok (.getfield 19, 3) := by decide +kernel
theorem d_B_runKey_78 : decode prog_1_method_5_code 78 = .ok (.iload 4, 2) := by decide +kernel
theorem d_B_runKey_80 : decode prog_1_method_5_code 80 = .ok (.invokevirtual 80, 3) := by decide +kernel
theorem d_B_runKey_83 : decode prog_1_method_5_code 83 = .ok (.ireturn, 1) := by decide +kernel
theorem d_B_requireAlive_0 : decode prog_1_method_34_code 0 = .ok (.aload_n 0, 1) := by decide +kernel
theorem d_B_requireAlive_1 : decode prog_1_method_34_code 1 = .ok (.iload_n 1, 1) := by decide +kernel
theorem d_B_requireAlive_2 : decode prog_1_method_34_code 2 = .ok (.invokevirtual 222, 3) := by decide +kernel
theorem d_B_requireAlive_5 : decode prog_1_method_34_code 5 = .ok (.ifCond .ne 11, 3) := by decide +kernel
theorem d_B_requireAlive_8 : decode prog_1_method_34_code 8 = .ok (.new 225, 3) := by decide +kernel
theorem d_B_requireAlive_11 : decode prog_1_method_34_code 11 = .ok (.dup, 1) := by decide +kernel
theorem d_B_requireAlive_12 : decode prog_1_method_34_code 12 = .ok (.invokespecial 227, 3) := by decide +kernel
theorem d_B_requireAlive_15 : decode prog_1_method_34_code 15 = .ok (.athrow, 1) := by decide +kernel
theorem d_B_requireAlive_16 : decode prog_1_method_34_code 16 = .ok (.return_, 1) := by decide +kernel
theorem d_B_isStrong_0 : decode prog_1_method_40_code 0 = .ok (.iload_n 0, 1) := by decide +kernel
theorem d_B_isStrong_1 : decode prog_1_method_40_code 1 = .ok (.iconst 1, 1) := by decide +kernel
theorem d_B_isStrong_2 : decode prog_1_method_40_code 2 = .ok (.iand, 1) := by decide +kernel
theorem d_B_isStrong_3 : decode prog_1_method_40_code 3 = .ok (.ifCond .ne 7, 3) := by decide +kernel
theorem d_B_isStrong_6 : decode prog_1_method_40_code 6 = .ok (.iconst 1, 1) := by decide +kernel
theorem d_B_isStrong_7 : decode prog_1_method_40_code 7 = .ok (.goto 4, 3) := by decide +kernel
theorem d_B_isStrong_10 : decode prog_1_method_40_code 10 = .ok (.iconst 0, 1) := by decide +kernel
theorem d_B_isStrong_11 : decode prog_1_method_40_code 11 = .ok (.ireturn, 1) := by decide +kernel
theorem d_B_sell_0 : decode prog_1_method_6_code 0 = .ok (.aload_n 0, 1) := by decide +kernel
theorem d_B_sell_1 : decode prog_1_method_6_code 1 = .ok (.iload_n 1, 1) := by decide +kernel
theorem d_B_sell_2 : decode prog_1_method_6_code 2 = .ok (.invokevirtual 61, 3) := by decide +kernel
theorem d_B_sell_5 : decode prog_1_method_6_code 5 = .ok (.iload_n 1, 1) := by decide +kernel
theorem d_B_sell_6 : decode prog_1_method_6_code 6 = .ok (.invokestatic 64, 3) := by decide +kernel
theorem d_B_sell_9 : decode prog_1_method_6_code 9 = .ok (.invokestatic 35, 3) := by decide +kernel
theorem d_B_sell_12 : decode prog_1_method_6_code 12 = .ok (.iload_n 1, 1) := by decide +kernel
theorem d_B_sell_13 : decode prog_1_method_6_code 13 = .ok (.invokestatic 67, 3) := by decide +kernel
theorem d_B_sell_16 : decode prog_1_method_6_code 16 = .ok (.istore_n 2, 1) := by decide +kernel
theorem d_B_sell_17 : decode prog_1_method_6_code 17 = .ok (.aload_n 0, 1) := by decide +kernel
theorem d_B_sell_18 : decode prog_1_method_6_code 18 = .ok (.getfield 19, 3) := by decide +kernel
theorem d_B_sell_21 : decode prog_1_method_6_code 21 = .ok (.iload_n 2, 1) := by decide +kernel
theorem d_B_sell_22 : decode prog_1_method_6_code 22 = .ok (.invokevirtual 74, 3) := by decide +kernel
theorem d_B_sell_25 : decode prog_1_method_6_code 25 = .ok (.istore_n 3, 1) := by decide +kernel
theorem d_B_sell_26 : decode prog_1_method_6_code 26 = .ok (.aload_n 0, 1) := by decide +kernel
theorem d_B_sell_27 : decode prog_1_method_6_code 27 = .ok (.getfield 19, 3) := by decide +kernel
theorem d_B_sell_30 : decode prog_1_method_6_code 30 = .ok (.iload_n 2, 1) := by decide +kernel
theorem d_B_sell_31 : decode prog_1_method_6_code 31 = .ok (.invokevirtual 83, 3) := by decide +kernel
theorem d_B_sell_34 : decode prog_1_method_6_code 34 = .ok (.aload_n 0, 1) := by decide +kernel
theorem d_B_sell_35 : decode prog_1_method_6_code 35 = .ok (.getfield 19, 3) := by decide +kernel
theorem d_B_sell_38 : decode prog_1_method_6_code 38 = .ok (.invokevirtual 86, 3) := by decide +kernel
theorem d_B_sell_41 : decode prog_1_method_6_code 41 = .ok (.aload_n 0, 1) := by decide +kernel
theorem d_B_sell_42 : decode prog_1_method_6_code 42 = .ok (.getfield 10, 3) := by decide +kernel
theorem d_B_sell_45 : decode prog_1_method_6_code 45 = .ok (.iload_n 3, 1) := by decide +kernel
theorem d_B_sell_46 : decode prog_1_method_6_code 46 = .ok (.iconst (-1), 1) := by decide +kernel
theorem d_B_sell_47 : decode prog_1_method_6_code 47 = .ok (.invokevirtual 89, 3) := by decide +kernel
theorem d_B_sell_50 : decode prog_1_method_6_code 50 = .ok (.iload_n 3, 1) := by decide +kernel
theorem d_B_sell_51 : decode prog_1_method_6_code 51 = .ok (.ireturn, 1) := by decide +kernel
theorem d_B_weak_0 : decode prog_1_method_7_code 0 = .ok (.aload_n 0, 1) := by decide +kernel
theorem d_B_weak_1 : decode prog_1_method_7_code 1 = .ok (.iload_n 1, 1) := by decide +kernel
theorem d_B_weak_2 : decode prog_1_method_7_code 2 = .ok (.invokevirtual 61, 3) := by decide +kernel
theorem d_B_weak_5 : decode prog_1_method_7_code 5 = .ok (.iload_n 1, 1) := by decide +kernel
theorem d_B_weak_6 : decode prog_1_method_7_code 6 = .ok (.iconst 1, 1) := by decide +kernel
theorem d_B_weak_7 : decode prog_1_method_7_code 7 = .ok (.ior, 1) := by decide +kernel
theorem d_B_weak_8 : decode prog_1_method_7_code 8 = .ok (.ireturn, 1) := by decide +kernel
theorem d_B_read_0 : decode prog_1_method_8_code 0 = .ok (.aload_n 0, 1) := by decide +kernel
theorem d_B_read_1 : decode prog_1_method_8_code 1 = .ok (.iload_n 1, 1) := by decide +kernel
theorem d_B_read_2 : decode prog_1_method_8_code 2 = .ok (.invokevirtual 61, 3) := by decide +kernel
theorem d_B_read_5 : decode prog_1_method_8_code 5 = .ok (.iload_n 2, 1) := by decide +kernel
theorem d_B_read_6 : decode prog_1_method_8_code 6 = .ok (.invokestatic 93, 3) := by decide +kernel
theorem d_B_read_9 : decode prog_1_method_8_code 9 = .ok (.invokestatic 96, 3) := by decide +kernel
theorem d_B_read_12 : decode prog_1_method_8_code 12 = .ok (.aload_n 0, 1) := by decide +kernel
theorem d_B_read_13 : decode prog_1_method_8_code 13 = .ok (.getfield 19, 3) := by decide +kernel
theorem d_B_read_16 : decode prog_1_method_8_code 16 = .ok (.iload_n 1, 1) := by decide +kernel
theorem d_B_read_17 : decode prog_1_method_8_code 17 = .ok (.invokestatic 67, 3) := by decide +kernel
theorem d_B_read_20 : decode prog_1_method_8_code 20 = .ok (.iload_n 2, 1) := by decide +kernel
theorem d_B_read_21 : decode prog_1_method_8_code 21 = .ok (.invokevirtual 99, 3) := by decide +kernel
theorem d_B_read_24 : decode prog_1_method_8_code 24 = .ok (.ireturn, 1) := by decide +kernel
theorem d_B_isWord_0 : decode prog_1_method_39_code 0 = .ok (.iload_n 0, 1) := by decide +kernel
theorem d_B_isWord_1 : decode prog_1_method_39_code 1 = .ok (.ifCond .lt 12, 3) := by decide +kernel
theorem d_B_isWord_4 : decode prog_1_method_39_code 4 = .ok (.iload_n 0, 1) := by decide +kernel
theorem d_B_isWord_5 : decode prog_1_method_39_code 5 = .ok (.iconst 4, 1) := by decide +kernel
theorem d_B_isWord_6 : decode prog_1_method_39_code 6 = .ok (.if_icmp .ge 7, 3) := by decide +kernel
theorem d_B_isWord_9 : decode prog_1_method_39_code 9 = .ok (.iconst 1, 1) := by decide +kernel
theorem d_B_isWord_10 : decode prog_1_method_39_code 10 = .ok (.goto 4, 3) := by decide +kernel
theorem d_B_isWord_13 : decode prog_1_method_39_code 13 = .ok (.iconst 0, 1) := by decide +kernel
theorem d_B_isWord_14 : decode prog_1_method_39_code 14 = .ok (.ireturn, 1) := by decide +kernel
theorem d_B_write_0 : decode prog_1_method_9_code 0 = .ok (.aload_n 0, 1) := by decide +kernel
theorem d_B_write_1 : decode prog_1_method_9_code 1 = .ok (.iload_n 1, 1) := by decide +kernel
theorem d_B_write_2 : decode prog_1_method_9_code 2 = .ok (.invokevirtual 61, 3) := by decide +kernel
theorem d_B_write_5 : decode prog_1_method_9_code 5 = .ok (.iload_n 1, 1) := by decide +kernel
theorem d_B_write_6 : decode prog_1_method_9_code 6 = .ok (.invokestatic 64, 3) := by decide +kernel
theorem d_B_write_9 : decode prog_1_method_9_code 9 = .ok (.invokestatic 35, 3) := by decide +kernel
theorem d_B_write_12 : decode prog_1_method_9_code 12 = .ok (.iload_n 2, 1) := by decide +kernel
theorem d_B_write_13 : decode prog_1_method_9_code 13 = .ok (.invokestatic 93, 3) := by decide +kernel
theorem d_B_write_16 : decode prog_1_method_9_code 16 = .ok (.invokestatic 96, 3) := by decide +kernel
theorem d_B_write_19 : decode prog_1_method_9_code 19 = .ok (.aload_n 0, 1) := by decide +kernel
theorem d_B_write_20 : decode prog_1_method_9_code 20 = .ok (.getfield 19, 3) := by decide +kernel
theorem d_B_write_23 : decode prog_1_method_9_code 23 = .ok (.iload_n 1, 1) := by decide +kernel
theorem d_B_write_24 : decode prog_1_method_9_code 24 = .ok (.invokestatic 67, 3) := by decide +kernel
theorem d_B_write_27 : decode prog_1_method_9_code 27 = .ok (.iload_n 2, 1) := by decide +kernel
theorem d_B_write_28 : decode prog_1_method_9_code 28 = .ok (.iload_n 3, 1) := by decide +kernel
theorem d_B_write_29 : decode prog_1_method_9_code 29 = .ok (.invokevirtual 102, 3) := by decide +kernel
theorem d_B_write_32 : decode prog_1_method_9_code 32 = .ok (.ireturn, 1) := by decide +kernel
theorem d_B_move_0 : decode prog_1_method_10_code 0 = .ok (.aload_n 0, 1) := by decide +kernel
theorem d_B_move_1 : decode prog_1_method_10_code 1 = .ok (.iload_n 1, 1) := by decide +kernel
end
section
theorem d_B_move_2 : decode prog_1_method_10_code 2 = .ok (.invokevirtual 61, 3) := by decide +kernel
theorem d_B_move_5 : decode prog_1_method_10_code 5 = .ok (.iload_n 1, 1) := by decide +kernel
theorem d_B_move_6 : decode prog_1_method_10_code 6 = .ok (.invokestatic 64, 3) := by decide +kernel
theorem d_B_move_9 : decode prog_1_method_10_code 9 = .ok (.invokestatic 35, 3) := by decide +kernel
theorem d_B_move_12 : decode prog_1_method_10_code 12 = .ok (.aload_n 0, 1) := by decide +kernel
theorem d_B_move_13 : decode prog_1_method_10_code 13 = .ok (.iload_n 2, 1) := by decide +kernel
theorem d_B_move_14 : decode prog_1_method_10_code 14 = .ok (.invokevirtual 27, 3) := by decide +kernel
theorem d_B_move_17 : decode prog_1_method_10_code 17 = .ok (.aload_n 0, 1) := by decide +kernel
theorem d_B_move_18 : decode prog_1_method_10_code 18 = .ok (.iload_n 2, 1) := by decide +kernel
theorem d_B_move_19 : decode prog_1_method_10_code 19 = .ok (.invokevirtual 39, 3) := by decide +kernel
theorem d_B_move_22 : decode prog_1_method_10_code 22 = .ok (.iload_n 1, 1) := by decide +kernel
theorem d_B_move_23 : decode prog_1_method_10_code 23 = .ok (.invokestatic 67, 3) := by decide +kernel
theorem d_B_move_26 : decode prog_1_method_10_code 26 = .ok (.istore_n 3, 1) := by decide +kernel
theorem d_B_move_27 : decode prog_1_method_10_code 27 = .ok (.aload_n 0, 1) := by decide +kernel
theorem d_B_move_28 : decode prog_1_method_10_code 28 = .ok (.getfield 19, 3) := by decide +kernel
theorem d_B_move_31 : decode prog_1_method_10_code 31 = .ok (.iload_n 3, 1) := by decide +kernel
theorem d_B_move_32 : decode prog_1_method_10_code 32 = .ok (.invokevirtual 74, 3) := by decide +kernel
theorem d_B_move_35 : decode prog_1_method_10_code 35 = .ok (.istore 4, 2) := by decide +kernel
theorem d_B_move_37 : decode prog_1_method_10_code 37 = .ok (.aload_n 0, 1) := by decide +kernel
theorem d_B_move_38 : decode prog_1_method_10_code 38 = .ok (.getfield 10, 3) := by decide +kernel
theorem d_B_move_41 : decode prog_1_method_10_code 41 = .ok (.iload 4, 2) := by decide +kernel
theorem d_B_move_43 : decode prog_1_method_10_code 43 = .ok (.iconst (-1), 1) := by decide +kernel
theorem d_B_move_44 : decode prog_1_method_10_code 44 = .ok (.invokevirtual 89, 3) := by decide +kernel
theorem d_B_move_47 : decode prog_1_method_10_code 47 = .ok (.aload_n 0, 1) := by decide +kernel
theorem d_B_move_48 : decode prog_1_method_10_code 48 = .ok (.getfield 10, 3) := by decide +kernel
theorem d_B_move_51 : decode prog_1_method_10_code 51 = .ok (.iload_n 2, 1) := by decide +kernel
theorem d_B_move_52 : decode prog_1_method_10_code 52 = .ok (.iconst 1, 1) := by decide +kernel
theorem d_B_move_53 : decode prog_1_method_10_code 53 = .ok (.invokevirtual 106, 3) := by decide +kernel
theorem d_B_move_56 : decode prog_1_method_10_code 56 = .ok (.istore 5, 2) := by decide +kernel
theorem d_B_move_58 : decode prog_1_method_10_code 58 = .ok (.iload 5, 2) := by decide +kernel
theorem d_B_move_60 : decode prog_1_method_10_code 60 = .ok (.iconst (-1), 1) := by decide +kernel
theorem d_B_move_61 : decode prog_1_method_10_code 61 = .ok (.if_icmp .eq 19, 3) := by decide +kernel
theorem d_B_move_64 : decode prog_1_method_10_code 64 = .ok (.aload_n 0, 1) := by decide +kernel
theorem d_B_move_65 : decode prog_1_method_10_code 65 = .ok (.getfield 10, 3) := by decide +kernel
theorem d_B_move_68 : decode prog_1_method_10_code 68 = .ok (.iload 4, 2) := by decide +kernel
theorem d_B_move_70 : decode prog_1_method_10_code 70 = .ok (.iconst 1, 1) := by decide +kernel
theorem d_B_move_71 : decode prog_1_method_10_code 71 = .ok (.invokevirtual 89, 3) := by decide +kernel
theorem d_B_move_74 : decode prog_1_method_10_code 74 = .ok (.aload_n 0, 1) := by decide +kernel
theorem d_B_move_75 : decode prog_1_method_10_code 75 = .ok (.iload 5, 2) := by decide +kernel
theorem d_B_move_77 : decode prog_1_method_10_code 77 = .ok (.invokevirtual 50, 3) := by decide +kernel
theorem d_B_move_80 : decode prog_1_method_10_code 80 = .ok (.aload_n 0, 1) := by decide +kernel
theorem d_B_move_81 : decode prog_1_method_10_code 81 = .ok (.getfield 10, 3) := by decide +kernel
theorem d_B_move_84 : decode prog_1_method_10_code 84 = .ok (.iload_n 2, 1) := by decide +kernel
theorem d_B_move_85 : decode prog_1_method_10_code 85 = .ok (.iconst 1, 1) := by decide +kernel
theorem d_B_move_86 : decode prog_1_method_10_code 86 = .ok (.invokevirtual 89, 3) := by decide +kernel
theorem d_B_move_89 : decode prog_1_method_10_code 89 = .ok (.aload_n 0, 1) := by decide +kernel
theorem d_B_move_90 : decode prog_1_method_10_code 90 = .ok (.getfield 19, 3) := by decide +kernel
theorem d_B_move_93 : decode prog_1_method_10_code 93 = .ok (.iload_n 3, 1) := by decide +kernel
theorem d_B_move_94 : decode prog_1_method_10_code 94 = .ok (.invokevirtual 83, 3) := by decide +kernel
theorem d_B_move_97 : decode prog_1_method_10_code 97 = .ok (.aload_n 0, 1) := by decide +kernel
theorem d_B_move_98 : decode prog_1_method_10_code 98 = .ok (.getfield 19, 3) := by decide +kernel
theorem d_B_move_101 : decode prog_1_method_10_code 101 = .ok (.invokevirtual 86, 3) := by decide +kernel
theorem d_B_move_104 : decode prog_1_method_10_code 104 = .ok (.aload_n 0, 1) := by decide +kernel
theorem d_B_move_105 : decode prog_1_method_10_code 105 = .ok (.getfield 19, 3) := by decide +kernel
theorem d_B_move_108 : decode prog_1_method_10_code 108 = .ok (.iload_n 3, 1) := by decide +kernel
theorem d_B_move_109 : decode prog_1_method_10_code 109 = .ok (.iload_n 2, 1) := by decide +kernel
theorem d_B_move_110 : decode prog_1_method_10_code 110 = .ok (.invokevirtual 109, 3) := by decide +kernel
theorem d_B_move_113 : decode prog_1_method_10_code 113 = .ok (.iload 4, 2) := by decide +kernel
theorem d_B_move_115 : decode prog_1_method_10_code 115 = .ok (.ireturn, 1) := by decide +kernel
theorem d_B_limit_0 : decode prog_1_method_11_code 0 = .ok (.aload_n 0, 1) := by decide +kernel
theorem d_B_limit_1 : decode prog_1_method_11_code 1 = .ok (.iload_n 1, 1) := by decide +kernel
theorem d_B_limit_2 : decode prog_1_method_11_code 2 = .ok (.invokevirtual 27, 3) := by decide +kernel
theorem d_B_limit_5 : decode prog_1_method_11_code 5 = .ok (.iload_n 2, 1) := by decide +kernel
theorem d_B_limit_6 : decode prog_1_method_11_code 6 = .ok (.invokestatic 31, 3) := by decide +kernel
theorem d_B_limit_9 : decode prog_1_method_11_code 9 = .ok (.ifCond .eq 11, 3) := by decide +kernel
theorem d_B_limit_12 : decode prog_1_method_11_code 12 = .ok (.iload_n 1, 1) := by decide +kernel
theorem d_B_limit_13 : decode prog_1_method_11_code 13 = .ok (.ifCond .eq 7, 3) := by decide +kernel
theorem d_B_limit_16 : decode prog_1_method_11_code 16 = .ok (.iconst 1, 1) := by decide +kernel
theorem d_B_limit_17 : decode prog_1_method_11_code 17 = .ok (.goto 4, 3) := by decide +kernel
theorem d_B_limit_20 : decode prog_1_method_11_code 20 = .ok (.iconst 0, 1) := by decide +kernel
theorem d_B_limit_21 : decode prog_1_method_11_code 21 = .ok (.invokestatic 35, 3) := by decide +kernel
theorem d_B_limit_24 : decode prog_1_method_11_code 24 = .ok (.aload_n 0, 1) := by decide +kernel
theorem d_B_limit_25 : decode prog_1_method_11_code 25 = .ok (.getfield 10, 3) := by decide +kernel
theorem d_B_limit_28 : decode prog_1_method_11_code 28 = .ok (.iload_n 1, 1) := by decide +kernel
theorem d_B_limit_29 : decode prog_1_method_11_code 29 = .ok (.invokevirtual 112, 3) := by decide +kernel
theorem d_B_limit_32 : decode prog_1_method_11_code 32 = .ok (.iload_n 2, 1) := by decide +kernel
theorem d_B_limit_33 : decode prog_1_method_11_code 33 = .ok (.if_icmp .gt 18, 3) := by decide +kernel
theorem d_B_limit_36 : decode prog_1_method_11_code 36 = .ok (.aload_n 0, 1) := by decide +kernel
theorem d_B_limit_37 : decode prog_1_method_11_code 37 = .ok (.getfield 10, 3) := by decide +kernel
theorem d_B_limit_40 : decode prog_1_method_11_code 40 = .ok (.iload_n 1, 1) := by decide +kernel
theorem d_B_limit_41 : decode prog_1_method_11_code 41 = .ok (.invokevirtual 77, 3) := by decide +kernel
theorem d_B_limit_44 : decode prog_1_method_11_code 44 = .ok (.ifCond .ne 7, 3) := by decide +kernel
theorem d_B_limit_47 : decode prog_1_method_11_code 47 = .ok (.iconst 1, 1) := by decide +kernel
theorem d_B_limit_48 : decode prog_1_method_11_code 48 = .ok (.goto 4, 3) := by decide +kernel
theorem d_B_limit_51 : decode prog_1_method_11_code 51 = .ok (.iconst 0, 1) := by decide +kernel
theorem d_B_limit_52 : decode prog_1_method_11_code 52 = .ok (.invokestatic 115, 3) := by decide +kernel
theorem d_B_limit_55 : decode prog_1_method_11_code 55 = .ok (.aload_n 0, 1) := by decide +kernel
theorem d_B_limit_56 : decode prog_1_method_11_code 56 = .ok (.getfield 10, 3) := by decide +kernel
theorem d_B_limit_59 : decode prog_1_method_11_code 59 = .ok (.iload_n 1, 1) := by decide +kernel
theorem d_B_limit_60 : decode prog_1_method_11_code 60 = .ok (.iload_n 2, 1) := by decide +kernel
theorem d_B_limit_61 : decode prog_1_method_11_code 61 = .ok (.invokevirtual 118, 3) := by decide +kernel
theorem d_B_limit_64 : decode prog_1_method_11_code 64 = .ok (.ireturn, 1) := by decide +kernel
theorem d_B_reserve_0 : decode prog_1_method_12_code 0 = .ok (.aload_n 0, 1) := by decide +kernel
theorem d_B_reserve_1 : decode prog_1_method_12_code 1 = .ok (.iload_n 1, 1) := by decide +kernel
theorem d_B_reserve_2 : decode prog_1_method_12_code 2 = .ok (.invokevirtual 27, 3) := by decide +kernel
theorem d_B_reserve_5 : decode prog_1_method_12_code 5 = .ok (.iload_n 2, 1) := by decide +kernel
theorem d_B_reserve_6 : decode prog_1_method_12_code 6 = .ok (.invokestatic 31, 3) := by decide +kernel
theorem d_B_reserve_9 : decode prog_1_method_12_code 9 = .ok (.invokestatic 35, 3) := by decide +kernel
theorem d_B_reserve_12 : decode prog_1_method_12_code 12 = .ok (.aload_n 0, 1) := by decide +kernel
theorem d_B_reserve_13 : decode prog_1_method_12_code 13 = .ok (.iload_n 1, 1) := by decide +kernel
theorem d_B_reserve_14 : decode prog_1_method_12_code 14 = .ok (.invokevirtual 39, 3) := by decide +kernel
theorem d_B_reserve_17 : decode prog_1_method_12_code 17 = .ok (.aload_n 0, 1) := by decide +kernel
theorem d_B_reserve_18 : decode prog_1_method_12_code 18 = .ok (.iload_n 1, 1) := by decide +kernel
theorem d_B_reserve_19 : decode prog_1_method_12_code 19 = .ok (.iload_n 2, 1) := by decide +kernel
theorem d_B_reserve_20 : decode prog_1_method_12_code 20 = .ok (.invokevirtual 121, 3) := by decide +kernel
theorem d_B_reserve_23 : decode prog_1_method_12_code 23 = .ok (.aload_n 0, 1) := by decide +kernel
theorem d_B_reserve_24 : decode prog_1_method_12_code 24 = .ok (.getfield 10, 3) := by decide +kernel
theorem d_B_reserve_27 : decode prog_1_method_12_code 27 = .ok (.iload_n 1, 1) := by decide +kernel
theorem d_B_reserve_28 : decode prog_1_method_12_code 28 = .ok (.iload_n 2, 1) := by decide +kernel
theorem d_B_reserve_29 : decode prog_1_method_12_code 29 = .ok (.invokevirtual 124, 3) := by decide +kernel
theorem d_B_reserve_32 : decode prog_1_method_12_code 32 = .ok (.aload_n 0, 1) := by decide +kernel
theorem d_B_reserve_33 : decode prog_1_method_12_code 33 = .ok (.getfield 10, 3) := by decide +kernel
theorem d_B_reserve_36 : decode prog_1_method_12_code 36 = .ok (.iload_n 1, 1) := by decide +kernel
theorem d_B_reserve_37 : decode prog_1_method_12_code 37 = .ok (.iload_n 2, 1) := by decide +kernel
theorem d_B_reserve_38 : decode prog_1_method_12_code 38 = .ok (.invokevirtual 89, 3) := by decide +kernel
theorem d_B_reserve_41 : decode prog_1_method_12_code 41 = .ok (.aload_n 0, 1) := by decide +kernel
theorem d_B_reserve_42 : decode prog_1_method_12_code 42 = .ok (.getfield 10, 3) := by decide +kernel
theorem d_B_reserve_45 : decode prog_1_method_12_code 45 = .ok (.iload_n 1, 1) := by decide +kernel
theorem d_B_reserve_46 : decode prog_1_method_12_code 46 = .ok (.invokevirtual 127, 3) := by decide +kernel
theorem d_B_reserve_49 : decode prog_1_method_12_code 49 = .ok (.ireturn, 1) := by decide +kernel
theorem d_B_unreserve_0 : decode prog_1_method_13_code 0 = .ok (.aload_n 0, 1) := by decide +kernel
theorem d_B_unreserve_1 : decode prog_1_method_13_code 1 = .ok (.iload_n 1, 1) := by decide +kernel
theorem d_B_unreserve_2 : decode prog_1_method_13_code 2 = .ok (.invokevirtual 27, 3) := by decide +kernel
theorem d_B_unreserve_5 : decode prog_1_method_13_code 5 = .ok (.iload_n 2, 1) := by decide +kernel
theorem d_B_unreserve_6 : decode prog_1_method_13_code 6 = .ok (.ifCond .lt 19, 3) := by decide +kernel
theorem d_B_unreserve_9 : decode prog_1_method_13_code 9 = .ok (.iload_n 2, 1) := by decide +kernel
theorem d_B_unreserve_10 : decode prog_1_method_13_code 10 = .ok (.aload_n 0, 1) := by decide +kernel
theorem d_B_unreserve_11 : decode prog_1_method_13_code 11 = .ok (.getfield 10, 3) := by decide +kernel
theorem d_B_unreserve_14 : decode prog_1_method_13_code 14 = .ok (.iload_n 1, 1) := by decide +kernel
theorem d_B_unreserve_15 : decode prog_1_method_13_code 15 = .ok (.invokevirtual 127, 3) := by decide +kernel
theorem d_B_unreserve_18 : decode prog_1_method_13_code 18 = .ok (.if_icmp .gt 7, 3) := by decide +kernel
theorem d_B_unreserve_21 : decode prog_1_method_13_code 21 = .ok (.iconst 1, 1) := by decide +kernel
theorem d_B_unreserve_22 : decode prog_1_method_13_code 22 = .ok (.goto 4, 3) := by decide +kernel
theorem d_B_unreserve_25 : decode prog_1_method_13_code 25 = .ok (.iconst 0, 1) := by decide +kernel
theorem d_B_unreserve_26 : decode prog_1_method_13_code 26 = .ok (.invokestatic 35, 3) := by decide +kernel
theorem d_B_unreserve_29 : decode prog_1_method_13_code 29 = .ok (.aload_n 0, 1) := by decide +kernel
theorem d_B_unreserve_30 : decode prog_1_method_13_code 30 = .ok (.getfield 10, 3) := by decide +kernel
theorem d_B_unreserve_33 : decode prog_1_method_13_code 33 = .ok (.iload_n 1, 1) := by decide +kernel
theorem d_B_unreserve_34 : decode prog_1_method_13_code 34 = .ok (.iload_n 2, 1) := by decide +kernel
theorem d_B_unreserve_35 : decode prog_1_method_13_code 35 = .ok (.ineg, 1) := by decide +kernel
theorem d_B_unreserve_36 : decode prog_1_method_13_code 36 = .ok (.invokevirtual 124, 3) := by decide +kernel
theorem d_B_unreserve_39 : decode prog_1_method_13_code 39 = .ok (.aload_n 0, 1) := by decide +kernel
theorem d_B_unreserve_40 : decode prog_1_method_13_code 40 = .ok (.getfield 10, 3) := by decide +kernel
theorem d_B_unreserve_43 : decode prog_1_method_13_code 43 = .ok (.iload_n 1, 1) := by decide +kernel
theorem d_B_unreserve_44 : decode prog_1_method_13_code 44 = .ok (.iload_n 2, 1) := by decide +kernel
theorem d_B_unreserve_45 : decode prog_1_method_13_code 45 = .ok (.ineg, 1) := by decide +kernel
theorem d_B_unreserve_46 : decode prog_1_method_13_code 46 = .ok (.invokevirtual 89, 3) := by decide +kernel
theorem d_B_unreserve_49 : decode prog_1_method_13_code 49 = .ok (.aload_n 0, 1) := by decide +kernel
theorem d_B_unreserve_50 : decode prog_1_method_13_code 50 = .ok (.getfield 10, 3) := by decide +kernel
theorem d_B_unreserve_53 : decode prog_1_method_13_code 53 = .ok (.iload_n 1, 1) := by decide +kernel
theorem d_B_unreserve_54 : decode prog_1_method_13_code 54 = .ok (.invokevirtual 127, 3) := by decide +kernel
theorem d_B_unreserve_57 : decode prog_1_method_13_code 57 = .ok (.ireturn, 1) := by decide +kernel
theorem d_B_freeze_0 : decode prog_1_method_14_code 0 = .ok (.aload_n 0, 1) := by decide +kernel
theorem d_B_freeze_1 : decode prog_1_method_14_code 1 = .ok (.iload_n 1, 1) := by decide +kernel
theorem d_B_freeze_2 : decode prog_1_method_14_code 2 = .ok (.invokevirtual 130, 3) := by decide +kernel
theorem d_B_freeze_5 : decode prog_1_method_14_code 5 = .ok (.aload_n 0, 1) := by decide +kernel
theorem d_B_freeze_6 : decode prog_1_method_14_code 6 = .ok (.getfield 10, 3) := by decide +kernel
theorem d_B_freeze_9 : decode prog_1_method_14_code 9 = .ok (.iload_n 1, 1) := by decide +kernel
theorem d_B_freeze_10 : decode prog_1_method_14_code 10 = .ok (.invokevirtual 77, 3) := by decide +kernel
theorem d_B_freeze_13 : decode prog_1_method_14_code 13 = .ok (.ifCond .ne 7, 3) := by decide +kernel
theorem d_B_freeze_16 : decode prog_1_method_14_code 16 = .ok (.iconst 1, 1) := by decide +kernel
theorem d_B_freeze_17 : decode prog_1_method_14_code 17 = .ok (.goto 4, 3) := by decide +kernel
theorem d_B_freeze_20 : decode prog_1_method_14_code 20 = .ok (.iconst 0, 1) := by decide +kernel
theorem d_B_freeze_21 : decode prog_1_method_14_code 21 = .ok (.invokestatic 115, 3) := by decide +kernel
theorem d_B_freeze_24 : decode prog_1_method_14_code 24 = .ok (.aload_n 0, 1) := by decide +kernel
theorem d_B_freeze_25 : decode prog_1_method_14_code 25 = .ok (.getfield 10, 3) := by decide +kernel
theorem d_B_freeze_28 : decode prog_1_method_14_code 28 = .ok (.iload_n 1, 1) := by decide +kernel
theorem d_B_freeze_29 : decode prog_1_method_14_code 29 = .ok (.iload_n 2, 1) := by decide +kernel
theorem d_B_freeze_30 : decode prog_1_method_14_code 30 = .ok (.ifCond .eq 7, 3) := by decide +kernel
theorem d_B_freeze_33 : decode prog_1_method_14_code 33 = .ok (.iconst 1, 1) := by decide +kernel
theorem d_B_freeze_34 : decode prog_1_method_14_code 34 = .ok (.goto 4, 3) := by decide +kernel
theorem d_B_freeze_37 : decode prog_1_method_14_code 37 = .ok (.iconst 0, 1) := by decide +kernel
theorem d_B_freeze_38 : decode prog_1_method_14_code 38 = .ok (.invokevirtual 133, 3) := by decide +kernel
theorem d_B_freeze_41 : decode prog_1_method_14_code 41 = .ok (.iconst 1, 1) := by decide +kernel
theorem d_B_freeze_42 : decode prog_1_method_14_code 42 = .ok (.if_icmp .ne 7, 3) := by decide +kernel
theorem d_B_freeze_45 : decode prog_1_method_14_code 45 = .ok (.iconst 1, 1) := by decide +kernel
theorem d_B_freeze_46 : decode prog_1_method_14_code 46 = .ok (.goto 4, 3) := by decide +kernel
theorem d_B_freeze_49 : decode prog_1_method_14_code 49 = .ok (.iconst 0, 1) := by decide +kernel
theorem d_B_freeze_50 : decode prog_1_method_14_code 50 = .ok (.ireturn, 1) := by decide +kernel
theorem d_B_requireOtherThanRoot_0 : decode prog_1_method_32_code 0 = .ok (.aload_n 0, 1) := by decide +kernel
theorem d_B_requireOtherThanRoot_1 : decode prog_1_method_32_code 1 = .ok (.iload_n 1, 1) := by decide +kernel
theorem d_B_requireOtherThanRoot_2 : decode prog_1_method_32_code 2 = .ok (.invokevirtual 27, 3) := by decide +kernel
theorem d_B_requireOtherThanRoot_5 : decode prog_1_method_32_code 5 = .ok (.iload_n 1, 1) := by decide +kernel
theorem d_B_requireOtherThanRoot_6 : decode prog_1_method_32_code 6 = .ok (.ifCond .eq 7, 3) := by decide +kernel
theorem d_B_requireOtherThanRoot_9 : decode prog_1_method_32_code 9 = .ok (.iconst 1, 1) := by decide +kernel
theorem d_B_requireOtherThanRoot_10 : decode prog_1_method_32_code 10 = .ok (.goto 4, 3) := by decide +kernel
theorem d_B_requireOtherThanRoot_13 : decode prog_1_method_32_code 13 = .ok (.iconst 0, 1) := by decide +kernel
theorem d_B_requireOtherThanRoot_14 : decode prog_1_method_32_code 14 = .ok (.invokestatic 35, 3) := by decide +kernel
theorem d_B_requireOtherThanRoot_17 : decode prog_1_method_32_code 17 = .ok (.return_, 1) := by decide +kernel
theorem d_B_destroy_0 : decode prog_1_method_15_code 0 = .ok (.aload_n 0, 1) := by decide +kernel
theorem d_B_destroy_1 : decode prog_1_method_15_code 1 = .ok (.iload_n 1, 1) := by decide +kernel
theorem d_B_destroy_2 : decode prog_1_method_15_code 2 = .ok (.invokevirtual 130, 3) := by decide +kernel
theorem d_B_destroy_5 : decode prog_1_method_15_code 5 = .ok (.aload_n 0, 1) := by decide +kernel
theorem d_B_destroy_6 : decode prog_1_method_15_code 6 = .ok (.getfield 10, 3) := by decide +kernel
theorem d_B_destroy_9 : decode prog_1_method_15_code 9 = .ok (.iload_n 1, 1) := by decide +kernel
theorem d_B_destroy_10 : decode prog_1_method_15_code 10 = .ok (.invokevirtual 77, 3) := by decide +kernel
theorem d_B_destroy_13 : decode prog_1_method_15_code 13 = .ok (.ifCond .ne 7, 3) := by decide +kernel
theorem d_B_destroy_16 : decode prog_1_method_15_code 16 = .ok (.iconst 1, 1) := by decide +kernel
theorem d_B_destroy_17 : decode prog_1_method_15_code 17 = .ok (.goto 4, 3) := by decide +kernel
theorem d_B_destroy_20 : decode prog_1_method_15_code 20 = .ok (.iconst 0, 1) := by decide +kernel
theorem d_B_destroy_21 : decode prog_1_method_15_code 21 = .ok (.invokestatic 115, 3) := by decide +kernel
theorem d_B_destroy_24 : decode prog_1_method_15_code 24 = .ok (.aload_n 0, 1) := by decide +kernel
theorem d_B_destroy_25 : decode prog_1_method_15_code 25 = .ok (.getfield 10, 3) := by decide +kernel
theorem d_B_destroy_28 : decode prog_1_method_15_code 28 = .ok (.iload_n 1, 1) := by decide +kernel
theorem d_B_destroy_29 : decode prog_1_method_15_code 29 = .ok (.invokevirtual 136, 3) := by decide +kernel
theorem d_B_destroy_32 : decode prog_1_method_15_code 32 = .ok (.aload_n 0, 1) := by decide +kernel
theorem d_B_destroy_33 : decode prog_1_method_15_code 33 = .ok (.getfield 10, 3) := by decide +kernel
theorem d_B_destroy_36 : decode prog_1_method_15_code 36 = .ok (.invokevirtual 139, 3) := by decide +kernel
theorem d_B_destroy_39 : decode prog_1_method_15_code 39 = .ok (.aload_n 0, 1) := by decide +kernel
theorem d_B_destroy_40 : decode prog_1_method_15_code 40 = .ok (.invokevirtual 142, 3) := by decide +kernel
theorem d_B_destroy_43 : decode prog_1_method_15_code 43 = .ok (.ireturn, 1) := by decide +kernel
theorem d_B_dyingPages_0 : decode prog_1_method_28_code 0 = .ok (.iconst 0, 1) := by decide +kernel
theorem d_B_dyingPages_1 : decode prog_1_method_28_code 1 = .ok (.istore_n 1, 1) := by decide +kernel
theorem d_B_dyingPages_2 : decode prog_1_method_28_code 2 = .ok (.iconst 0, 1) := by decide +kernel
theorem d_B_dyingPages_3 : decode prog_1_method_28_code 3 = .ok (.istore_n 2, 1) := by decide +kernel
theorem d_B_dyingPages_4 : decode prog_1_method_28_code 4 = .ok (.iload_n 2, 1) := by decide +kernel
theorem d_B_dyingPages_5 : decode prog_1_method_28_code 5 = .ok (.sipush 192, 3) := by decide +kernel
theorem d_B_dyingPages_8 : decode prog_1_method_28_code 8 = .ok (.if_icmp .ge 20, 3) := by decide +kernel
theorem d_B_dyingPages_11 : decode prog_1_method_28_code 11 = .ok (.aload_n 0, 1) := by decide +kernel
theorem d_B_dyingPages_12 : decode prog_1_method_28_code 12 = .ok (.iload_n 2, 1) := by decide +kernel
theorem d_B_dyingPages_13 : decode prog_1_method_28_code 13 = .ok (.invokevirtual 145, 3) := by decide +kernel
theorem d_B_dyingPages_16 : decode prog_1_method_28_code 16 = .ok (.ifCond .eq 6, 3) := by decide +kernel
theorem d_B_dyingPages_19 : decode prog_1_method_28_code 19 = .ok (.iinc 1 1, 3) := by decide +kernel
theorem d_B_dyingPages_22 : decode prog_1_method_28_code 22 = .ok (.iinc 2 1, 3) := by decide +kernel
theorem d_B_dyingPages_25 : decode prog_1_method_28_code 25 = .ok (.goto (-21), 3) := by decide +kernel
theorem d_B_dyingPages_28 : decode prog_1_method_28_code 28 = .ok (.iload_n 1, 1) := by decide +kernel
theorem d_B_dyingPages_29 : decode prog_1_method_28_code 29 = .ok (.ireturn, 1) := by decide +kernel
theorem d_B_isDyingPage_0 : decode prog_1_method_27_code 0 = .ok (.aload_n 0, 1) := by decide +kernel
theorem d_B_isDyingPage_1 : decode prog_1_method_27_code 1 = .ok (.getfield 19, 3) := by decide +kernel
theorem d_B_isDyingPage_4 : decode prog_1_method_27_code 4 = .ok (.iload_n 1, 1) := by decide +kernel
theorem d_B_isDyingPage_5 : decode prog_1_method_27_code 5 = .ok (.invokevirtual 205, 3) := by decide +kernel
theorem d_B_isDyingPage_8 : decode prog_1_method_27_code 8 = .ok (.ifCond .eq 25, 3) := by decide +kernel
theorem d_B_isDyingPage_11 : decode prog_1_method_27_code 11 = .ok (.aload_n 0, 1) := by decide +kernel
theorem d_B_isDyingPage_12 : decode prog_1_method_27_code 12 = .ok (.getfield 10, 3) := by decide +kernel
theorem d_B_isDyingPage_15 : decode prog_1_method_27_code 15 = .ok (.aload_n 0, 1) := by decide +kernel
theorem d_B_isDyingPage_16 : decode prog_1_method_27_code 16 = .ok (.getfield 19, 3) := by decide +kernel
theorem d_B_isDyingPage_19 : decode prog_1_method_27_code 19 = .ok (.iload_n 1, 1) := by decide +kernel
theorem d_B_isDyingPage_20 : decode prog_1_method_27_code 20 = .ok (.invokevirtual 74, 3) := by decide +kernel
theorem d_B_isDyingPage_23 : decode prog_1_method_27_code 23 = .ok (.invokevirtual 77, 3) := by decide +kernel
theorem d_B_isDyingPage_26 : decode prog_1_method_27_code 26 = .ok (.ifCond .eq 7, 3) := by decide +kernel
theorem d_B_isDyingPage_29 : decode prog_1_method_27_code 29 = .ok (.iconst 1, 1) := by decide +kernel
theorem d_B_isDyingPage_30 : decode prog_1_method_27_code 30 = .ok (.goto 4, 3) := by decide +kernel
theorem d_B_isDyingPage_33 : decode prog_1_method_27_code 33 = .ok (.iconst 0, 1) := by decide +kernel
theorem d_B_isDyingPage_34 : decode prog_1_method_27_code 34 = .ok (.ireturn, 1) := by decide +kernel
theorem d_B_work_0 : decode prog_1_method_16_code 0 = .ok (.iload_n 1, 1) := by decide +kernel
theorem d_B_work_1 : decode prog_1_method_16_code 1 = .ok (.invokestatic 31, 3) := by decide +kernel
theorem d_B_work_4 : decode prog_1_method_16_code 4 = .ok (.invokestatic 35, 3) := by decide +kernel
theorem d_B_work_7 : decode prog_1_method_16_code 7 = .ok (.iload_n 1, 1) := by decide +kernel
theorem d_B_work_8 : decode prog_1_method_16_code 8 = .ok (.istore_n 2, 1) := by decide +kernel
theorem d_B_work_9 : decode prog_1_method_16_code 9 = .ok (.iconst 0, 1) := by decide +kernel
theorem d_B_work_10 : decode prog_1_method_16_code 10 = .ok (.istore_n 3, 1) := by decide +kernel
theorem d_B_work_11 : decode prog_1_method_16_code 11 = .ok (.iload_n 3, 1) := by decide +kernel
theorem d_B_work_12 : decode prog_1_method_16_code 12 = .ok (.sipush 192, 3) := by decide +kernel
theorem d_B_work_15 : decode prog_1_method_16_code 15 = .ok (.if_icmp .ge 48, 3) := by decide +kernel
theorem d_B_work_18 : decode prog_1_method_16_code 18 = .ok (.iload_n 2, 1) := by decide +kernel
theorem d_B_work_19 : decode prog_1_method_16_code 19 = .ok (.ifCond .le 44, 3) := by decide +kernel
theorem d_B_work_22 : decode prog_1_method_16_code 22 = .ok (.aload_n 0, 1) := by decide +kernel
theorem d_B_work_23 : decode prog_1_method_16_code 23 = .ok (.iload_n 3, 1) := by decide +kernel
theorem d_B_work_24 : decode prog_1_method_16_code 24 = .ok (.invokevirtual 145, 3) := by decide +kernel
theorem d_B_work_27 : decode prog_1_method_16_code 27 = .ok (.ifCond .eq 30, 3) := by decide +kernel
theorem d_B_work_30 : decode prog_1_method_16_code 30 = .ok (.aload_n 0, 1) := by decide +kernel
theorem d_B_work_31 : decode prog_1_method_16_code 31 = .ok (.getfield 10, 3) := by decide +kernel
theorem d_B_work_34 : decode prog_1_method_16_code 34 = .ok (.aload_n 0, 1) := by decide +kernel
theorem d_B_work_35 : decode prog_1_method_16_code 35 = .ok (.getfield 19, 3) := by decide +kernel
theorem d_B_work_38 : decode prog_1_method_16_code 38 = .ok (.iload_n 3, 1) := by decide +kernel
theorem d_B_work_39 : decode prog_1_method_16_code 39 = .ok (.invokevirtual 74, 3) := by decide +kernel
theorem d_B_work_42 : decode prog_1_method_16_code 42 = .ok (.iconst (-1), 1) := by decide +kernel
theorem d_B_work_43 : decode prog_1_method_16_code 43 = .ok (.invokevirtual 89, 3) := by decide +kernel
theorem d_B_work_46 : decode prog_1_method_16_code 46 = .ok (.aload_n 0, 1) := by decide +kernel
theorem d_B_work_47 : decode prog_1_method_16_code 47 = .ok (.getfield 19, 3) := by decide +kernel
theorem d_B_work_50 : decode prog_1_method_16_code 50 = .ok (.iload_n 3, 1) := by decide +kernel
theorem d_B_work_51 : decode prog_1_method_16_code 51 = .ok (.invokevirtual 83, 3) := by decide +kernel
theorem d_B_work_54 : decode prog_1_method_16_code 54 = .ok (.iinc 2 (-1), 3) := by decide +kernel
theorem d_B_work_57 : decode prog_1_method_16_code 57 = .ok (.iinc 3 1, 3) := by decide +kernel
theorem d_B_work_60 : decode prog_1_method_16_code 60 = .ok (.goto (-49), 3) := by decide +kernel
theorem d_B_work_63 : decode prog_1_method_16_code 63 = .ok (.aload_n 0, 1) := by decide +kernel
theorem d_B_work_64 : decode prog_1_method_16_code 64 = .ok (.getfield 19, 3) := by decide +kernel
theorem d_B_work_67 : decode prog_1_method_16_code 67 = .ok (.invokevirtual 86, 3) := by decide +kernel
theorem d_B_work_70 : decode prog_1_method_16_code 70 = .ok (.aload_n 0, 1) := by decide +kernel
theorem d_B_work_71 : decode prog_1_method_16_code 71 = .ok (.getfield 10, 3) := by decide +kernel
theorem d_B_work_74 : decode prog_1_method_16_code 74 = .ok (.invokevirtual 139, 3) := by decide +kernel
theorem d_B_work_77 : decode prog_1_method_16_code 77 = .ok (.aload_n 0, 1) := by decide +kernel
theorem d_B_work_78 : decode prog_1_method_16_code 78 = .ok (.invokevirtual 142, 3) := by decide +kernel
theorem d_B_work_81 : decode prog_1_method_16_code 81 = .ok (.ireturn, 1) := by decide +kernel
theorem d_B_handUp_0 : decode prog_1_method_17_code 0 = .ok (.aload_n 0, 1) := by decide +kernel
theorem d_B_handUp_1 : decode prog_1_method_17_code 1 = .ok (.iload_n 1, 1) := by decide +kernel
theorem d_B_handUp_2 : decode prog_1_method_17_code 2 = .ok (.invokevirtual 130, 3) := by decide +kernel
theorem d_B_handUp_5 : decode prog_1_method_17_code 5 = .ok (.aload_n 0, 1) := by decide +kernel
theorem d_B_handUp_6 : decode prog_1_method_17_code 6 = .ok (.getfield 10, 3) := by decide +kernel
theorem d_B_handUp_9 : decode prog_1_method_17_code 9 = .ok (.iload_n 1, 1) := by decide +kernel
theorem d_B_handUp_10 : decode prog_1_method_17_code 10 = .ok (.invokevirtual 77, 3) := by decide +kernel
theorem d_B_handUp_13 : decode prog_1_method_17_code 13 = .ok (.ifCond .ne 7, 3) := by decide +kernel
theorem d_B_handUp_16 : decode prog_1_method_17_code 16 = .ok (.iconst 1, 1) := by decide +kernel
theorem d_B_handUp_17 : decode prog_1_method_17_code 17 = .ok (.goto 4, 3) := by decide +kernel
theorem d_B_handUp_20 : decode prog_1_method_17_code 20 = .ok (.iconst 0, 1) := by decide +kernel
theorem d_B_handUp_21 : decode prog_1_method_17_code 21 = .ok (.invokestatic 115, 3) := by decide +kernel
theorem d_B_handUp_24 : decode prog_1_method_17_code 24 = .ok (.aload_n 0, 1) := by decide +kernel
theorem d_B_handUp_25 : decode prog_1_method_17_code 25 = .ok (.getfield 19, 3) := by decide +kernel
theorem d_B_handUp_28 : decode prog_1_method_17_code 28 = .ok (.iload_n 1, 1) := by decide +kernel
theorem d_B_handUp_29 : decode prog_1_method_17_code 29 = .ok (.invokevirtual 148, 3) := by decide +kernel
theorem d_B_handUp_32 : decode prog_1_method_17_code 32 = .ok (.istore_n 2, 1) := by decide +kernel
theorem d_B_handUp_33 : decode prog_1_method_17_code 33 = .ok (.aload_n 0, 1) := by decide +kernel
theorem d_B_handUp_34 : decode prog_1_method_17_code 34 = .ok (.getfield 19, 3) := by decide +kernel
theorem d_B_handUp_37 : decode prog_1_method_17_code 37 = .ok (.iload_n 1, 1) := by decide +kernel
theorem d_B_handUp_38 : decode prog_1_method_17_code 38 = .ok (.aload_n 0, 1) := by decide +kernel
theorem d_B_handUp_39 : decode prog_1_method_17_code 39 = .ok (.getfield 10, 3) := by decide +kernel
theorem d_B_handUp_42 : decode prog_1_method_17_code 42 = .ok (.iload_n 1, 1) := by decide +kernel
theorem d_B_handUp_43 : decode prog_1_method_17_code 43 = .ok (.invokevirtual 151, 3) := by decide +kernel
theorem d_B_handUp_46 : decode prog_1_method_17_code 46 = .ok (.invokevirtual 154, 3) := by decide +kernel
theorem d_B_handUp_49 : decode prog_1_method_17_code 49 = .ok (.aload_n 0, 1) := by decide +kernel
theorem d_B_handUp_50 : decode prog_1_method_17_code 50 = .ok (.getfield 10, 3) := by decide +kernel
theorem d_B_handUp_53 : decode prog_1_method_17_code 53 = .ok (.iload_n 1, 1) := by decide +kernel
theorem d_B_handUp_54 : decode prog_1_method_17_code 54 = .ok (.invokevirtual 157, 3) := by decide +kernel
theorem d_B_handUp_57 : decode prog_1_method_17_code 57 = .ok (.iload_n 2, 1) := by decide +kernel
theorem d_B_handUp_58 : decode prog_1_method_17_code 58 = .ok (.ireturn, 1) := by decide +kernel
theorem d_B_told_0 : decode prog_1_method_18_code 0 = .ok (.aload_n 0, 1) := by decide +kernel
theorem d_B_told_1 : decode prog_1_method_18_code 1 = .ok (.iload_n 1, 1) := by decide +kernel
theorem d_B_told_2 : decode prog_1_method_18_code 2 = .ok (.invokevirtual 27, 3) := by decide +kernel
theorem d_B_told_5 : decode prog_1_method_18_code 5 = .ok (.iload_n 2, 1) := by decide +kernel
theorem d_B_told_6 : decode prog_1_method_18_code 6 = .ok (.tableswitch 118 0 7 #[46, 55, 64, 73, 82, 91, 100, 109], 46) := by decide +kernel
theorem d_B_told_52 : decode prog_1_method_18_code 52 = .ok (.aload_n 0, 1) := by decide +kernel
theorem d_B_told_53 : decode prog_1_method_18_code 53 = .ok (.getfield 10, 3) := by decide +kernel
theorem d_B_told_56 : decode prog_1_method_18_code 56 = .ok (.iload_n 1, 1) := by decide +kernel
theorem d_B_told_57 : decode prog_1_method_18_code 57 = .ok (.invokevirtual 112, 3) := by decide +kernel
theorem d_B_told_60 : decode prog_1_method_18_code 60 = .ok (.ireturn, 1) := by decide +kernel
theorem d_B_told_61 : decode prog_1_method_18_code 61 = .ok (.aload_n 0, 1) := by decide +kernel
theorem d_B_told_62 : decode prog_1_method_18_code 62 = .ok (.getfield 19, 3) := by decide +kernel
theorem d_B_told_65 : decode prog_1_method_18_code 65 = .ok (.iload_n 1, 1) := by decide +kernel
theorem d_B_told_66 : decode prog_1_method_18_code 66 = .ok (.invokevirtual 148, 3) := by decide +kernel
theorem d_B_told_69 : decode prog_1_method_18_code 69 = .ok (.ireturn, 1) := by decide +kernel
theorem d_B_told_70 : decode prog_1_method_18_code 70 = .ok (.aload_n 0, 1) := by decide +kernel
theorem d_B_told_71 : decode prog_1_method_18_code 71 = .ok (.getfield 10, 3) := by decide +kernel
theorem d_B_told_74 : decode prog_1_method_18_code 74 = .ok (.iload_n 1, 1) := by decide +kernel
theorem d_B_told_75 : decode prog_1_method_18_code 75 = .ok (.invokevirtual 127, 3) := by decide +kernel
theorem d_B_told_78 : decode prog_1_method_18_code 78 = .ok (.ireturn, 1) := by decide +kernel
theorem d_B_told_79 : decode prog_1_method_18_code 79 = .ok (.aload_n 0, 1) := by decide +kernel
theorem d_B_told_80 : decode prog_1_method_18_code 80 = .ok (.getfield 10, 3) := by decide +kernel
theorem d_B_told_83 : decode prog_1_method_18_code 83 = .ok (.iload_n 1, 1) := by decide +kernel
theorem d_B_told_84 : decode prog_1_method_18_code 84 = .ok (.invokevirtual 160, 3) := by decide +kernel
theorem d_B_told_87 : decode prog_1_method_18_code 87 = .ok (.ireturn, 1) := by decide +kernel
theorem d_B_told_88 : decode prog_1_method_18_code 88 = .ok (.aload_n 0, 1) := by decide +kernel
theorem d_B_told_89 : decode prog_1_method_18_code 89 = .ok (.getfield 10, 3) := by decide +kernel
theorem d_B_told_92 : decode prog_1_method_18_code 92 = .ok (.iload_n 1, 1) := by decide +kernel
theorem d_B_told_93 : decode prog_1_method_18_code 93 = .ok (.invokevirtual 151, 3) := by decide +kernel
theorem d_B_told_96 : decode prog_1_method_18_code 96 = .ok (.ireturn, 1) := by decide +kernel
theorem d_B_told_97 : decode prog_1_method_18_code 97 = .ok (.aload_n 0, 1) := by decide +kernel
theorem d_B_told_98 : decode prog_1_method_18_code 98 = .ok (.getfield 10, 3) := by decide +kernel
theorem d_B_told_101 : decode prog_1_method_18_code 101 = .ok (.iload_n 1, 1) := by decide +kernel
theorem d_B_told_102 : decode prog_1_method_18_code 102 = .ok (.invokevirtual 46, 3) := by decide +kernel
theorem d_B_told_105 : decode prog_1_method_18_code 105 = .ok (.ireturn, 1) := by decide +kernel
theorem d_B_told_106 : decode prog_1_method_18_code 106 = .ok (.aload_n 0, 1) := by decide +kernel
theorem d_B_told_107 : decode prog_1_method_18_code 107 = .ok (.getfield 10, 3) := by decide +kernel
theorem d_B_told_110 : decode prog_1_method_18_code 110 = .ok (.iload_n 1, 1) := by decide +kernel
theorem d_B_told_111 : decode prog_1_method_18_code 111 = .ok (.invokevirtual 163, 3) := by decide +kernel
theorem d_B_told_114 : decode prog_1_method_18_code 114 = .ok (.ireturn, 1) := by decide +kernel
theorem d_B_told_115 : decode prog_1_method_18_code 115 = .ok (.aload_n 0, 1) := by decide +kernel
theorem d_B_told_116 : decode prog_1_method_18_code 116 = .ok (.getfield 10, 3) := by decide +kernel
theorem d_B_told_119 : decode prog_1_method_18_code 119 = .ok (.iload_n 1, 1) := by decide +kernel
theorem d_B_told_120 : decode prog_1_method_18_code 120 = .ok (.invokevirtual 166, 3) := by decide +kernel
theorem d_B_told_123 : decode prog_1_method_18_code 123 = .ok (.ireturn, 1) := by decide +kernel
theorem d_B_told_124 : decode prog_1_method_18_code 124 = .ok (.new 169, 3) := by decide +kernel
theorem d_B_told_127 : decode prog_1_method_18_code 127 = .ok (.dup, 1) := by decide +kernel
theorem d_B_told_128 : decode prog_1_method_18_code 128 = .ok (.invokespecial 171, 3) := by decide +kernel
theorem d_B_told_131 : decode prog_1_method_18_code 131 = .ok (.athrow, 1) := by decide +kernel
theorem d_B_page_0 : decode prog_1_method_19_code 0 = .ok (.aload_n 0, 1) := by decide +kernel
theorem d_B_page_1 : decode prog_1_method_19_code 1 = .ok (.iload_n 1, 1) := by decide +kernel
theorem d_B_page_2 : decode prog_1_method_19_code 2 = .ok (.invokevirtual 27, 3) := by decide +kernel
theorem d_B_page_5 : decode prog_1_method_19_code 5 = .ok (.aload_n 0, 1) := by decide +kernel
theorem d_B_page_6 : decode prog_1_method_19_code 6 = .ok (.getfield 19, 3) := by decide +kernel
theorem d_B_page_9 : decode prog_1_method_19_code 9 = .ok (.iload_n 1, 1) := by decide +kernel
theorem d_B_page_10 : decode prog_1_method_19_code 10 = .ok (.iload_n 2, 1) := by decide +kernel
theorem d_B_page_11 : decode prog_1_method_19_code 11 = .ok (.invokevirtual 172, 3) := by decide +kernel
theorem d_B_page_14 : decode prog_1_method_19_code 14 = .ok (.istore_n 3, 1) := by decide +kernel
theorem d_B_page_15 : decode prog_1_method_19_code 15 = .ok (.iload_n 3, 1) := by decide +kernel
theorem d_B_page_16 : decode prog_1_method_19_code 16 = .ok (.iconst (-1), 1) := by decide +kernel
theorem d_B_page_17 : decode prog_1_method_19_code 17 = .ok (.if_icmp .eq 7, 3) := by decide +kernel
theorem d_B_page_20 : decode prog_1_method_19_code 20 = .ok (.iconst 1, 1) := by decide +kernel
theorem d_B_page_21 : decode prog_1_method_19_code 21 = .ok (.goto 4, 3) := by decide +kernel
theorem d_B_page_24 : decode prog_1_method_19_code 24 = .ok (.iconst 0, 1) := by decide +kernel
theorem d_B_page_25 : decode prog_1_method_19_code 25 = .ok (.invokestatic 96, 3) := by decide +kernel
theorem d_B_page_28 : decode prog_1_method_19_code 28 = .ok (.aload_n 0, 1) := by decide +kernel
theorem d_B_page_29 : decode prog_1_method_19_code 29 = .ok (.getfield 10, 3) := by decide +kernel
theorem d_B_page_32 : decode prog_1_method_19_code 32 = .ok (.iload_n 1, 1) := by decide +kernel
theorem d_B_page_33 : decode prog_1_method_19_code 33 = .ok (.invokevirtual 77, 3) := by decide +kernel
theorem d_B_page_36 : decode prog_1_method_19_code 36 = .ok (.ifCond .eq 7, 3) := by decide +kernel
theorem d_B_page_39 : decode prog_1_method_19_code 39 = .ok (.iconst 0, 1) := by decide +kernel
theorem d_B_page_40 : decode prog_1_method_19_code 40 = .ok (.goto 11, 3) := by decide +kernel
theorem d_B_page_43 : decode prog_1_method_19_code 43 = .ok (.aload_n 0, 1) := by decide +kernel
theorem d_B_page_44 : decode prog_1_method_19_code 44 = .ok (.getfield 19, 3) := by decide +kernel
theorem d_B_page_47 : decode prog_1_method_19_code 47 = .ok (.iload_n 3, 1) := by decide +kernel
theorem d_B_page_48 : decode prog_1_method_19_code 48 = .ok (.invokevirtual 80, 3) := by decide +kernel
theorem d_B_page_51 : decode prog_1_method_19_code 51 = .ok (.ireturn, 1) := by decide +kernel
theorem d_B_owner_0 : decode prog_1_method_20_code 0 = .ok (.aload_n 0, 1) := by decide +kernel
theorem d_B_owner_1 : decode prog_1_method_20_code 1 = .ok (.iload_n 1, 1) := by decide +kernel
theorem d_B_owner_2 : decode prog_1_method_20_code 2 = .ok (.invokevirtual 61, 3) := by decide +kernel
theorem d_B_owner_5 : decode prog_1_method_20_code 5 = .ok (.aload_n 0, 1) := by decide +kernel
theorem d_B_owner_6 : decode prog_1_method_20_code 6 = .ok (.getfield 19, 3) := by decide +kernel
theorem d_B_owner_9 : decode prog_1_method_20_code 9 = .ok (.iload_n 1, 1) := by decide +kernel
theorem d_B_owner_10 : decode prog_1_method_20_code 10 = .ok (.invokestatic 67, 3) := by decide +kernel
theorem d_B_owner_13 : decode prog_1_method_20_code 13 = .ok (.invokevirtual 74, 3) := by decide +kernel
theorem d_B_owner_16 : decode prog_1_method_20_code 16 = .ok (.ireturn, 1) := by decide +kernel
end
section
theorem d_J_floorMod_0 : decode prog_10_method_50_code 0 = .ok (.iload_n 0, 1) := by decide +kernel
theorem d_J_floorMod_1 : decode prog_10_method_50_code 1 = .ok (.iload_n 1, 1) := by decide +kernel
theorem d_J_floorMod_2 : decode prog_10_method_50_code 2 = .ok (.irem, 1) := by decide +kernel
theorem d_J_floorMod_3 : decode prog_10_method_50_code 3 = .ok (.istore_n 2, 1) := by decide +kernel
theorem d_J_floorMod_4 : decode prog_10_method_50_code 4 = .ok (.iload_n 0, 1) := by decide +kernel
theorem d_J_floorMod_5 : decode prog_10_method_50_code 5 = .ok (.iload_n 1, 1) := by decide +kernel
theorem d_J_floorMod_6 : decode prog_10_method_50_code 6 = .ok (.ixor, 1) := by decide +kernel
theorem d_J_floorMod_7 : decode prog_10_method_50_code 7 = .ok (.ifCond .ge 11, 3) := by decide +kernel
theorem d_J_floorMod_10 : decode prog_10_method_50_code 10 = .ok (.iload_n 2, 1) := by decide +kernel
theorem d_J_floorMod_11 : decode prog_10_method_50_code 11 = .ok (.ifCond .eq 7, 3) := by decide +kernel
theorem d_J_floorMod_14 : decode prog_10_method_50_code 14 = .ok (.iload_n 2, 1) := by decide +kernel
theorem d_J_floorMod_15 : decode prog_10_method_50_code 15 = .ok (.iload_n 1, 1) := by decide +kernel
theorem d_J_floorMod_16 : decode prog_10_method_50_code 16 = .ok (.iadd, 1) := by decide +kernel
theorem d_J_floorMod_17 : decode prog_10_method_50_code 17 = .ok (.ireturn, 1) := by decide +kernel
theorem d_J_floorMod_18 : decode prog_10_method_50_code 18 = .ok (.iload_n 2, 1) := by decide +kernel
theorem d_J_floorMod_19 : decode prog_10_method_50_code 19 = .ok (.ireturn, 1) := by decide +kernel
theorem d_J_floorDiv_0 : decode prog_10_method_47_code 0 = .ok (.iload_n 0, 1) := by decide +kernel
theorem d_J_floorDiv_1 : decode prog_10_method_47_code 1 = .ok (.iload_n 1, 1) := by decide +kernel
theorem d_J_floorDiv_2 : decode prog_10_method_47_code 2 = .ok (.idiv, 1) := by decide +kernel
theorem d_J_floorDiv_3 : decode prog_10_method_47_code 3 = .ok (.istore_n 2, 1) := by decide +kernel
theorem d_J_floorDiv_4 : decode prog_10_method_47_code 4 = .ok (.iload_n 0, 1) := by decide +kernel
theorem d_J_floorDiv_5 : decode prog_10_method_47_code 5 = .ok (.iload_n 1, 1) := by decide +kernel
theorem d_J_floorDiv_6 : decode prog_10_method_47_code 6 = .ok (.ixor, 1) := by decide +kernel
theorem d_J_floorDiv_7 : decode prog_10_method_47_code 7 = .ok (.ifCond .ge 14, 3) := by decide +kernel
theorem d_J_floorDiv_10 : decode prog_10_method_47_code 10 = .ok (.iload_n 2, 1) := by decide +kernel
theorem d_J_floorDiv_11 : decode prog_10_method_47_code 11 = .ok (.iload_n 1, 1) := by decide +kernel
theorem d_J_floorDiv_12 : decode prog_10_method_47_code 12 = .ok (.imul, 1) := by decide +kernel
theorem d_J_floorDiv_13 : decode prog_10_method_47_code 13 = .ok (.iload_n 0, 1) := by decide +kernel
theorem d_J_floorDiv_14 : decode prog_10_method_47_code 14 = .ok (.if_icmp .eq 7, 3) := by decide +kernel
theorem d_J_floorDiv_17 : decode prog_10_method_47_code 17 = .ok (.iload_n 2, 1) := by decide +kernel
theorem d_J_floorDiv_18 : decode prog_10_method_47_code 18 = .ok (.iconst 1, 1) := by decide +kernel
theorem d_J_floorDiv_19 : decode prog_10_method_47_code 19 = .ok (.isub, 1) := by decide +kernel
theorem d_J_floorDiv_20 : decode prog_10_method_47_code 20 = .ok (.ireturn, 1) := by decide +kernel
theorem d_J_floorDiv_21 : decode prog_10_method_47_code 21 = .ok (.iload_n 2, 1) := by decide +kernel
theorem d_J_floorDiv_22 : decode prog_10_method_47_code 22 = .ok (.ireturn, 1) := by decide +kernel
theorem d_J_min_0 : decode prog_10_method_69_code 0 = .ok (.iload_n 0, 1) := by decide +kernel
theorem d_J_min_1 : decode prog_10_method_69_code 1 = .ok (.iload_n 1, 1) := by decide +kernel
theorem d_J_min_2 : decode prog_10_method_69_code 2 = .ok (.if_icmp .gt 7, 3) := by decide +kernel
theorem d_J_min_5 : decode prog_10_method_69_code 5 = .ok (.iload_n 0, 1) := by decide +kernel
theorem d_J_min_6 : decode prog_10_method_69_code 6 = .ok (.goto 4, 3) := by decide +kernel
theorem d_J_min_9 : decode prog_10_method_69_code 9 = .ok (.iload_n 1, 1) := by decide +kernel
theorem d_J_min_10 : decode prog_10_method_69_code 10 = .ok (.ireturn, 1) := by decide +kernel
end
section
theorem d_L_bank_0 : decode method_3_code 0 = .ok (.aload_n 3, 1) := by decide +kernel
theorem d_L_bank_1 : decode method_3_code 1 = .ok (.iconst 0, 1) := by decide +kernel
theorem d_L_bank_2 : decode method_3_code 2 = .ok (.aload_n 0, 1) := by decide +kernel
theorem d_L_bank_3 : decode method_3_code 3 = .ok (.iload_n 1, 1) := by decide +kernel
theorem d_L_bank_4 : decode method_3_code 4 = .ok (.iload_n 2, 1) := by decide +kernel
theorem d_L_bank_5 : decode method_3_code 5 = .ok (.invokevirtual 7, 3) := by decide +kernel
theorem d_L_bank_8 : decode method_3_code 8 = .ok (.i2l, 1) := by decide +kernel
theorem d_L_bank_9 : decode method_3_code 9 = .ok (.lastore, 1) := by decide +kernel
theorem d_L_bank_10 : decode method_3_code 10 = .ok (.goto 19, 3) := by decide +kernel
theorem d_L_bank_13 : decode method_3_code 13 = .ok (.astore 4, 2) := by decide +kernel
theorem d_L_bank_15 : decode method_3_code 15 = .ok (.iconst 1, 1) := by decide +kernel
theorem d_L_bank_16 : decode method_3_code 16 = .ok (.ireturn, 1) := by decide +kernel
theorem d_L_bank_17 : decode method_3_code 17 = .ok (.astore 4, 2) := by decide +kernel
theorem d_L_bank_19 : decode method_3_code 19 = .ok (.iconst 2, 1) := by decide +kernel
theorem d_L_bank_20 : decode method_3_code 20 = .ok (.ireturn, 1) := by decide +kernel
theorem d_L_bank_21 : decode method_3_code 21 = .ok (.astore 4, 2) := by decide +kernel
theorem d_L_bank_23 : decode method_3_code 23 = .ok (.iconst 3, 1) := by decide +kernel
theorem d_L_bank_24 : decode method_3_code 24 = .ok (.ireturn, 1) := by decide +kernel
theorem d_L_bank_25 : decode method_3_code 25 = .ok (.astore 4, 2) := by decide +kernel
theorem d_L_bank_27 : decode method_3_code 27 = .ok (.iconst 4, 1) := by decide +kernel
theorem d_L_bank_28 : decode method_3_code 28 = .ok (.ireturn, 1) := by decide +kernel
theorem d_L_bank_29 : decode method_3_code 29 = .ok (.iconst 0, 1) := by decide +kernel
theorem d_L_bank_30 : decode method_3_code 30 = .ok (.ireturn, 1) := by decide +kernel
theorem d_L_buy_0 : decode method_4_code 0 = .ok (.aload_n 2, 1) := by decide +kernel
theorem d_L_buy_1 : decode method_4_code 1 = .ok (.iconst 0, 1) := by decide +kernel
theorem d_L_buy_2 : decode method_4_code 2 = .ok (.aload_n 0, 1) := by decide +kernel
theorem d_L_buy_3 : decode method_4_code 3 = .ok (.iload_n 1, 1) := by decide +kernel
theorem d_L_buy_4 : decode method_4_code 4 = .ok (.invokevirtual 21, 3) := by decide +kernel
theorem d_L_buy_7 : decode method_4_code 7 = .ok (.i2l, 1) := by decide +kernel
theorem d_L_buy_8 : decode method_4_code 8 = .ok (.lastore, 1) := by decide +kernel
theorem d_L_buy_9 : decode method_4_code 9 = .ok (.goto 12, 3) := by decide +kernel
theorem d_L_buy_12 : decode method_4_code 12 = .ok (.astore_n 3, 1) := by decide +kernel
theorem d_L_buy_13 : decode method_4_code 13 = .ok (.iconst 1, 1) := by decide +kernel
theorem d_L_buy_14 : decode method_4_code 14 = .ok (.ireturn, 1) := by decide +kernel
theorem d_L_buy_15 : decode method_4_code 15 = .ok (.astore_n 3, 1) := by decide +kernel
theorem d_L_buy_16 : decode method_4_code 16 = .ok (.iconst 2, 1) := by decide +kernel
theorem d_L_buy_17 : decode method_4_code 17 = .ok (.ireturn, 1) := by decide +kernel
theorem d_L_buy_18 : decode method_4_code 18 = .ok (.astore_n 3, 1) := by decide +kernel
theorem d_L_buy_19 : decode method_4_code 19 = .ok (.iconst 3, 1) := by decide +kernel
theorem d_L_buy_20 : decode method_4_code 20 = .ok (.ireturn, 1) := by decide +kernel
theorem d_L_buy_21 : decode method_4_code 21 = .ok (.iconst 0, 1) := by decide +kernel
theorem d_L_buy_22 : decode method_4_code 22 = .ok (.ireturn, 1) := by decide +kernel
theorem d_L_buyRun_0 : decode method_5_code 0 = .ok (.aload_n 3, 1) := by decide +kernel
theorem d_L_buyRun_1 : decode method_5_code 1 = .ok (.iconst 0, 1) := by decide +kernel
theorem d_L_buyRun_2 : decode method_5_code 2 = .ok (.aload_n 0, 1) := by decide +kernel
theorem d_L_buyRun_3 : decode method_5_code 3 = .ok (.iload_n 1, 1) := by decide +kernel
theorem d_L_buyRun_4 : decode method_5_code 4 = .ok (.iload_n 2, 1) := by decide +kernel
theorem d_L_buyRun_5 : decode method_5_code 5 = .ok (.invokevirtual 25, 3) := by decide +kernel
theorem d_L_buyRun_8 : decode method_5_code 8 = .ok (.i2l, 1) := by decide +kernel
theorem d_L_buyRun_9 : decode method_5_code 9 = .ok (.lastore, 1) := by decide +kernel
theorem d_L_buyRun_10 : decode method_5_code 10 = .ok (.goto 19, 3) := by decide +kernel
theorem d_L_buyRun_13 : decode method_5_code 13 = .ok (.astore 4, 2) := by decide +kernel
theorem d_L_buyRun_15 : decode method_5_code 15 = .ok (.iconst 1, 1) := by decide +kernel
theorem d_L_buyRun_16 : decode method_5_code 16 = .ok (.ireturn, 1) := by decide +kernel
theorem d_L_buyRun_17 : decode method_5_code 17 = .ok (.astore 4, 2) := by decide +kernel
theorem d_L_buyRun_19 : decode method_5_code 19 = .ok (.iconst 2, 1) := by decide +kernel
theorem d_L_buyRun_20 : decode method_5_code 20 = .ok (.ireturn, 1) := by decide +kernel
theorem d_L_buyRun_21 : decode method_5_code 21 = .ok (.astore 4, 2) := by decide +kernel
theorem d_L_buyRun_23 : decode method_5_code 23 = .ok (.iconst 3, 1) := by decide +kernel
theorem d_L_buyRun_24 : decode method_5_code 24 = .ok (.ireturn, 1) := by decide +kernel
theorem d_L_buyRun_25 : decode method_5_code 25 = .ok (.astore 4, 2) := by decide +kernel
theorem d_L_buyRun_27 : decode method_5_code 27 = .ok (.iconst 4, 1) := by decide +kernel
theorem d_L_buyRun_28 : decode method_5_code 28 = .ok (.ireturn, 1) := by decide +kernel
theorem d_L_buyRun_29 : decode method_5_code 29 = .ok (.iconst 0, 1) := by decide +kernel
theorem d_L_buyRun_30 : decode method_5_code 30 = .ok (.ireturn, 1) := by decide +kernel
theorem d_L_runKey_0 : decode method_6_code 0 = .ok (.aload_n 3, 1) := by decide +kernel
theorem d_L_runKey_1 : decode method_6_code 1 = .ok (.iconst 0, 1) := by decide +kernel
theorem d_L_runKey_2 : decode method_6_code 2 = .ok (.aload_n 0, 1) := by decide +kernel
theorem d_L_runKey_3 : decode method_6_code 3 = .ok (.iload_n 1, 1) := by decide +kernel
theorem d_L_runKey_4 : decode method_6_code 4 = .ok (.iload_n 2, 1) := by decide +kernel
theorem d_L_runKey_5 : decode method_6_code 5 = .ok (.invokevirtual 28, 3) := by decide +kernel
theorem d_L_runKey_8 : decode method_6_code 8 = .ok (.i2l, 1) := by decide +kernel
theorem d_L_runKey_9 : decode method_6_code 9 = .ok (.lastore, 1) := by decide +kernel
theorem d_L_runKey_10 : decode method_6_code 10 = .ok (.goto 11, 3) := by decide +kernel
theorem d_L_runKey_13 : decode method_6_code 13 = .ok (.astore 4, 2) := by decide +kernel
theorem d_L_runKey_15 : decode method_6_code 15 = .ok (.iconst 1, 1) := by decide +kernel
theorem d_L_runKey_16 : decode method_6_code 16 = .ok (.ireturn, 1) := by decide +kernel
theorem d_L_runKey_17 : decode method_6_code 17 = .ok (.astore 4, 2) := by decide +kernel
theorem d_L_runKey_19 : decode method_6_code 19 = .ok (.iconst 2, 1) := by decide +kernel
theorem d_L_runKey_20 : decode method_6_code 20 = .ok (.ireturn, 1) := by decide +kernel
theorem d_L_runKey_21 : decode method_6_code 21 = .ok (.iconst 0, 1) := by decide +kernel
theorem d_L_runKey_22 : decode method_6_code 22 = .ok (.ireturn, 1) := by decide +kernel
theorem d_L_sell_0 : decode method_7_code 0 = .ok (.aload_n 2, 1) := by decide +kernel
theorem d_L_sell_1 : decode method_7_code 1 = .ok (.iconst 0, 1) := by decide +kernel
theorem d_L_sell_2 : decode method_7_code 2 = .ok (.aload_n 0, 1) := by decide +kernel
theorem d_L_sell_3 : decode method_7_code 3 = .ok (.iload_n 1, 1) := by decide +kernel
theorem d_L_sell_4 : decode method_7_code 4 = .ok (.invokevirtual 33, 3) := by decide +kernel
theorem d_L_sell_7 : decode method_7_code 7 = .ok (.i2l, 1) := by decide +kernel
theorem d_L_sell_8 : decode method_7_code 8 = .ok (.lastore, 1) := by decide +kernel
theorem d_L_sell_9 : decode method_7_code 9 = .ok (.goto 9, 3) := by decide +kernel
theorem d_L_sell_12 : decode method_7_code 12 = .ok (.astore_n 3, 1) := by decide +kernel
theorem d_L_sell_13 : decode method_7_code 13 = .ok (.iconst 1, 1) := by decide +kernel
theorem d_L_sell_14 : decode method_7_code 14 = .ok (.ireturn, 1) := by decide +kernel
theorem d_L_sell_15 : decode method_7_code 15 = .ok (.astore_n 3, 1) := by decide +kernel
theorem d_L_sell_16 : decode method_7_code 16 = .ok (.iconst 2, 1) := by decide +kernel
theorem d_L_sell_17 : decode method_7_code 17 = .ok (.ireturn, 1) := by decide +kernel
theorem d_L_sell_18 : decode method_7_code 18 = .ok (.iconst 0, 1) := by decide +kernel
theorem d_L_sell_19 : decode method_7_code 19 = .ok (.ireturn, 1) := by decide +kernel
theorem d_L_weak_0 : decode method_8_code 0 = .ok (.aload_n 2, 1) := by decide +kernel
theorem d_L_weak_1 : decode method_8_code 1 = .ok (.iconst 0, 1) := by decide +kernel
theorem d_L_weak_2 : decode method_8_code 2 = .ok (.aload_n 0, 1) := by decide +kernel
theorem d_L_weak_3 : decode method_8_code 3 = .ok (.iload_n 1, 1) := by decide +kernel
theorem d_L_weak_4 : decode method_8_code 4 = .ok (.invokevirtual 36, 3) := by decide +kernel
theorem d_L_weak_7 : decode method_8_code 7 = .ok (.i2l, 1) := by decide +kernel
theorem d_L_weak_8 : decode method_8_code 8 = .ok (.lastore, 1) := by decide +kernel
theorem d_L_weak_9 : decode method_8_code 9 = .ok (.goto 6, 3) := by decide +kernel
theorem d_L_weak_12 : decode method_8_code 12 = .ok (.astore_n 3, 1) := by decide +kernel
theorem d_L_weak_13 : decode method_8_code 13 = .ok (.iconst 1, 1) := by decide +kernel
theorem d_L_weak_14 : decode method_8_code 14 = .ok (.ireturn, 1) := by decide +kernel
theorem d_L_weak_15 : decode method_8_code 15 = .ok (.iconst 0, 1) := by decide +kernel
theorem d_L_weak_16 : decode method_8_code 16 = .ok (.ireturn, 1) := by decide +kernel
theorem d_L_read_0 : decode method_9_code 0 = .ok (.aload_n 3, 1) := by decide +kernel
theorem d_L_read_1 : decode method_9_code 1 = .ok (.iconst 0, 1) := by decide +kernel
theorem d_L_read_2 : decode method_9_code 2 = .ok (.aload_n 0, 1) := by decide +kernel
theorem d_L_read_3 : decode method_9_code 3 = .ok (.iload_n 1, 1) := by decide +kernel
theorem d_L_read_4 : decode method_9_code 4 = .ok (.iload_n 2, 1) := by decide +kernel
theorem d_L_read_5 : decode method_9_code 5 = .ok (.invokevirtual 39, 3) := by decide +kernel
theorem d_L_read_8 : decode method_9_code 8 = .ok (.i2l, 1) := by decide +kernel
theorem d_L_read_9 : decode method_9_code 9 = .ok (.lastore, 1) := by decide +kernel
theorem d_L_read_10 : decode method_9_code 10 = .ok (.goto 11, 3) := by decide +kernel
theorem d_L_read_13 : decode method_9_code 13 = .ok (.astore 4, 2) := by decide +kernel
theorem d_L_read_15 : decode method_9_code 15 = .ok (.iconst 1, 1) := by decide +kernel
theorem d_L_read_16 : decode method_9_code 16 = .ok (.ireturn, 1) := by decide +kernel
theorem d_L_read_17 : decode method_9_code 17 = .ok (.astore 4, 2) := by decide +kernel
theorem d_L_read_19 : decode method_9_code 19 = .ok (.iconst 2, 1) := by decide +kernel
theorem d_L_read_20 : decode method_9_code 20 = .ok (.ireturn, 1) := by decide +kernel
theorem d_L_read_21 : decode method_9_code 21 = .ok (.iconst 0, 1) := by decide +kernel
theorem d_L_read_22 : decode method_9_code 22 = .ok (.ireturn, 1) := by decide +kernel
theorem d_L_write_0 : decode method_10_code 0 = .ok (.aload 4, 2) := by decide +kernel
theorem d_L_write_2 : decode method_10_code 2 = .ok (.iconst 0, 1) := by decide +kernel
theorem d_L_write_3 : decode method_10_code 3 = .ok (.aload_n 0, 1) := by decide +kernel
theorem d_L_write_4 : decode method_10_code 4 = .ok (.iload_n 1, 1) := by decide +kernel
theorem d_L_write_5 : decode method_10_code 5 = .ok (.iload_n 2, 1) := by decide +kernel
theorem d_L_write_6 : decode method_10_code 6 = .ok (.iload_n 3, 1) := by decide +kernel
theorem d_L_write_7 : decode method_10_code 7 = .ok (.invokevirtual 42, 3) := by decide +kernel
theorem d_L_write_10 : decode method_10_code 10 = .ok (.i2l, 1) := by decide +kernel
theorem d_L_write_11 : decode method_10_code 11 = .ok (.lastore, 1) := by decide +kernel
theorem d_L_write_12 : decode method_10_code 12 = .ok (.goto 15, 3) := by decide +kernel
theorem d_L_write_15 : decode method_10_code 15 = .ok (.astore 5, 2) := by decide +kernel
theorem d_L_write_17 : decode method_10_code 17 = .ok (.iconst 1, 1) := by decide +kernel
theorem d_L_write_18 : decode method_10_code 18 = .ok (.ireturn, 1) := by decide +kernel
theorem d_L_write_19 : decode method_10_code 19 = .ok (.astore 5, 2) := by decide +kernel
theorem d_L_write_21 : decode method_10_code 21 = .ok (.iconst 2, 1) := by decide +kernel
theorem d_L_write_22 : decode method_10_code 22 = .ok (.ireturn, 1) := by decide +kernel
theorem d_L_write_23 : decode method_10_code 23 = .ok (.astore 5, 2) := by decide +kernel
theorem d_L_write_25 : decode method_10_code 25 = .ok (.iconst 3, 1) := by decide +kernel
theorem d_L_write_26 : decode method_10_code 26 = .ok (.ireturn, 1) := by decide +kernel
theorem d_L_write_27 : decode method_10_code 27 = .ok (.iconst 0, 1) := by decide +kernel
theorem d_L_write_28 : decode method_10_code 28 = .ok (.ireturn, 1) := by decide +kernel
theorem d_L_move_0 : decode method_11_code 0 = .ok (.aload_n 3, 1) := by decide +kernel
theorem d_L_move_1 : decode method_11_code 1 = .ok (.iconst 0, 1) := by decide +kernel
theorem d_L_move_2 : decode method_11_code 2 = .ok (.aload_n 0, 1) := by decide +kernel
theorem d_L_move_3 : decode method_11_code 3 = .ok (.iload_n 1, 1) := by decide +kernel
theorem d_L_move_4 : decode method_11_code 4 = .ok (.iload_n 2, 1) := by decide +kernel
theorem d_L_move_5 : decode method_11_code 5 = .ok (.invokevirtual 46, 3) := by decide +kernel
theorem d_L_move_8 : decode method_11_code 8 = .ok (.i2l, 1) := by decide +kernel
theorem d_L_move_9 : decode method_11_code 9 = .ok (.lastore, 1) := by decide +kernel
theorem d_L_move_10 : decode method_11_code 10 = .ok (.goto 23, 3) := by decide +kernel
theorem d_L_move_13 : decode method_11_code 13 = .ok (.astore 4, 2) := by decide +kernel
theorem d_L_move_15 : decode method_11_code 15 = .ok (.iconst 1, 1) := by decide +kernel
theorem d_L_move_16 : decode method_11_code 16 = .ok (.ireturn, 1) := by decide +kernel
theorem d_L_move_17 : decode method_11_code 17 = .ok (.astore 4, 2) := by decide +kernel
theorem d_L_move_19 : decode method_11_code 19 = .ok (.iconst 2, 1) := by decide +kernel
theorem d_L_move_20 : decode method_11_code 20 = .ok (.ireturn, 1) := by decide +kernel
theorem d_L_move_21 : decode method_11_code 21 = .ok (.astore 4, 2) := by decide +kernel
theorem d_L_move_23 : decode method_11_code 23 = .ok (.iconst 3, 1) := by decide +kernel
theorem d_L_move_24 : decode method_11_code 24 = .ok (.ireturn, 1) := by decide +kernel
theorem d_L_move_25 : decode method_11_code 25 = .ok (.astore 4, 2) := by decide +kernel
theorem d_L_move_27 : decode method_11_code 27 = .ok (.iconst 4, 1) := by decide +kernel
theorem d_L_move_28 : decode method_11_code 28 = .ok (.ireturn, 1) := by decide +kernel
theorem d_L_move_29 : decode method_11_code 29 = .ok (.astore 4, 2) := by decide +kernel
theorem d_L_move_31 : decode method_11_code 31 = .ok (.iconst 5, 1) := by decide +kernel
theorem d_L_move_32 : decode method_11_code 32 = .ok (.ireturn, 1) := by decide +kernel
theorem d_L_move_33 : decode method_11_code 33 = .ok (.iconst 0, 1) := by decide +kernel
theorem d_L_move_34 : decode method_11_code 34 = .ok (.ireturn, 1) := by decide +kernel
theorem d_L_limit_0 : decode method_12_code 0 = .ok (.aload_n 3, 1) := by decide +kernel
theorem d_L_limit_1 : decode method_12_code 1 = .ok (.iconst 0, 1) := by decide +kernel
theorem d_L_limit_2 : decode method_12_code 2 = .ok (.aload_n 0, 1) := by decide +kernel
theorem d_L_limit_3 : decode method_12_code 3 = .ok (.iload_n 1, 1) := by decide +kernel
theorem d_L_limit_4 : decode method_12_code 4 = .ok (.iload_n 2, 1) := by decide +kernel
theorem d_L_limit_5 : decode method_12_code 5 = .ok (.invokevirtual 49, 3) := by decide +kernel
theorem d_L_limit_8 : decode method_12_code 8 = .ok (.i2l, 1) := by decide +kernel
theorem d_L_limit_9 : decode method_12_code 9 = .ok (.lastore, 1) := by decide +kernel
theorem d_L_limit_10 : decode method_12_code 10 = .ok (.goto 15, 3) := by decide +kernel
theorem d_L_limit_13 : decode method_12_code 13 = .ok (.astore 4, 2) := by decide +kernel
theorem d_L_limit_15 : decode method_12_code 15 = .ok (.iconst 1, 1) := by decide +kernel
theorem d_L_limit_16 : decode method_12_code 16 = .ok (.ireturn, 1) := by decide +kernel
theorem d_L_limit_17 : decode method_12_code 17 = .ok (.astore 4, 2) := by decide +kernel
theorem d_L_limit_19 : decode method_12_code 19 = .ok (.iconst 2, 1) := by decide +kernel
theorem d_L_limit_20 : decode method_12_code 20 = .ok (.ireturn, 1) := by decide +kernel
theorem d_L_limit_21 : decode method_12_code 21 = .ok (.astore 4, 2) := by decide +kernel
theorem d_L_limit_23 : decode method_12_code 23 = .ok (.iconst 3, 1) := by decide +kernel
theorem d_L_limit_24 : decode method_12_code 24 = .ok (.ireturn, 1) := by decide +kernel
theorem d_L_limit_25 : decode method_12_code 25 = .ok (.iconst 0, 1) := by decide +kernel
theorem d_L_limit_26 : decode method_12_code 26 = .ok (.ireturn, 1) := by decide +kernel
theorem d_L_reserve_0 : decode method_13_code 0 = .ok (.aload_n 3, 1) := by decide +kernel
theorem d_L_reserve_1 : decode method_13_code 1 = .ok (.iconst 0, 1) := by decide +kernel
theorem d_L_reserve_2 : decode method_13_code 2 = .ok (.aload_n 0, 1) := by decide +kernel
theorem d_L_reserve_3 : decode method_13_code 3 = .ok (.iload_n 1, 1) := by decide +kernel
theorem d_L_reserve_4 : decode method_13_code 4 = .ok (.iload_n 2, 1) := by decide +kernel
theorem d_L_reserve_5 : decode method_13_code 5 = .ok (.invokevirtual 52, 3) := by decide +kernel
theorem d_L_reserve_8 : decode method_13_code 8 = .ok (.i2l, 1) := by decide +kernel
theorem d_L_reserve_9 : decode method_13_code 9 = .ok (.lastore, 1) := by decide +kernel
theorem d_L_reserve_10 : decode method_13_code 10 = .ok (.goto 19, 3) := by decide +kernel
theorem d_L_reserve_13 : decode method_13_code 13 = .ok (.astore 4, 2) := by decide +kernel
theorem d_L_reserve_15 : decode method_13_code 15 = .ok (.iconst 1, 1) := by decide +kernel
theorem d_L_reserve_16 : decode method_13_code 16 = .ok (.ireturn, 1) := by decide +kernel
theorem d_L_reserve_17 : decode method_13_code 17 = .ok (.astore 4, 2) := by decide +kernel
theorem d_L_reserve_19 : decode method_13_code 19 = .ok (.iconst 2, 1) := by decide +kernel
theorem d_L_reserve_20 : decode method_13_code 20 = .ok (.ireturn, 1) := by decide +kernel
theorem d_L_reserve_21 : decode method_13_code 21 = .ok (.astore 4, 2) := by decide +kernel
theorem d_L_reserve_23 : decode method_13_code 23 = .ok (.iconst 3, 1) := by decide +kernel
theorem d_L_reserve_24 : decode method_13_code 24 = .ok (.ireturn, 1) := by decide +kernel
theorem d_L_reserve_25 : decode method_13_code 25 = .ok (.astore 4, 2) := by decide +kernel
theorem d_L_reserve_27 : decode method_13_code 27 = .ok (.iconst 4, 1) := by decide +kernel
theorem d_L_reserve_28 : decode method_13_code 28 = .ok (.ireturn, 1) := by decide +kernel
theorem d_L_reserve_29 : decode method_13_code 29 = .ok (.iconst 0, 1) := by decide +kernel
theorem d_L_reserve_30 : decode method_13_code 30 = .ok (.ireturn, 1) := by decide +kernel
theorem d_L_unreserve_0 : decode method_14_code 0 = .ok (.aload_n 3, 1) := by decide +kernel
theorem d_L_unreserve_1 : decode method_14_code 1 = .ok (.iconst 0, 1) := by decide +kernel
theorem d_L_unreserve_2 : decode method_14_code 2 = .ok (.aload_n 0, 1) := by decide +kernel
theorem d_L_unreserve_3 : decode method_14_code 3 = .ok (.iload_n 1, 1) := by decide +kernel
theorem d_L_unreserve_4 : decode method_14_code 4 = .ok (.iload_n 2, 1) := by decide +kernel
theorem d_L_unreserve_5 : decode method_14_code 5 = .ok (.invokevirtual 55, 3) := by decide +kernel
theorem d_L_unreserve_8 : decode method_14_code 8 = .ok (.i2l, 1) := by decide +kernel
theorem d_L_unreserve_9 : decode method_14_code 9 = .ok (.lastore, 1) := by decide +kernel
theorem d_L_unreserve_10 : decode method_14_code 10 = .ok (.goto 11, 3) := by decide +kernel
theorem d_L_unreserve_13 : decode method_14_code 13 = .ok (.astore 4, 2) := by decide +kernel
theorem d_L_unreserve_15 : decode method_14_code 15 = .ok (.iconst 1, 1) := by decide +kernel
theorem d_L_unreserve_16 : decode method_14_code 16 = .ok (.ireturn, 1) := by decide +kernel
theorem d_L_unreserve_17 : decode method_14_code 17 = .ok (.astore 4, 2) := by decide +kernel
theorem d_L_unreserve_19 : decode method_14_code 19 = .ok (.iconst 2, 1) := by decide +kernel
theorem d_L_unreserve_20 : decode method_14_code 20 = .ok (.ireturn, 1) := by decide +kernel
theorem d_L_unreserve_21 : decode method_14_code 21 = .ok (.iconst 0, 1) := by decide +kernel
theorem d_L_unreserve_22 : decode method_14_code 22 = .ok (.ireturn, 1) := by decide +kernel
theorem d_L_freeze_0 : decode method_15_code 0 = .ok (.aload_n 3, 1) := by decide +kernel
theorem d_L_freeze_1 : decode method_15_code 1 = .ok (.iconst 0, 1) := by decide +kernel
theorem d_L_freeze_2 : decode method_15_code 2 = .ok (.aload_n 0, 1) := by decide +kernel
theorem d_L_freeze_3 : decode method_15_code 3 = .ok (.iload_n 1, 1) := by decide +kernel
theorem d_L_freeze_4 : decode method_15_code 4 = .ok (.iload_n 2, 1) := by decide +kernel
theorem d_L_freeze_5 : decode method_15_code 5 = .ok (.invokevirtual 58, 3) := by decide +kernel
theorem d_L_freeze_8 : decode method_15_code 8 = .ok (.ifCond .eq 7, 3) := by decide +kernel
theorem d_L_freeze_11 : decode method_15_code 11 = .ok (.lconst 1, 1) := by decide +kernel
theorem d_L_freeze_12 : decode method_15_code 12 = .ok (.goto 4, 3) := by decide +kernel
theorem d_L_freeze_15 : decode method_15_code 15 = .ok (.lconst 0, 1) := by decide +kernel
theorem d_L_freeze_16 : decode method_15_code 16 = .ok (.lastore, 1) := by decide +kernel
theorem d_L_freeze_17 : decode method_15_code 17 = .ok (.goto 15, 3) := by decide +kernel
theorem d_L_freeze_20 : decode method_15_code 20 = .ok (.astore 4, 2) := by decide +kernel
theorem d_L_freeze_22 : decode method_15_code 22 = .ok (.iconst 1, 1) := by decide +kernel
theorem d_L_freeze_23 : decode method_15_code 23 = .ok (.ireturn, 1) := by decide +kernel
theorem d_L_freeze_24 : decode method_15_code 24 = .ok (.astore 4, 2) := by decide +kernel
theorem d_L_freeze_26 : decode method_15_code 26 = .ok (.iconst 2, 1) := by decide +kernel
theorem d_L_freeze_27 : decode method_15_code 27 = .ok (.ireturn, 1) := by decide +kernel
theorem d_L_freeze_28 : decode method_15_code 28 = .ok (.astore 4, 2) := by decide +kernel
theorem d_L_freeze_30 : decode method_15_code 30 = .ok (.iconst 3, 1) := by decide +kernel
theorem d_L_freeze_31 : decode method_15_code 31 = .ok (.ireturn, 1) := by decide +kernel
theorem d_L_freeze_32 : decode method_15_code 32 = .ok (.iconst 0, 1) := by decide +kernel
theorem d_L_freeze_33 : decode method_15_code 33 = .ok (.ireturn, 1) := by decide +kernel
theorem d_L_destroy_0 : decode method_16_code 0 = .ok (.aload_n 2, 1) := by decide +kernel
theorem d_L_destroy_1 : decode method_16_code 1 = .ok (.iconst 0, 1) := by decide +kernel
theorem d_L_destroy_2 : decode method_16_code 2 = .ok (.aload_n 0, 1) := by decide +kernel
theorem d_L_destroy_3 : decode method_16_code 3 = .ok (.iload_n 1, 1) := by decide +kernel
theorem d_L_destroy_4 : decode method_16_code 4 = .ok (.invokevirtual 62, 3) := by decide +kernel
theorem d_L_destroy_7 : decode method_16_code 7 = .ok (.i2l, 1) := by decide +kernel
theorem d_L_destroy_8 : decode method_16_code 8 = .ok (.lastore, 1) := by decide +kernel
theorem d_L_destroy_9 : decode method_16_code 9 = .ok (.goto 12, 3) := by decide +kernel
theorem d_L_destroy_12 : decode method_16_code 12 = .ok (.astore_n 3, 1) := by decide +kernel
theorem d_L_destroy_13 : decode method_16_code 13 = .ok (.iconst 1, 1) := by decide +kernel
theorem d_L_destroy_14 : decode method_16_code 14 = .ok (.ireturn, 1) := by decide +kernel
theorem d_L_destroy_15 : decode method_16_code 15 = .ok (.astore_n 3, 1) := by decide +kernel
theorem d_L_destroy_16 : decode method_16_code 16 = .ok (.iconst 2, 1) := by decide +kernel
theorem d_L_destroy_17 : decode method_16_code 17 = .ok (.ireturn, 1) := by decide +kernel
theorem d_L_destroy_18 : decode method_16_code 18 = .ok (.astore_n 3, 1) := by decide +kernel
theorem d_L_destroy_19 : decode method_16_code 19 = .ok (.iconst 3, 1) := by decide +kernel
theorem d_L_destroy_20 : decode method_16_code 20 = .ok (.ireturn, 1) := by decide +kernel
theorem d_L_destroy_21 : decode method_16_code 21 = .ok (.iconst 0, 1) := by decide +kernel
theorem d_L_destroy_22 : decode method_16_code 22 = .ok (.ireturn, 1) := by decide +kernel
theorem d_L_work_0 : decode method_17_code 0 = .ok (.aload_n 2, 1) := by decide +kernel
theorem d_L_work_1 : decode method_17_code 1 = .ok (.iconst 0, 1) := by decide +kernel
theorem d_L_work_2 : decode method_17_code 2 = .ok (.aload_n 0, 1) := by decide +kernel
theorem d_L_work_3 : decode method_17_code 3 = .ok (.iload_n 1, 1) := by decide +kernel
theorem d_L_work_4 : decode method_17_code 4 = .ok (.invokevirtual 65, 3) := by decide +kernel
theorem d_L_work_7 : decode method_17_code 7 = .ok (.i2l, 1) := by decide +kernel
theorem d_L_work_8 : decode method_17_code 8 = .ok (.lastore, 1) := by decide +kernel
theorem d_L_work_9 : decode method_17_code 9 = .ok (.goto 6, 3) := by decide +kernel
theorem d_L_work_12 : decode method_17_code 12 = .ok (.astore_n 3, 1) := by decide +kernel
theorem d_L_work_13 : decode method_17_code 13 = .ok (.iconst 1, 1) := by decide +kernel
theorem d_L_work_14 : decode method_17_code 14 = .ok (.ireturn, 1) := by decide +kernel
theorem d_L_work_15 : decode method_17_code 15 = .ok (.iconst 0, 1) := by decide +kernel
theorem d_L_work_16 : decode method_17_code 16 = .ok (.ireturn, 1) := by decide +kernel
theorem d_L_handUp_0 : decode method_18_code 0 = .ok (.aload_n 2, 1) := by decide +kernel
theorem d_L_handUp_1 : decode method_18_code 1 = .ok (.iconst 0, 1) := by decide +kernel
theorem d_L_handUp_2 : decode method_18_code 2 = .ok (.aload_n 0, 1) := by decide +kernel
theorem d_L_handUp_3 : decode method_18_code 3 = .ok (.iload_n 1, 1) := by decide +kernel
theorem d_L_handUp_4 : decode method_18_code 4 = .ok (.invokevirtual 68, 3) := by decide +kernel
theorem d_L_handUp_7 : decode method_18_code 7 = .ok (.i2l, 1) := by decide +kernel
theorem d_L_handUp_8 : decode method_18_code 8 = .ok (.lastore, 1) := by decide +kernel
theorem d_L_handUp_9 : decode method_18_code 9 = .ok (.goto 12, 3) := by decide +kernel
theorem d_L_handUp_12 : decode method_18_code 12 = .ok (.astore_n 3, 1) := by decide +kernel
theorem d_L_handUp_13 : decode method_18_code 13 = .ok (.iconst 1, 1) := by decide +kernel
theorem d_L_handUp_14 : decode method_18_code 14 = .ok (.ireturn, 1) := by decide +kernel
theorem d_L_handUp_15 : decode method_18_code 15 = .ok (.astore_n 3, 1) := by decide +kernel
theorem d_L_handUp_16 : decode method_18_code 16 = .ok (.iconst 2, 1) := by decide +kernel
theorem d_L_handUp_17 : decode method_18_code 17 = .ok (.ireturn, 1) := by decide +kernel
theorem d_L_handUp_18 : decode method_18_code 18 = .ok (.astore_n 3, 1) := by decide +kernel
theorem d_L_handUp_19 : decode method_18_code 19 = .ok (.iconst 3, 1) := by decide +kernel
theorem d_L_handUp_20 : decode method_18_code 20 = .ok (.ireturn, 1) := by decide +kernel
theorem d_L_handUp_21 : decode method_18_code 21 = .ok (.iconst 0, 1) := by decide +kernel
theorem d_L_handUp_22 : decode method_18_code 22 = .ok (.ireturn, 1) := by decide +kernel
theorem d_L_told_0 : decode method_19_code 0 = .ok (.aload_n 3, 1) := by decide +kernel
theorem d_L_told_1 : decode method_19_code 1 = .ok (.iconst 0, 1) := by decide +kernel
theorem d_L_told_2 : decode method_19_code 2 = .ok (.aload_n 0, 1) := by decide +kernel
theorem d_L_told_3 : decode method_19_code 3 = .ok (.iload_n 1, 1) := by decide +kernel
theorem d_L_told_4 : decode method_19_code 4 = .ok (.iload_n 2, 1) := by decide +kernel
theorem d_L_told_5 : decode method_19_code 5 = .ok (.invokevirtual 71, 3) := by decide +kernel
theorem d_L_told_8 : decode method_19_code 8 = .ok (.i2l, 1) := by decide +kernel
theorem d_L_told_9 : decode method_19_code 9 = .ok (.lastore, 1) := by decide +kernel
theorem d_L_told_10 : decode method_19_code 10 = .ok (.goto 11, 3) := by decide +kernel
theorem d_L_told_13 : decode method_19_code 13 = .ok (.astore 4, 2) := by decide +kernel
theorem d_L_told_15 : decode method_19_code 15 = .ok (.iconst 1, 1) := by decide +kernel
theorem d_L_told_16 : decode method_19_code 16 = .ok (.ireturn, 1) := by decide +kernel
theorem d_L_told_17 : decode method_19_code 17 = .ok (.astore 4, 2) := by decide +kernel
theorem d_L_told_19 : decode method_19_code 19 = .ok (.iconst 2, 1) := by decide +kernel
theorem d_L_told_20 : decode method_19_code 20 = .ok (.ireturn, 1) := by decide +kernel
theorem d_L_told_21 : decode method_19_code 21 = .ok (.iconst 0, 1) := by decide +kernel
theorem d_L_told_22 : decode method_19_code 22 = .ok (.ireturn, 1) := by decide +kernel
theorem d_L_page_0 : decode method_20_code 0 = .ok (.aload_n 3, 1) := by decide +kernel
theorem d_L_page_1 : decode method_20_code 1 = .ok (.iconst 0, 1) := by decide +kernel
theorem d_L_page_2 : decode method_20_code 2 = .ok (.aload_n 0, 1) := by decide +kernel
theorem d_L_page_3 : decode method_20_code 3 = .ok (.iload_n 1, 1) := by decide +kernel
theorem d_L_page_4 : decode method_20_code 4 = .ok (.iload_n 2, 1) := by decide +kernel
theorem d_L_page_5 : decode method_20_code 5 = .ok (.invokevirtual 74, 3) := by decide +kernel
theorem d_L_page_8 : decode method_20_code 8 = .ok (.i2l, 1) := by decide +kernel
theorem d_L_page_9 : decode method_20_code 9 = .ok (.lastore, 1) := by decide +kernel
theorem d_L_page_10 : decode method_20_code 10 = .ok (.goto 7, 3) := by decide +kernel
theorem d_L_page_13 : decode method_20_code 13 = .ok (.astore 4, 2) := by decide +kernel
theorem d_L_page_15 : decode method_20_code 15 = .ok (.iconst 1, 1) := by decide +kernel
theorem d_L_page_16 : decode method_20_code 16 = .ok (.ireturn, 1) := by decide +kernel
theorem d_L_page_17 : decode method_20_code 17 = .ok (.iconst 0, 1) := by decide +kernel
theorem d_L_page_18 : decode method_20_code 18 = .ok (.ireturn, 1) := by decide +kernel
theorem d_L_owner_0 : decode method_21_code 0 = .ok (.aload_n 2, 1) := by decide +kernel
theorem d_L_owner_1 : decode method_21_code 1 = .ok (.iconst 0, 1) := by decide +kernel
theorem d_L_owner_2 : decode method_21_code 2 = .ok (.aload_n 0, 1) := by decide +kernel
theorem d_L_owner_3 : decode method_21_code 3 = .ok (.iload_n 1, 1) := by decide +kernel
theorem d_L_owner_4 : decode method_21_code 4 = .ok (.invokevirtual 77, 3) := by decide +kernel
theorem d_L_owner_7 : decode method_21_code 7 = .ok (.i2l, 1) := by decide +kernel
theorem d_L_owner_8 : decode method_21_code 8 = .ok (.lastore, 1) := by decide +kernel
theorem d_L_owner_9 : decode method_21_code 9 = .ok (.goto 6, 3) := by decide +kernel
theorem d_L_owner_12 : decode method_21_code 12 = .ok (.astore_n 3, 1) := by decide +kernel
theorem d_L_owner_13 : decode method_21_code 13 = .ok (.iconst 1, 1) := by decide +kernel
theorem d_L_owner_14 : decode method_21_code 14 = .ok (.ireturn, 1) := by decide +kernel
theorem d_L_owner_15 : decode method_21_code 15 = .ok (.iconst 0, 1) := by decide +kernel
theorem d_L_owner_16 : decode method_21_code 16 = .ok (.ireturn, 1) := by decide +kernel
end
section
theorem d_L_law_0 : decode code 0 = .ok (.new 8, 3) := by decide +kernel
theorem d_L_law_3 : decode code 3 = .ok (.dup, 1) := by decide +kernel
theorem d_L_law_4 : decode code 4 = .ok (.invokespecial 80, 3) := by decide +kernel
theorem d_L_law_7 : decode code 7 = .ok (.astore_n 1, 1) := by decide +kernel
theorem d_L_law_8 : decode code 8 = .ok (.new 81, 3) := by decide +kernel
theorem d_L_law_11 : decode code 11 = .ok (.dup, 1) := by decide +kernel
theorem d_L_law_12 : decode code 12 = .ok (.invokespecial 83, 3) := by decide +kernel
theorem d_L_law_15 : decode code 15 = .ok (.astore_n 2, 1) := by decide +kernel
theorem d_L_law_16 : decode code 16 = .ok (.iconst 1, 1) := by decide +kernel
theorem d_L_law_17 : decode code 17 = .ok (.newarray .long, 2) := by decide +kernel
theorem d_L_law_19 : decode code 19 = .ok (.astore_n 3, 1) := by decide +kernel
theorem d_L_law_20 : decode code 20 = .ok (.iconst 0, 1) := by decide +kernel
theorem d_L_law_21 : decode code 21 = .ok (.istore 4, 2) := by decide +kernel
theorem d_L_law_23 : decode code 23 = .ok (.iload 4, 2) := by decide +kernel
theorem d_L_law_25 : decode code 25 = .ok (.aload_n 0, 1) := by decide +kernel
theorem d_L_law_26 : decode code 26 = .ok (.arraylength, 1) := by decide +kernel
theorem d_L_law_27 : decode code 27 = .ok (.iconst 4, 1) := by decide +kernel
theorem d_L_law_28 : decode code 28 = .ok (.isub, 1) := by decide +kernel
theorem d_L_law_29 : decode code 29 = .ok (.if_icmp .gt 1440, 3) := by decide +kernel
theorem d_L_law_32 : decode code 32 = .ok (.aload_n 0, 1) := by decide +kernel
theorem d_L_law_33 : decode code 33 = .ok (.iload 4, 2) := by decide +kernel
theorem d_L_law_35 : decode code 35 = .ok (.iaload, 1) := by decide +kernel
theorem d_L_law_36 : decode code 36 = .ok (.bipush 31, 2) := by decide +kernel
theorem d_L_law_38 : decode code 38 = .ok (.iand, 1) := by decide +kernel
theorem d_L_law_39 : decode code 39 = .ok (.tableswitch 1424 0 22 #[105, 173, 229, 297, 365, 421, 477, 545, 625, 693, 761, 829, 897, 988, 1044, 1100, 1156, 1224, 1292, 1348, 1373, 1386, 1411], 105) := by decide +kernel
theorem d_L_law_144 : decode code 144 = .ok (.aload_n 1, 1) := by decide +kernel
theorem d_L_law_145 : decode code 145 = .ok (.aload_n 0, 1) := by decide +kernel
theorem d_L_law_146 : decode code 146 = .ok (.iload 4, 2) := by decide +kernel
theorem d_L_law_148 : decode code 148 = .ok (.iconst 1, 1) := by decide +kernel
theorem d_L_law_149 : decode code 149 = .ok (.iadd, 1) := by decide +kernel
theorem d_L_law_150 : decode code 150 = .ok (.iaload, 1) := by decide +kernel
theorem d_L_law_151 : decode code 151 = .ok (.aload_n 0, 1) := by decide +kernel
theorem d_L_law_152 : decode code 152 = .ok (.iload 4, 2) := by decide +kernel
theorem d_L_law_154 : decode code 154 = .ok (.iconst 2, 1) := by decide +kernel
theorem d_L_law_155 : decode code 155 = .ok (.iadd, 1) := by decide +kernel
theorem d_L_law_156 : decode code 156 = .ok (.iaload, 1) := by decide +kernel
theorem d_L_law_157 : decode code 157 = .ok (.aload_n 3, 1) := by decide +kernel
theorem d_L_law_158 : decode code 158 = .ok (.invokestatic 84, 3) := by decide +kernel
theorem d_L_law_161 : decode code 161 = .ok (.istore 5, 2) := by decide +kernel
theorem d_L_law_163 : decode code 163 = .ok (.aload_n 2, 1) := by decide +kernel
theorem d_L_law_164 : decode code 164 = .ok (.aload_n 0, 1) := by decide +kernel
theorem d_L_law_165 : decode code 165 = .ok (.iload 4, 2) := by decide +kernel
theorem d_L_law_167 : decode code 167 = .ok (.iconst 1, 1) := by decide +kernel
theorem d_L_law_168 : decode code 168 = .ok (.iadd, 1) := by decide +kernel
theorem d_L_law_169 : decode code 169 = .ok (.iaload, 1) := by decide +kernel
theorem d_L_law_170 : decode code 170 = .ok (.aload_n 0, 1) := by decide +kernel
theorem d_L_law_171 : decode code 171 = .ok (.iload 4, 2) := by decide +kernel
theorem d_L_law_173 : decode code 173 = .ok (.iconst 2, 1) := by decide +kernel
theorem d_L_law_174 : decode code 174 = .ok (.iadd, 1) := by decide +kernel
theorem d_L_law_175 : decode code 175 = .ok (.iaload, 1) := by decide +kernel
theorem d_L_law_176 : decode code 176 = .ok (.invokevirtual 89, 3) := by decide +kernel
theorem d_L_law_179 : decode code 179 = .ok (.istore 6, 2) := by decide +kernel
theorem d_L_law_181 : decode code 181 = .ok (.aload_n 2, 1) := by decide +kernel
theorem d_L_law_182 : decode code 182 = .ok (.invokevirtual 90, 3) := by decide +kernel
theorem d_L_law_185 : decode code 185 = .ok (.iload 5, 2) := by decide +kernel
theorem d_L_law_187 : decode code 187 = .ok (.if_icmp .eq 5, 3) := by decide +kernel
theorem d_L_law_190 : decode code 190 = .ok (.iconst 0, 1) := by decide +kernel
theorem d_L_law_191 : decode code 191 = .ok (.ireturn, 1) := by decide +kernel
theorem d_L_law_192 : decode code 192 = .ok (.iload 5, 2) := by decide +kernel
theorem d_L_law_194 : decode code 194 = .ok (.ifCond .ne 15, 3) := by decide +kernel
theorem d_L_law_197 : decode code 197 = .ok (.aload_n 3, 1) := by decide +kernel
theorem d_L_law_198 : decode code 198 = .ok (.iconst 0, 1) := by decide +kernel
theorem d_L_law_199 : decode code 199 = .ok (.laload, 1) := by decide +kernel
theorem d_L_law_200 : decode code 200 = .ok (.iload 6, 2) := by decide +kernel
theorem d_L_law_202 : decode code 202 = .ok (.i2l, 1) := by decide +kernel
theorem d_L_law_203 : decode code 203 = .ok (.lcmp, 1) := by decide +kernel
theorem d_L_law_204 : decode code 204 = .ok (.ifCond .eq 5, 3) := by decide +kernel
theorem d_L_law_207 : decode code 207 = .ok (.iconst 0, 1) := by decide +kernel
theorem d_L_law_208 : decode code 208 = .ok (.ireturn, 1) := by decide +kernel
theorem d_L_law_209 : decode code 209 = .ok (.goto 1254, 3) := by decide +kernel
theorem d_L_law_212 : decode code 212 = .ok (.aload_n 1, 1) := by decide +kernel
theorem d_L_law_213 : decode code 213 = .ok (.aload_n 0, 1) := by decide +kernel
theorem d_L_law_214 : decode code 214 = .ok (.iload 4, 2) := by decide +kernel
theorem d_L_law_216 : decode code 216 = .ok (.iconst 1, 1) := by decide +kernel
theorem d_L_law_217 : decode code 217 = .ok (.iadd, 1) := by decide +kernel
theorem d_L_law_218 : decode code 218 = .ok (.iaload, 1) := by decide +kernel
theorem d_L_law_219 : decode code 219 = .ok (.aload_n 3, 1) := by decide +kernel
theorem d_L_law_220 : decode code 220 = .ok (.invokestatic 94, 3) := by decide +kernel
theorem d_L_law_223 : decode code 223 = .ok (.istore 5, 2) := by decide +kernel
theorem d_L_law_225 : decode code 225 = .ok (.aload_n 2, 1) := by decide +kernel
theorem d_L_law_226 : decode code 226 = .ok (.aload_n 0, 1) := by decide +kernel
theorem d_L_law_227 : decode code 227 = .ok (.iload 4, 2) := by decide +kernel
theorem d_L_law_229 : decode code 229 = .ok (.iconst 1, 1) := by decide +kernel
theorem d_L_law_230 : decode code 230 = .ok (.iadd, 1) := by decide +kernel
theorem d_L_law_231 : decode code 231 = .ok (.iaload, 1) := by decide +kernel
theorem d_L_law_232 : decode code 232 = .ok (.invokevirtual 97, 3) := by decide +kernel
theorem d_L_law_235 : decode code 235 = .ok (.istore 6, 2) := by decide +kernel
theorem d_L_law_237 : decode code 237 = .ok (.aload_n 2, 1) := by decide +kernel
theorem d_L_law_238 : decode code 238 = .ok (.invokevirtual 90, 3) := by decide +kernel
theorem d_L_law_241 : decode code 241 = .ok (.iload 5, 2) := by decide +kernel
theorem d_L_law_243 : decode code 243 = .ok (.if_icmp .eq 5, 3) := by decide +kernel
theorem d_L_law_246 : decode code 246 = .ok (.iconst 0, 1) := by decide +kernel
theorem d_L_law_247 : decode code 247 = .ok (.ireturn, 1) := by decide +kernel
theorem d_L_law_248 : decode code 248 = .ok (.iload 5, 2) := by decide +kernel
theorem d_L_law_250 : decode code 250 = .ok (.ifCond .ne 15, 3) := by decide +kernel
theorem d_L_law_253 : decode code 253 = .ok (.aload_n 3, 1) := by decide +kernel
theorem d_L_law_254 : decode code 254 = .ok (.iconst 0, 1) := by decide +kernel
theorem d_L_law_255 : decode code 255 = .ok (.laload, 1) := by decide +kernel
theorem d_L_law_256 : decode code 256 = .ok (.iload 6, 2) := by decide +kernel
theorem d_L_law_258 : decode code 258 = .ok (.i2l, 1) := by decide +kernel
theorem d_L_law_259 : decode code 259 = .ok (.lcmp, 1) := by decide +kernel
theorem d_L_law_260 : decode code 260 = .ok (.ifCond .eq 5, 3) := by decide +kernel
theorem d_L_law_263 : decode code 263 = .ok (.iconst 0, 1) := by decide +kernel
theorem d_L_law_264 : decode code 264 = .ok (.ireturn, 1) := by decide +kernel
theorem d_L_law_265 : decode code 265 = .ok (.goto 1198, 3) := by decide +kernel
theorem d_L_law_268 : decode code 268 = .ok (.aload_n 1, 1) := by decide +kernel
theorem d_L_law_269 : decode code 269 = .ok (.aload_n 0, 1) := by decide +kernel
theorem d_L_law_270 : decode code 270 = .ok (.iload 4, 2) := by decide +kernel
theorem d_L_law_272 : decode code 272 = .ok (.iconst 1, 1) := by decide +kernel
theorem d_L_law_273 : decode code 273 = .ok (.iadd, 1) := by decide +kernel
theorem d_L_law_274 : decode code 274 = .ok (.iaload, 1) := by decide +kernel
theorem d_L_law_275 : decode code 275 = .ok (.aload_n 0, 1) := by decide +kernel
theorem d_L_law_276 : decode code 276 = .ok (.iload 4, 2) := by decide +kernel
theorem d_L_law_278 : decode code 278 = .ok (.iconst 2, 1) := by decide +kernel
theorem d_L_law_279 : decode code 279 = .ok (.iadd, 1) := by decide +kernel
theorem d_L_law_280 : decode code 280 = .ok (.iaload, 1) := by decide +kernel
theorem d_L_law_281 : decode code 281 = .ok (.aload_n 3, 1) := by decide +kernel
theorem d_L_law_282 : decode code 282 = .ok (.invokestatic 98, 3) := by decide +kernel
theorem d_L_law_285 : decode code 285 = .ok (.istore 5, 2) := by decide +kernel
theorem d_L_law_287 : decode code 287 = .ok (.aload_n 2, 1) := by decide +kernel
theorem d_L_law_288 : decode code 288 = .ok (.aload_n 0, 1) := by decide +kernel
theorem d_L_law_289 : decode code 289 = .ok (.iload 4, 2) := by decide +kernel
theorem d_L_law_291 : decode code 291 = .ok (.iconst 1, 1) := by decide +kernel
theorem d_L_law_292 : decode code 292 = .ok (.iadd, 1) := by decide +kernel
theorem d_L_law_293 : decode code 293 = .ok (.iaload, 1) := by decide +kernel
theorem d_L_law_294 : decode code 294 = .ok (.aload_n 0, 1) := by decide +kernel
theorem d_L_law_295 : decode code 295 = .ok (.iload 4, 2) := by decide +kernel
theorem d_L_law_297 : decode code 297 = .ok (.iconst 2, 1) := by decide +kernel
theorem d_L_law_298 : decode code 298 = .ok (.iadd, 1) := by decide +kernel
theorem d_L_law_299 : decode code 299 = .ok (.iaload, 1) := by decide +kernel
theorem d_L_law_300 : decode code 300 = .ok (.invokevirtual 100, 3) := by decide +kernel
theorem d_L_law_303 : decode code 303 = .ok (.istore 6, 2) := by decide +kernel
theorem d_L_law_305 : decode code 305 = .ok (.aload_n 2, 1) := by decide +kernel
theorem d_L_law_306 : decode code 306 = .ok (.invokevirtual 90, 3) := by decide +kernel
theorem d_L_law_309 : decode code 309 = .ok (.iload 5, 2) := by decide +kernel
theorem d_L_law_311 : decode code 311 = .ok (.if_icmp .eq 5, 3) := by decide +kernel
theorem d_L_law_314 : decode code 314 = .ok (.iconst 0, 1) := by decide +kernel
theorem d_L_law_315 : decode code 315 = .ok (.ireturn, 1) := by decide +kernel
theorem d_L_law_316 : decode code 316 = .ok (.iload 5, 2) := by decide +kernel
theorem d_L_law_318 : decode code 318 = .ok (.ifCond .ne 15, 3) := by decide +kernel
theorem d_L_law_321 : decode code 321 = .ok (.aload_n 3, 1) := by decide +kernel
theorem d_L_law_322 : decode code 322 = .ok (.iconst 0, 1) := by decide +kernel
theorem d_L_law_323 : decode code 323 = .ok (.laload, 1) := by decide +kernel
theorem d_L_law_324 : decode code 324 = .ok (.iload 6, 2) := by decide +kernel
theorem d_L_law_326 : decode code 326 = .ok (.i2l, 1) := by decide +kernel
theorem d_L_law_327 : decode code 327 = .ok (.lcmp, 1) := by decide +kernel
theorem d_L_law_328 : decode code 328 = .ok (.ifCond .eq 5, 3) := by decide +kernel
theorem d_L_law_331 : decode code 331 = .ok (.iconst 0, 1) := by decide +kernel
theorem d_L_law_332 : decode code 332 = .ok (.ireturn, 1) := by decide +kernel
theorem d_L_law_333 : decode code 333 = .ok (.goto 1130, 3) := by decide +kernel
end
section
theorem d_L_law_336 : decode code 336 = .ok (.aload_n 1, 1) := by decide +kernel
theorem d_L_law_337 : decode code 337 = .ok (.aload_n 0, 1) := by decide +kernel
theorem d_L_law_338 : decode code 338 = .ok (.iload 4, 2) := by decide +kernel
theorem d_L_law_340 : decode code 340 = .ok (.iconst 1, 1) := by decide +kernel
theorem d_L_law_341 : decode code 341 = .ok (.iadd, 1) := by decide +kernel
theorem d_L_law_342 : decode code 342 = .ok (.iaload, 1) := by decide +kernel
theorem d_L_law_343 : decode code 343 = .ok (.aload_n 0, 1) := by decide +kernel
theorem d_L_law_344 : decode code 344 = .ok (.iload 4, 2) := by decide +kernel
theorem d_L_law_346 : decode code 346 = .ok (.iconst 2, 1) := by decide +kernel
theorem d_L_law_347 : decode code 347 = .ok (.iadd, 1) := by decide +kernel
theorem d_L_law_348 : decode code 348 = .ok (.iaload, 1) := by decide +kernel
theorem d_L_law_349 : decode code 349 = .ok (.aload_n 3, 1) := by decide +kernel
theorem d_L_law_350 : decode code 350 = .ok (.invokestatic 101, 3) := by decide +kernel
theorem d_L_law_353 : decode code 353 = .ok (.istore 5, 2) := by decide +kernel
theorem d_L_law_355 : decode code 355 = .ok (.aload_n 2, 1) := by decide +kernel
theorem d_L_law_356 : decode code 356 = .ok (.aload_n 0, 1) := by decide +kernel
theorem d_L_law_357 : decode code 357 = .ok (.iload 4, 2) := by decide +kernel
theorem d_L_law_359 : decode code 359 = .ok (.iconst 1, 1) := by decide +kernel
theorem d_L_law_360 : decode code 360 = .ok (.iadd, 1) := by decide +kernel
theorem d_L_law_361 : decode code 361 = .ok (.iaload, 1) := by decide +kernel
theorem d_L_law_362 : decode code 362 = .ok (.aload_n 0, 1) := by decide +kernel
theorem d_L_law_363 : decode code 363 = .ok (.iload 4, 2) := by decide +kernel
theorem d_L_law_365 : decode code 365 = .ok (.iconst 2, 1) := by decide +kernel
theorem d_L_law_366 : decode code 366 = .ok (.iadd, 1) := by decide +kernel
theorem d_L_law_367 : decode code 367 = .ok (.iaload, 1) := by decide +kernel
theorem d_L_law_368 : decode code 368 = .ok (.invokevirtual 103, 3) := by decide +kernel
theorem d_L_law_371 : decode code 371 = .ok (.istore 6, 2) := by decide +kernel
theorem d_L_law_373 : decode code 373 = .ok (.aload_n 2, 1) := by decide +kernel
theorem d_L_law_374 : decode code 374 = .ok (.invokevirtual 90, 3) := by decide +kernel
theorem d_L_law_377 : decode code 377 = .ok (.iload 5, 2) := by decide +kernel
theorem d_L_law_379 : decode code 379 = .ok (.if_icmp .eq 5, 3) := by decide +kernel
theorem d_L_law_382 : decode code 382 = .ok (.iconst 0, 1) := by decide +kernel
theorem d_L_law_383 : decode code 383 = .ok (.ireturn, 1) := by decide +kernel
theorem d_L_law_384 : decode code 384 = .ok (.iload 5, 2) := by decide +kernel
theorem d_L_law_386 : decode code 386 = .ok (.ifCond .ne 15, 3) := by decide +kernel
theorem d_L_law_389 : decode code 389 = .ok (.aload_n 3, 1) := by decide +kernel
theorem d_L_law_390 : decode code 390 = .ok (.iconst 0, 1) := by decide +kernel
theorem d_L_law_391 : decode code 391 = .ok (.laload, 1) := by decide +kernel
theorem d_L_law_392 : decode code 392 = .ok (.iload 6, 2) := by decide +kernel
theorem d_L_law_394 : decode code 394 = .ok (.i2l, 1) := by decide +kernel
theorem d_L_law_395 : decode code 395 = .ok (.lcmp, 1) := by decide +kernel
theorem d_L_law_396 : decode code 396 = .ok (.ifCond .eq 5, 3) := by decide +kernel
theorem d_L_law_399 : decode code 399 = .ok (.iconst 0, 1) := by decide +kernel
theorem d_L_law_400 : decode code 400 = .ok (.ireturn, 1) := by decide +kernel
theorem d_L_law_401 : decode code 401 = .ok (.goto 1062, 3) := by decide +kernel
theorem d_L_law_404 : decode code 404 = .ok (.aload_n 1, 1) := by decide +kernel
theorem d_L_law_405 : decode code 405 = .ok (.aload_n 0, 1) := by decide +kernel
theorem d_L_law_406 : decode code 406 = .ok (.iload 4, 2) := by decide +kernel
theorem d_L_law_408 : decode code 408 = .ok (.iconst 1, 1) := by decide +kernel
theorem d_L_law_409 : decode code 409 = .ok (.iadd, 1) := by decide +kernel
theorem d_L_law_410 : decode code 410 = .ok (.iaload, 1) := by decide +kernel
theorem d_L_law_411 : decode code 411 = .ok (.aload_n 3, 1) := by decide +kernel
theorem d_L_law_412 : decode code 412 = .ok (.invokestatic 104, 3) := by decide +kernel
theorem d_L_law_415 : decode code 415 = .ok (.istore 5, 2) := by decide +kernel
theorem d_L_law_417 : decode code 417 = .ok (.aload_n 2, 1) := by decide +kernel
theorem d_L_law_418 : decode code 418 = .ok (.aload_n 0, 1) := by decide +kernel
theorem d_L_law_419 : decode code 419 = .ok (.iload 4, 2) := by decide +kernel
theorem d_L_law_421 : decode code 421 = .ok (.iconst 1, 1) := by decide +kernel
theorem d_L_law_422 : decode code 422 = .ok (.iadd, 1) := by decide +kernel
theorem d_L_law_423 : decode code 423 = .ok (.iaload, 1) := by decide +kernel
theorem d_L_law_424 : decode code 424 = .ok (.invokevirtual 106, 3) := by decide +kernel
theorem d_L_law_427 : decode code 427 = .ok (.istore 6, 2) := by decide +kernel
theorem d_L_law_429 : decode code 429 = .ok (.aload_n 2, 1) := by decide +kernel
theorem d_L_law_430 : decode code 430 = .ok (.invokevirtual 90, 3) := by decide +kernel
theorem d_L_law_433 : decode code 433 = .ok (.iload 5, 2) := by decide +kernel
theorem d_L_law_435 : decode code 435 = .ok (.if_icmp .eq 5, 3) := by decide +kernel
theorem d_L_law_438 : decode code 438 = .ok (.iconst 0, 1) := by decide +kernel
theorem d_L_law_439 : decode code 439 = .ok (.ireturn, 1) := by decide +kernel
theorem d_L_law_440 : decode code 440 = .ok (.iload 5, 2) := by decide +kernel
theorem d_L_law_442 : decode code 442 = .ok (.ifCond .ne 15, 3) := by decide +kernel
theorem d_L_law_445 : decode code 445 = .ok (.aload_n 3, 1) := by decide +kernel
theorem d_L_law_446 : decode code 446 = .ok (.iconst 0, 1) := by decide +kernel
theorem d_L_law_447 : decode code 447 = .ok (.laload, 1) := by decide +kernel
theorem d_L_law_448 : decode code 448 = .ok (.iload 6, 2) := by decide +kernel
theorem d_L_law_450 : decode code 450 = .ok (.i2l, 1) := by decide +kernel
theorem d_L_law_451 : decode code 451 = .ok (.lcmp, 1) := by decide +kernel
theorem d_L_law_452 : decode code 452 = .ok (.ifCond .eq 5, 3) := by decide +kernel
theorem d_L_law_455 : decode code 455 = .ok (.iconst 0, 1) := by decide +kernel
theorem d_L_law_456 : decode code 456 = .ok (.ireturn, 1) := by decide +kernel
theorem d_L_law_457 : decode code 457 = .ok (.goto 1006, 3) := by decide +kernel
theorem d_L_law_460 : decode code 460 = .ok (.aload_n 1, 1) := by decide +kernel
theorem d_L_law_461 : decode code 461 = .ok (.aload_n 0, 1) := by decide +kernel
theorem d_L_law_462 : decode code 462 = .ok (.iload 4, 2) := by decide +kernel
theorem d_L_law_464 : decode code 464 = .ok (.iconst 1, 1) := by decide +kernel
theorem d_L_law_465 : decode code 465 = .ok (.iadd, 1) := by decide +kernel
theorem d_L_law_466 : decode code 466 = .ok (.iaload, 1) := by decide +kernel
theorem d_L_law_467 : decode code 467 = .ok (.aload_n 3, 1) := by decide +kernel
theorem d_L_law_468 : decode code 468 = .ok (.invokestatic 107, 3) := by decide +kernel
theorem d_L_law_471 : decode code 471 = .ok (.istore 5, 2) := by decide +kernel
theorem d_L_law_473 : decode code 473 = .ok (.aload_n 2, 1) := by decide +kernel
theorem d_L_law_474 : decode code 474 = .ok (.aload_n 0, 1) := by decide +kernel
theorem d_L_law_475 : decode code 475 = .ok (.iload 4, 2) := by decide +kernel
theorem d_L_law_477 : decode code 477 = .ok (.iconst 1, 1) := by decide +kernel
theorem d_L_law_478 : decode code 478 = .ok (.iadd, 1) := by decide +kernel
theorem d_L_law_479 : decode code 479 = .ok (.iaload, 1) := by decide +kernel
theorem d_L_law_480 : decode code 480 = .ok (.invokevirtual 109, 3) := by decide +kernel
theorem d_L_law_483 : decode code 483 = .ok (.istore 6, 2) := by decide +kernel
theorem d_L_law_485 : decode code 485 = .ok (.aload_n 2, 1) := by decide +kernel
theorem d_L_law_486 : decode code 486 = .ok (.invokevirtual 90, 3) := by decide +kernel
theorem d_L_law_489 : decode code 489 = .ok (.iload 5, 2) := by decide +kernel
theorem d_L_law_491 : decode code 491 = .ok (.if_icmp .eq 5, 3) := by decide +kernel
theorem d_L_law_494 : decode code 494 = .ok (.iconst 0, 1) := by decide +kernel
theorem d_L_law_495 : decode code 495 = .ok (.ireturn, 1) := by decide +kernel
theorem d_L_law_496 : decode code 496 = .ok (.iload 5, 2) := by decide +kernel
theorem d_L_law_498 : decode code 498 = .ok (.ifCond .ne 15, 3) := by decide +kernel
theorem d_L_law_501 : decode code 501 = .ok (.aload_n 3, 1) := by decide +kernel
theorem d_L_law_502 : decode code 502 = .ok (.iconst 0, 1) := by decide +kernel
theorem d_L_law_503 : decode code 503 = .ok (.laload, 1) := by decide +kernel
theorem d_L_law_504 : decode code 504 = .ok (.iload 6, 2) := by decide +kernel
theorem d_L_law_506 : decode code 506 = .ok (.i2l, 1) := by decide +kernel
theorem d_L_law_507 : decode code 507 = .ok (.lcmp, 1) := by decide +kernel
theorem d_L_law_508 : decode code 508 = .ok (.ifCond .eq 5, 3) := by decide +kernel
theorem d_L_law_511 : decode code 511 = .ok (.iconst 0, 1) := by decide +kernel
theorem d_L_law_512 : decode code 512 = .ok (.ireturn, 1) := by decide +kernel
theorem d_L_law_513 : decode code 513 = .ok (.goto 950, 3) := by decide +kernel
theorem d_L_law_516 : decode code 516 = .ok (.aload_n 1, 1) := by decide +kernel
theorem d_L_law_517 : decode code 517 = .ok (.aload_n 0, 1) := by decide +kernel
theorem d_L_law_518 : decode code 518 = .ok (.iload 4, 2) := by decide +kernel
theorem d_L_law_520 : decode code 520 = .ok (.iconst 1, 1) := by decide +kernel
theorem d_L_law_521 : decode code 521 = .ok (.iadd, 1) := by decide +kernel
theorem d_L_law_522 : decode code 522 = .ok (.iaload, 1) := by decide +kernel
theorem d_L_law_523 : decode code 523 = .ok (.aload_n 0, 1) := by decide +kernel
theorem d_L_law_524 : decode code 524 = .ok (.iload 4, 2) := by decide +kernel
theorem d_L_law_526 : decode code 526 = .ok (.iconst 2, 1) := by decide +kernel
theorem d_L_law_527 : decode code 527 = .ok (.iadd, 1) := by decide +kernel
theorem d_L_law_528 : decode code 528 = .ok (.iaload, 1) := by decide +kernel
theorem d_L_law_529 : decode code 529 = .ok (.aload_n 3, 1) := by decide +kernel
theorem d_L_law_530 : decode code 530 = .ok (.invokestatic 110, 3) := by decide +kernel
theorem d_L_law_533 : decode code 533 = .ok (.istore 5, 2) := by decide +kernel
theorem d_L_law_535 : decode code 535 = .ok (.aload_n 2, 1) := by decide +kernel
theorem d_L_law_536 : decode code 536 = .ok (.aload_n 0, 1) := by decide +kernel
theorem d_L_law_537 : decode code 537 = .ok (.iload 4, 2) := by decide +kernel
theorem d_L_law_539 : decode code 539 = .ok (.iconst 1, 1) := by decide +kernel
theorem d_L_law_540 : decode code 540 = .ok (.iadd, 1) := by decide +kernel
theorem d_L_law_541 : decode code 541 = .ok (.iaload, 1) := by decide +kernel
theorem d_L_law_542 : decode code 542 = .ok (.aload_n 0, 1) := by decide +kernel
theorem d_L_law_543 : decode code 543 = .ok (.iload 4, 2) := by decide +kernel
theorem d_L_law_545 : decode code 545 = .ok (.iconst 2, 1) := by decide +kernel
theorem d_L_law_546 : decode code 546 = .ok (.iadd, 1) := by decide +kernel
theorem d_L_law_547 : decode code 547 = .ok (.iaload, 1) := by decide +kernel
theorem d_L_law_548 : decode code 548 = .ok (.invokevirtual 112, 3) := by decide +kernel
theorem d_L_law_551 : decode code 551 = .ok (.istore 6, 2) := by decide +kernel
theorem d_L_law_553 : decode code 553 = .ok (.aload_n 2, 1) := by decide +kernel
theorem d_L_law_554 : decode code 554 = .ok (.invokevirtual 90, 3) := by decide +kernel
theorem d_L_law_557 : decode code 557 = .ok (.iload 5, 2) := by decide +kernel
theorem d_L_law_559 : decode code 559 = .ok (.if_icmp .eq 5, 3) := by decide +kernel
theorem d_L_law_562 : decode code 562 = .ok (.iconst 0, 1) := by decide +kernel
theorem d_L_law_563 : decode code 563 = .ok (.ireturn, 1) := by decide +kernel
theorem d_L_law_564 : decode code 564 = .ok (.iload 5, 2) := by decide +kernel
theorem d_L_law_566 : decode code 566 = .ok (.ifCond .ne 15, 3) := by decide +kernel
end
section
theorem d_L_law_569 : decode code 569 = .ok (.aload_n 3, 1) := by decide +kernel
theorem d_L_law_570 : decode code 570 = .ok (.iconst 0, 1) := by decide +kernel
theorem d_L_law_571 : decode code 571 = .ok (.laload, 1) := by decide +kernel
theorem d_L_law_572 : decode code 572 = .ok (.iload 6, 2) := by decide +kernel
theorem d_L_law_574 : decode code 574 = .ok (.i2l, 1) := by decide +kernel
theorem d_L_law_575 : decode code 575 = .ok (.lcmp, 1) := by decide +kernel
theorem d_L_law_576 : decode code 576 = .ok (.ifCond .eq 5, 3) := by decide +kernel
theorem d_L_law_579 : decode code 579 = .ok (.iconst 0, 1) := by decide +kernel
theorem d_L_law_580 : decode code 580 = .ok (.ireturn, 1) := by decide +kernel
theorem d_L_law_581 : decode code 581 = .ok (.goto 882, 3) := by decide +kernel
theorem d_L_law_584 : decode code 584 = .ok (.aload_n 1, 1) := by decide +kernel
theorem d_L_law_585 : decode code 585 = .ok (.aload_n 0, 1) := by decide +kernel
theorem d_L_law_586 : decode code 586 = .ok (.iload 4, 2) := by decide +kernel
theorem d_L_law_588 : decode code 588 = .ok (.iconst 1, 1) := by decide +kernel
theorem d_L_law_589 : decode code 589 = .ok (.iadd, 1) := by decide +kernel
theorem d_L_law_590 : decode code 590 = .ok (.iaload, 1) := by decide +kernel
theorem d_L_law_591 : decode code 591 = .ok (.aload_n 0, 1) := by decide +kernel
theorem d_L_law_592 : decode code 592 = .ok (.iload 4, 2) := by decide +kernel
theorem d_L_law_594 : decode code 594 = .ok (.iconst 2, 1) := by decide +kernel
theorem d_L_law_595 : decode code 595 = .ok (.iadd, 1) := by decide +kernel
theorem d_L_law_596 : decode code 596 = .ok (.iaload, 1) := by decide +kernel
theorem d_L_law_597 : decode code 597 = .ok (.aload_n 0, 1) := by decide +kernel
theorem d_L_law_598 : decode code 598 = .ok (.iload 4, 2) := by decide +kernel
theorem d_L_law_600 : decode code 600 = .ok (.iconst 3, 1) := by decide +kernel
theorem d_L_law_601 : decode code 601 = .ok (.iadd, 1) := by decide +kernel
theorem d_L_law_602 : decode code 602 = .ok (.iaload, 1) := by decide +kernel
theorem d_L_law_603 : decode code 603 = .ok (.aload_n 3, 1) := by decide +kernel
theorem d_L_law_604 : decode code 604 = .ok (.invokestatic 113, 3) := by decide +kernel
theorem d_L_law_607 : decode code 607 = .ok (.istore 5, 2) := by decide +kernel
theorem d_L_law_609 : decode code 609 = .ok (.aload_n 2, 1) := by decide +kernel
theorem d_L_law_610 : decode code 610 = .ok (.aload_n 0, 1) := by decide +kernel
theorem d_L_law_611 : decode code 611 = .ok (.iload 4, 2) := by decide +kernel
theorem d_L_law_613 : decode code 613 = .ok (.iconst 1, 1) := by decide +kernel
theorem d_L_law_614 : decode code 614 = .ok (.iadd, 1) := by decide +kernel
theorem d_L_law_615 : decode code 615 = .ok (.iaload, 1) := by decide +kernel
theorem d_L_law_616 : decode code 616 = .ok (.aload_n 0, 1) := by decide +kernel
theorem d_L_law_617 : decode code 617 = .ok (.iload 4, 2) := by decide +kernel
theorem d_L_law_619 : decode code 619 = .ok (.iconst 2, 1) := by decide +kernel
theorem d_L_law_620 : decode code 620 = .ok (.iadd, 1) := by decide +kernel
theorem d_L_law_621 : decode code 621 = .ok (.iaload, 1) := by decide +kernel
theorem d_L_law_622 : decode code 622 = .ok (.aload_n 0, 1) := by decide +kernel
theorem d_L_law_623 : decode code 623 = .ok (.iload 4, 2) := by decide +kernel
theorem d_L_law_625 : decode code 625 = .ok (.iconst 3, 1) := by decide +kernel
theorem d_L_law_626 : decode code 626 = .ok (.iadd, 1) := by decide +kernel
theorem d_L_law_627 : decode code 627 = .ok (.iaload, 1) := by decide +kernel
theorem d_L_law_628 : decode code 628 = .ok (.invokevirtual 116, 3) := by decide +kernel
theorem d_L_law_631 : decode code 631 = .ok (.istore 6, 2) := by decide +kernel
theorem d_L_law_633 : decode code 633 = .ok (.aload_n 2, 1) := by decide +kernel
theorem d_L_law_634 : decode code 634 = .ok (.invokevirtual 90, 3) := by decide +kernel
theorem d_L_law_637 : decode code 637 = .ok (.iload 5, 2) := by decide +kernel
theorem d_L_law_639 : decode code 639 = .ok (.if_icmp .eq 5, 3) := by decide +kernel
theorem d_L_law_642 : decode code 642 = .ok (.iconst 0, 1) := by decide +kernel
theorem d_L_law_643 : decode code 643 = .ok (.ireturn, 1) := by decide +kernel
theorem d_L_law_644 : decode code 644 = .ok (.iload 5, 2) := by decide +kernel
theorem d_L_law_646 : decode code 646 = .ok (.ifCond .ne 15, 3) := by decide +kernel
theorem d_L_law_649 : decode code 649 = .ok (.aload_n 3, 1) := by decide +kernel
theorem d_L_law_650 : decode code 650 = .ok (.iconst 0, 1) := by decide +kernel
theorem d_L_law_651 : decode code 651 = .ok (.laload, 1) := by decide +kernel
theorem d_L_law_652 : decode code 652 = .ok (.iload 6, 2) := by decide +kernel
theorem d_L_law_654 : decode code 654 = .ok (.i2l, 1) := by decide +kernel
theorem d_L_law_655 : decode code 655 = .ok (.lcmp, 1) := by decide +kernel
theorem d_L_law_656 : decode code 656 = .ok (.ifCond .eq 5, 3) := by decide +kernel
theorem d_L_law_659 : decode code 659 = .ok (.iconst 0, 1) := by decide +kernel
theorem d_L_law_660 : decode code 660 = .ok (.ireturn, 1) := by decide +kernel
theorem d_L_law_661 : decode code 661 = .ok (.goto 802, 3) := by decide +kernel
theorem d_L_law_664 : decode code 664 = .ok (.aload_n 1, 1) := by decide +kernel
theorem d_L_law_665 : decode code 665 = .ok (.aload_n 0, 1) := by decide +kernel
theorem d_L_law_666 : decode code 666 = .ok (.iload 4, 2) := by decide +kernel
theorem d_L_law_668 : decode code 668 = .ok (.iconst 1, 1) := by decide +kernel
theorem d_L_law_669 : decode code 669 = .ok (.iadd, 1) := by decide +kernel
theorem d_L_law_670 : decode code 670 = .ok (.iaload, 1) := by decide +kernel
theorem d_L_law_671 : decode code 671 = .ok (.aload_n 0, 1) := by decide +kernel
theorem d_L_law_672 : decode code 672 = .ok (.iload 4, 2) := by decide +kernel
theorem d_L_law_674 : decode code 674 = .ok (.iconst 2, 1) := by decide +kernel
theorem d_L_law_675 : decode code 675 = .ok (.iadd, 1) := by decide +kernel
theorem d_L_law_676 : decode code 676 = .ok (.iaload, 1) := by decide +kernel
theorem d_L_law_677 : decode code 677 = .ok (.aload_n 3, 1) := by decide +kernel
theorem d_L_law_678 : decode code 678 = .ok (.invokestatic 117, 3) := by decide +kernel
theorem d_L_law_681 : decode code 681 = .ok (.istore 5, 2) := by decide +kernel
theorem d_L_law_683 : decode code 683 = .ok (.aload_n 2, 1) := by decide +kernel
theorem d_L_law_684 : decode code 684 = .ok (.aload_n 0, 1) := by decide +kernel
theorem d_L_law_685 : decode code 685 = .ok (.iload 4, 2) := by decide +kernel
theorem d_L_law_687 : decode code 687 = .ok (.iconst 1, 1) := by decide +kernel
theorem d_L_law_688 : decode code 688 = .ok (.iadd, 1) := by decide +kernel
theorem d_L_law_689 : decode code 689 = .ok (.iaload, 1) := by decide +kernel
theorem d_L_law_690 : decode code 690 = .ok (.aload_n 0, 1) := by decide +kernel
theorem d_L_law_691 : decode code 691 = .ok (.iload 4, 2) := by decide +kernel
theorem d_L_law_693 : decode code 693 = .ok (.iconst 2, 1) := by decide +kernel
theorem d_L_law_694 : decode code 694 = .ok (.iadd, 1) := by decide +kernel
theorem d_L_law_695 : decode code 695 = .ok (.iaload, 1) := by decide +kernel
theorem d_L_law_696 : decode code 696 = .ok (.invokevirtual 119, 3) := by decide +kernel
theorem d_L_law_699 : decode code 699 = .ok (.istore 6, 2) := by decide +kernel
theorem d_L_law_701 : decode code 701 = .ok (.aload_n 2, 1) := by decide +kernel
theorem d_L_law_702 : decode code 702 = .ok (.invokevirtual 90, 3) := by decide +kernel
theorem d_L_law_705 : decode code 705 = .ok (.iload 5, 2) := by decide +kernel
theorem d_L_law_707 : decode code 707 = .ok (.if_icmp .eq 5, 3) := by decide +kernel
theorem d_L_law_710 : decode code 710 = .ok (.iconst 0, 1) := by decide +kernel
theorem d_L_law_711 : decode code 711 = .ok (.ireturn, 1) := by decide +kernel
theorem d_L_law_712 : decode code 712 = .ok (.iload 5, 2) := by decide +kernel
theorem d_L_law_714 : decode code 714 = .ok (.ifCond .ne 15, 3) := by decide +kernel
theorem d_L_law_717 : decode code 717 = .ok (.aload_n 3, 1) := by decide +kernel
theorem d_L_law_718 : decode code 718 = .ok (.iconst 0, 1) := by decide +kernel
theorem d_L_law_719 : decode code 719 = .ok (.laload, 1) := by decide +kernel
theorem d_L_law_720 : decode code 720 = .ok (.iload 6, 2) := by decide +kernel
theorem d_L_law_722 : decode code 722 = .ok (.i2l, 1) := by decide +kernel
theorem d_L_law_723 : decode code 723 = .ok (.lcmp, 1) := by decide +kernel
theorem d_L_law_724 : decode code 724 = .ok (.ifCond .eq 5, 3) := by decide +kernel
theorem d_L_law_727 : decode code 727 = .ok (.iconst 0, 1) := by decide +kernel
theorem d_L_law_728 : decode code 728 = .ok (.ireturn, 1) := by decide +kernel
theorem d_L_law_729 : decode code 729 = .ok (.goto 734, 3) := by decide +kernel
theorem d_L_law_732 : decode code 732 = .ok (.aload_n 1, 1) := by decide +kernel
theorem d_L_law_733 : decode code 733 = .ok (.aload_n 0, 1) := by decide +kernel
theorem d_L_law_734 : decode code 734 = .ok (.iload 4, 2) := by decide +kernel
theorem d_L_law_736 : decode code 736 = .ok (.iconst 1, 1) := by decide +kernel
theorem d_L_law_737 : decode code 737 = .ok (.iadd, 1) := by decide +kernel
theorem d_L_law_738 : decode code 738 = .ok (.iaload, 1) := by decide +kernel
theorem d_L_law_739 : decode code 739 = .ok (.aload_n 0, 1) := by decide +kernel
theorem d_L_law_740 : decode code 740 = .ok (.iload 4, 2) := by decide +kernel
theorem d_L_law_742 : decode code 742 = .ok (.iconst 2, 1) := by decide +kernel
theorem d_L_law_743 : decode code 743 = .ok (.iadd, 1) := by decide +kernel
theorem d_L_law_744 : decode code 744 = .ok (.iaload, 1) := by decide +kernel
theorem d_L_law_745 : decode code 745 = .ok (.aload_n 3, 1) := by decide +kernel
theorem d_L_law_746 : decode code 746 = .ok (.invokestatic 120, 3) := by decide +kernel
theorem d_L_law_749 : decode code 749 = .ok (.istore 5, 2) := by decide +kernel
theorem d_L_law_751 : decode code 751 = .ok (.aload_n 2, 1) := by decide +kernel
theorem d_L_law_752 : decode code 752 = .ok (.aload_n 0, 1) := by decide +kernel
theorem d_L_law_753 : decode code 753 = .ok (.iload 4, 2) := by decide +kernel
theorem d_L_law_755 : decode code 755 = .ok (.iconst 1, 1) := by decide +kernel
theorem d_L_law_756 : decode code 756 = .ok (.iadd, 1) := by decide +kernel
theorem d_L_law_757 : decode code 757 = .ok (.iaload, 1) := by decide +kernel
theorem d_L_law_758 : decode code 758 = .ok (.aload_n 0, 1) := by decide +kernel
theorem d_L_law_759 : decode code 759 = .ok (.iload 4, 2) := by decide +kernel
theorem d_L_law_761 : decode code 761 = .ok (.iconst 2, 1) := by decide +kernel
theorem d_L_law_762 : decode code 762 = .ok (.iadd, 1) := by decide +kernel
theorem d_L_law_763 : decode code 763 = .ok (.iaload, 1) := by decide +kernel
theorem d_L_law_764 : decode code 764 = .ok (.invokevirtual 122, 3) := by decide +kernel
theorem d_L_law_767 : decode code 767 = .ok (.istore 6, 2) := by decide +kernel
theorem d_L_law_769 : decode code 769 = .ok (.aload_n 2, 1) := by decide +kernel
theorem d_L_law_770 : decode code 770 = .ok (.invokevirtual 90, 3) := by decide +kernel
theorem d_L_law_773 : decode code 773 = .ok (.iload 5, 2) := by decide +kernel
theorem d_L_law_775 : decode code 775 = .ok (.if_icmp .eq 5, 3) := by decide +kernel
theorem d_L_law_778 : decode code 778 = .ok (.iconst 0, 1) := by decide +kernel
theorem d_L_law_779 : decode code 779 = .ok (.ireturn, 1) := by decide +kernel
theorem d_L_law_780 : decode code 780 = .ok (.iload 5, 2) := by decide +kernel
theorem d_L_law_782 : decode code 782 = .ok (.ifCond .ne 15, 3) := by decide +kernel
theorem d_L_law_785 : decode code 785 = .ok (.aload_n 3, 1) := by decide +kernel
theorem d_L_law_786 : decode code 786 = .ok (.iconst 0, 1) := by decide +kernel
theorem d_L_law_787 : decode code 787 = .ok (.laload, 1) := by decide +kernel
theorem d_L_law_788 : decode code 788 = .ok (.iload 6, 2) := by decide +kernel
theorem d_L_law_790 : decode code 790 = .ok (.i2l, 1) := by decide +kernel
end
section
theorem d_L_law_791 : decode code 791 = .ok (.lcmp, 1) := by decide +kernel
theorem d_L_law_792 : decode code 792 = .ok (.ifCond .eq 5, 3) := by decide +kernel
theorem d_L_law_795 : decode code 795 = .ok (.iconst 0, 1) := by decide +kernel
theorem d_L_law_796 : decode code 796 = .ok (.ireturn, 1) := by decide +kernel
theorem d_L_law_797 : decode code 797 = .ok (.goto 666, 3) := by decide +kernel
theorem d_L_law_800 : decode code 800 = .ok (.aload_n 1, 1) := by decide +kernel
theorem d_L_law_801 : decode code 801 = .ok (.aload_n 0, 1) := by decide +kernel
theorem d_L_law_802 : decode code 802 = .ok (.iload 4, 2) := by decide +kernel
theorem d_L_law_804 : decode code 804 = .ok (.iconst 1, 1) := by decide +kernel
theorem d_L_law_805 : decode code 805 = .ok (.iadd, 1) := by decide +kernel
theorem d_L_law_806 : decode code 806 = .ok (.iaload, 1) := by decide +kernel
theorem d_L_law_807 : decode code 807 = .ok (.aload_n 0, 1) := by decide +kernel
theorem d_L_law_808 : decode code 808 = .ok (.iload 4, 2) := by decide +kernel
theorem d_L_law_810 : decode code 810 = .ok (.iconst 2, 1) := by decide +kernel
theorem d_L_law_811 : decode code 811 = .ok (.iadd, 1) := by decide +kernel
theorem d_L_law_812 : decode code 812 = .ok (.iaload, 1) := by decide +kernel
theorem d_L_law_813 : decode code 813 = .ok (.aload_n 3, 1) := by decide +kernel
theorem d_L_law_814 : decode code 814 = .ok (.invokestatic 123, 3) := by decide +kernel
theorem d_L_law_817 : decode code 817 = .ok (.istore 5, 2) := by decide +kernel
theorem d_L_law_819 : decode code 819 = .ok (.aload_n 2, 1) := by decide +kernel
theorem d_L_law_820 : decode code 820 = .ok (.aload_n 0, 1) := by decide +kernel
theorem d_L_law_821 : decode code 821 = .ok (.iload 4, 2) := by decide +kernel
theorem d_L_law_823 : decode code 823 = .ok (.iconst 1, 1) := by decide +kernel
theorem d_L_law_824 : decode code 824 = .ok (.iadd, 1) := by decide +kernel
theorem d_L_law_825 : decode code 825 = .ok (.iaload, 1) := by decide +kernel
theorem d_L_law_826 : decode code 826 = .ok (.aload_n 0, 1) := by decide +kernel
theorem d_L_law_827 : decode code 827 = .ok (.iload 4, 2) := by decide +kernel
theorem d_L_law_829 : decode code 829 = .ok (.iconst 2, 1) := by decide +kernel
theorem d_L_law_830 : decode code 830 = .ok (.iadd, 1) := by decide +kernel
theorem d_L_law_831 : decode code 831 = .ok (.iaload, 1) := by decide +kernel
theorem d_L_law_832 : decode code 832 = .ok (.invokevirtual 125, 3) := by decide +kernel
theorem d_L_law_835 : decode code 835 = .ok (.istore 6, 2) := by decide +kernel
theorem d_L_law_837 : decode code 837 = .ok (.aload_n 2, 1) := by decide +kernel
theorem d_L_law_838 : decode code 838 = .ok (.invokevirtual 90, 3) := by decide +kernel
theorem d_L_law_841 : decode code 841 = .ok (.iload 5, 2) := by decide +kernel
theorem d_L_law_843 : decode code 843 = .ok (.if_icmp .eq 5, 3) := by decide +kernel
theorem d_L_law_846 : decode code 846 = .ok (.iconst 0, 1) := by decide +kernel
theorem d_L_law_847 : decode code 847 = .ok (.ireturn, 1) := by decide +kernel
theorem d_L_law_848 : decode code 848 = .ok (.iload 5, 2) := by decide +kernel
theorem d_L_law_850 : decode code 850 = .ok (.ifCond .ne 15, 3) := by decide +kernel
theorem d_L_law_853 : decode code 853 = .ok (.aload_n 3, 1) := by decide +kernel
theorem d_L_law_854 : decode code 854 = .ok (.iconst 0, 1) := by decide +kernel
theorem d_L_law_855 : decode code 855 = .ok (.laload, 1) := by decide +kernel
theorem d_L_law_856 : decode code 856 = .ok (.iload 6, 2) := by decide +kernel
theorem d_L_law_858 : decode code 858 = .ok (.i2l, 1) := by decide +kernel
theorem d_L_law_859 : decode code 859 = .ok (.lcmp, 1) := by decide +kernel
theorem d_L_law_860 : decode code 860 = .ok (.ifCond .eq 5, 3) := by decide +kernel
theorem d_L_law_863 : decode code 863 = .ok (.iconst 0, 1) := by decide +kernel
theorem d_L_law_864 : decode code 864 = .ok (.ireturn, 1) := by decide +kernel
theorem d_L_law_865 : decode code 865 = .ok (.goto 598, 3) := by decide +kernel
theorem d_L_law_868 : decode code 868 = .ok (.aload_n 1, 1) := by decide +kernel
theorem d_L_law_869 : decode code 869 = .ok (.aload_n 0, 1) := by decide +kernel
theorem d_L_law_870 : decode code 870 = .ok (.iload 4, 2) := by decide +kernel
theorem d_L_law_872 : decode code 872 = .ok (.iconst 1, 1) := by decide +kernel
theorem d_L_law_873 : decode code 873 = .ok (.iadd, 1) := by decide +kernel
theorem d_L_law_874 : decode code 874 = .ok (.iaload, 1) := by decide +kernel
theorem d_L_law_875 : decode code 875 = .ok (.aload_n 0, 1) := by decide +kernel
theorem d_L_law_876 : decode code 876 = .ok (.iload 4, 2) := by decide +kernel
theorem d_L_law_878 : decode code 878 = .ok (.iconst 2, 1) := by decide +kernel
theorem d_L_law_879 : decode code 879 = .ok (.iadd, 1) := by decide +kernel
theorem d_L_law_880 : decode code 880 = .ok (.iaload, 1) := by decide +kernel
theorem d_L_law_881 : decode code 881 = .ok (.aload_n 3, 1) := by decide +kernel
theorem d_L_law_882 : decode code 882 = .ok (.invokestatic 126, 3) := by decide +kernel
theorem d_L_law_885 : decode code 885 = .ok (.istore 5, 2) := by decide +kernel
theorem d_L_law_887 : decode code 887 = .ok (.aload_n 2, 1) := by decide +kernel
theorem d_L_law_888 : decode code 888 = .ok (.aload_n 0, 1) := by decide +kernel
theorem d_L_law_889 : decode code 889 = .ok (.iload 4, 2) := by decide +kernel
theorem d_L_law_891 : decode code 891 = .ok (.iconst 1, 1) := by decide +kernel
theorem d_L_law_892 : decode code 892 = .ok (.iadd, 1) := by decide +kernel
theorem d_L_law_893 : decode code 893 = .ok (.iaload, 1) := by decide +kernel
theorem d_L_law_894 : decode code 894 = .ok (.aload_n 0, 1) := by decide +kernel
theorem d_L_law_895 : decode code 895 = .ok (.iload 4, 2) := by decide +kernel
theorem d_L_law_897 : decode code 897 = .ok (.iconst 2, 1) := by decide +kernel
theorem d_L_law_898 : decode code 898 = .ok (.iadd, 1) := by decide +kernel
theorem d_L_law_899 : decode code 899 = .ok (.iaload, 1) := by decide +kernel
theorem d_L_law_900 : decode code 900 = .ok (.invokevirtual 128, 3) := by decide +kernel
theorem d_L_law_903 : decode code 903 = .ok (.istore 6, 2) := by decide +kernel
theorem d_L_law_905 : decode code 905 = .ok (.aload_n 2, 1) := by decide +kernel
theorem d_L_law_906 : decode code 906 = .ok (.invokevirtual 90, 3) := by decide +kernel
theorem d_L_law_909 : decode code 909 = .ok (.iload 5, 2) := by decide +kernel
theorem d_L_law_911 : decode code 911 = .ok (.if_icmp .eq 5, 3) := by decide +kernel
theorem d_L_law_914 : decode code 914 = .ok (.iconst 0, 1) := by decide +kernel
theorem d_L_law_915 : decode code 915 = .ok (.ireturn, 1) := by decide +kernel
theorem d_L_law_916 : decode code 916 = .ok (.iload 5, 2) := by decide +kernel
theorem d_L_law_918 : decode code 918 = .ok (.ifCond .ne 15, 3) := by decide +kernel
theorem d_L_law_921 : decode code 921 = .ok (.aload_n 3, 1) := by decide +kernel
theorem d_L_law_922 : decode code 922 = .ok (.iconst 0, 1) := by decide +kernel
theorem d_L_law_923 : decode code 923 = .ok (.laload, 1) := by decide +kernel
theorem d_L_law_924 : decode code 924 = .ok (.iload 6, 2) := by decide +kernel
theorem d_L_law_926 : decode code 926 = .ok (.i2l, 1) := by decide +kernel
theorem d_L_law_927 : decode code 927 = .ok (.lcmp, 1) := by decide +kernel
theorem d_L_law_928 : decode code 928 = .ok (.ifCond .eq 5, 3) := by decide +kernel
theorem d_L_law_931 : decode code 931 = .ok (.iconst 0, 1) := by decide +kernel
theorem d_L_law_932 : decode code 932 = .ok (.ireturn, 1) := by decide +kernel
theorem d_L_law_933 : decode code 933 = .ok (.goto 530, 3) := by decide +kernel
theorem d_L_law_936 : decode code 936 = .ok (.aload_n 1, 1) := by decide +kernel
theorem d_L_law_937 : decode code 937 = .ok (.aload_n 0, 1) := by decide +kernel
theorem d_L_law_938 : decode code 938 = .ok (.iload 4, 2) := by decide +kernel
theorem d_L_law_940 : decode code 940 = .ok (.iconst 1, 1) := by decide +kernel
theorem d_L_law_941 : decode code 941 = .ok (.iadd, 1) := by decide +kernel
theorem d_L_law_942 : decode code 942 = .ok (.iaload, 1) := by decide +kernel
theorem d_L_law_943 : decode code 943 = .ok (.aload_n 0, 1) := by decide +kernel
theorem d_L_law_944 : decode code 944 = .ok (.iload 4, 2) := by decide +kernel
theorem d_L_law_946 : decode code 946 = .ok (.iconst 2, 1) := by decide +kernel
theorem d_L_law_947 : decode code 947 = .ok (.iadd, 1) := by decide +kernel
theorem d_L_law_948 : decode code 948 = .ok (.iaload, 1) := by decide +kernel
theorem d_L_law_949 : decode code 949 = .ok (.ifCond .eq 7, 3) := by decide +kernel
theorem d_L_law_952 : decode code 952 = .ok (.iconst 1, 1) := by decide +kernel
theorem d_L_law_953 : decode code 953 = .ok (.goto 4, 3) := by decide +kernel
theorem d_L_law_956 : decode code 956 = .ok (.iconst 0, 1) := by decide +kernel
theorem d_L_law_957 : decode code 957 = .ok (.aload_n 3, 1) := by decide +kernel
theorem d_L_law_958 : decode code 958 = .ok (.invokestatic 129, 3) := by decide +kernel
theorem d_L_law_961 : decode code 961 = .ok (.istore 5, 2) := by decide +kernel
theorem d_L_law_963 : decode code 963 = .ok (.aload_n 2, 1) := by decide +kernel
theorem d_L_law_964 : decode code 964 = .ok (.aload_n 0, 1) := by decide +kernel
theorem d_L_law_965 : decode code 965 = .ok (.iload 4, 2) := by decide +kernel
theorem d_L_law_967 : decode code 967 = .ok (.iconst 1, 1) := by decide +kernel
theorem d_L_law_968 : decode code 968 = .ok (.iadd, 1) := by decide +kernel
theorem d_L_law_969 : decode code 969 = .ok (.iaload, 1) := by decide +kernel
theorem d_L_law_970 : decode code 970 = .ok (.aload_n 0, 1) := by decide +kernel
theorem d_L_law_971 : decode code 971 = .ok (.iload 4, 2) := by decide +kernel
theorem d_L_law_973 : decode code 973 = .ok (.iconst 2, 1) := by decide +kernel
theorem d_L_law_974 : decode code 974 = .ok (.iadd, 1) := by decide +kernel
theorem d_L_law_975 : decode code 975 = .ok (.iaload, 1) := by decide +kernel
theorem d_L_law_976 : decode code 976 = .ok (.ifCond .eq 7, 3) := by decide +kernel
theorem d_L_law_979 : decode code 979 = .ok (.iconst 1, 1) := by decide +kernel
theorem d_L_law_980 : decode code 980 = .ok (.goto 4, 3) := by decide +kernel
theorem d_L_law_983 : decode code 983 = .ok (.iconst 0, 1) := by decide +kernel
theorem d_L_law_984 : decode code 984 = .ok (.invokevirtual 132, 3) := by decide +kernel
theorem d_L_law_987 : decode code 987 = .ok (.istore 6, 2) := by decide +kernel
theorem d_L_law_989 : decode code 989 = .ok (.aload_n 2, 1) := by decide +kernel
theorem d_L_law_990 : decode code 990 = .ok (.invokevirtual 90, 3) := by decide +kernel
theorem d_L_law_993 : decode code 993 = .ok (.iload 5, 2) := by decide +kernel
theorem d_L_law_995 : decode code 995 = .ok (.if_icmp .eq 5, 3) := by decide +kernel
theorem d_L_law_998 : decode code 998 = .ok (.iconst 0, 1) := by decide +kernel
theorem d_L_law_999 : decode code 999 = .ok (.ireturn, 1) := by decide +kernel
theorem d_L_law_1000 : decode code 1000 = .ok (.iload 5, 2) := by decide +kernel
theorem d_L_law_1002 : decode code 1002 = .ok (.ifCond .ne 22, 3) := by decide +kernel
theorem d_L_law_1005 : decode code 1005 = .ok (.aload_n 3, 1) := by decide +kernel
theorem d_L_law_1006 : decode code 1006 = .ok (.iconst 0, 1) := by decide +kernel
theorem d_L_law_1007 : decode code 1007 = .ok (.laload, 1) := by decide +kernel
theorem d_L_law_1008 : decode code 1008 = .ok (.iload 6, 2) := by decide +kernel
theorem d_L_law_1010 : decode code 1010 = .ok (.ifCond .eq 7, 3) := by decide +kernel
theorem d_L_law_1013 : decode code 1013 = .ok (.lconst 1, 1) := by decide +kernel
theorem d_L_law_1014 : decode code 1014 = .ok (.goto 4, 3) := by decide +kernel
theorem d_L_law_1017 : decode code 1017 = .ok (.lconst 0, 1) := by decide +kernel
theorem d_L_law_1018 : decode code 1018 = .ok (.lcmp, 1) := by decide +kernel
theorem d_L_law_1019 : decode code 1019 = .ok (.ifCond .eq 5, 3) := by decide +kernel
theorem d_L_law_1022 : decode code 1022 = .ok (.iconst 0, 1) := by decide +kernel
theorem d_L_law_1023 : decode code 1023 = .ok (.ireturn, 1) := by decide +kernel
end
section
theorem d_L_law_1024 : decode code 1024 = .ok (.goto 439, 3) := by decide +kernel
theorem d_L_law_1027 : decode code 1027 = .ok (.aload_n 1, 1) := by decide +kernel
theorem d_L_law_1028 : decode code 1028 = .ok (.aload_n 0, 1) := by decide +kernel
theorem d_L_law_1029 : decode code 1029 = .ok (.iload 4, 2) := by decide +kernel
theorem d_L_law_1031 : decode code 1031 = .ok (.iconst 1, 1) := by decide +kernel
theorem d_L_law_1032 : decode code 1032 = .ok (.iadd, 1) := by decide +kernel
theorem d_L_law_1033 : decode code 1033 = .ok (.iaload, 1) := by decide +kernel
theorem d_L_law_1034 : decode code 1034 = .ok (.aload_n 3, 1) := by decide +kernel
theorem d_L_law_1035 : decode code 1035 = .ok (.invokestatic 133, 3) := by decide +kernel
theorem d_L_law_1038 : decode code 1038 = .ok (.istore 5, 2) := by decide +kernel
theorem d_L_law_1040 : decode code 1040 = .ok (.aload_n 2, 1) := by decide +kernel
theorem d_L_law_1041 : decode code 1041 = .ok (.aload_n 0, 1) := by decide +kernel
theorem d_L_law_1042 : decode code 1042 = .ok (.iload 4, 2) := by decide +kernel
theorem d_L_law_1044 : decode code 1044 = .ok (.iconst 1, 1) := by decide +kernel
theorem d_L_law_1045 : decode code 1045 = .ok (.iadd, 1) := by decide +kernel
theorem d_L_law_1046 : decode code 1046 = .ok (.iaload, 1) := by decide +kernel
theorem d_L_law_1047 : decode code 1047 = .ok (.invokevirtual 135, 3) := by decide +kernel
theorem d_L_law_1050 : decode code 1050 = .ok (.istore 6, 2) := by decide +kernel
theorem d_L_law_1052 : decode code 1052 = .ok (.aload_n 2, 1) := by decide +kernel
theorem d_L_law_1053 : decode code 1053 = .ok (.invokevirtual 90, 3) := by decide +kernel
theorem d_L_law_1056 : decode code 1056 = .ok (.iload 5, 2) := by decide +kernel
theorem d_L_law_1058 : decode code 1058 = .ok (.if_icmp .eq 5, 3) := by decide +kernel
theorem d_L_law_1061 : decode code 1061 = .ok (.iconst 0, 1) := by decide +kernel
theorem d_L_law_1062 : decode code 1062 = .ok (.ireturn, 1) := by decide +kernel
theorem d_L_law_1063 : decode code 1063 = .ok (.iload 5, 2) := by decide +kernel
theorem d_L_law_1065 : decode code 1065 = .ok (.ifCond .ne 15, 3) := by decide +kernel
theorem d_L_law_1068 : decode code 1068 = .ok (.aload_n 3, 1) := by decide +kernel
theorem d_L_law_1069 : decode code 1069 = .ok (.iconst 0, 1) := by decide +kernel
theorem d_L_law_1070 : decode code 1070 = .ok (.laload, 1) := by decide +kernel
theorem d_L_law_1071 : decode code 1071 = .ok (.iload 6, 2) := by decide +kernel
theorem d_L_law_1073 : decode code 1073 = .ok (.i2l, 1) := by decide +kernel
theorem d_L_law_1074 : decode code 1074 = .ok (.lcmp, 1) := by decide +kernel
theorem d_L_law_1075 : decode code 1075 = .ok (.ifCond .eq 5, 3) := by decide +kernel
theorem d_L_law_1078 : decode code 1078 = .ok (.iconst 0, 1) := by decide +kernel
theorem d_L_law_1079 : decode code 1079 = .ok (.ireturn, 1) := by decide +kernel
theorem d_L_law_1080 : decode code 1080 = .ok (.goto 383, 3) := by decide +kernel
theorem d_L_law_1083 : decode code 1083 = .ok (.aload_n 1, 1) := by decide +kernel
theorem d_L_law_1084 : decode code 1084 = .ok (.aload_n 0, 1) := by decide +kernel
theorem d_L_law_1085 : decode code 1085 = .ok (.iload 4, 2) := by decide +kernel
theorem d_L_law_1087 : decode code 1087 = .ok (.iconst 1, 1) := by decide +kernel
theorem d_L_law_1088 : decode code 1088 = .ok (.iadd, 1) := by decide +kernel
theorem d_L_law_1089 : decode code 1089 = .ok (.iaload, 1) := by decide +kernel
theorem d_L_law_1090 : decode code 1090 = .ok (.aload_n 3, 1) := by decide +kernel
theorem d_L_law_1091 : decode code 1091 = .ok (.invokestatic 136, 3) := by decide +kernel
theorem d_L_law_1094 : decode code 1094 = .ok (.istore 5, 2) := by decide +kernel
theorem d_L_law_1096 : decode code 1096 = .ok (.aload_n 2, 1) := by decide +kernel
theorem d_L_law_1097 : decode code 1097 = .ok (.aload_n 0, 1) := by decide +kernel
theorem d_L_law_1098 : decode code 1098 = .ok (.iload 4, 2) := by decide +kernel
theorem d_L_law_1100 : decode code 1100 = .ok (.iconst 1, 1) := by decide +kernel
theorem d_L_law_1101 : decode code 1101 = .ok (.iadd, 1) := by decide +kernel
theorem d_L_law_1102 : decode code 1102 = .ok (.iaload, 1) := by decide +kernel
theorem d_L_law_1103 : decode code 1103 = .ok (.invokevirtual 138, 3) := by decide +kernel
theorem d_L_law_1106 : decode code 1106 = .ok (.istore 6, 2) := by decide +kernel
theorem d_L_law_1108 : decode code 1108 = .ok (.aload_n 2, 1) := by decide +kernel
theorem d_L_law_1109 : decode code 1109 = .ok (.invokevirtual 90, 3) := by decide +kernel
theorem d_L_law_1112 : decode code 1112 = .ok (.iload 5, 2) := by decide +kernel
theorem d_L_law_1114 : decode code 1114 = .ok (.if_icmp .eq 5, 3) := by decide +kernel
theorem d_L_law_1117 : decode code 1117 = .ok (.iconst 0, 1) := by decide +kernel
theorem d_L_law_1118 : decode code 1118 = .ok (.ireturn, 1) := by decide +kernel
theorem d_L_law_1119 : decode code 1119 = .ok (.iload 5, 2) := by decide +kernel
theorem d_L_law_1121 : decode code 1121 = .ok (.ifCond .ne 15, 3) := by decide +kernel
theorem d_L_law_1124 : decode code 1124 = .ok (.aload_n 3, 1) := by decide +kernel
theorem d_L_law_1125 : decode code 1125 = .ok (.iconst 0, 1) := by decide +kernel
theorem d_L_law_1126 : decode code 1126 = .ok (.laload, 1) := by decide +kernel
theorem d_L_law_1127 : decode code 1127 = .ok (.iload 6, 2) := by decide +kernel
theorem d_L_law_1129 : decode code 1129 = .ok (.i2l, 1) := by decide +kernel
theorem d_L_law_1130 : decode code 1130 = .ok (.lcmp, 1) := by decide +kernel
theorem d_L_law_1131 : decode code 1131 = .ok (.ifCond .eq 5, 3) := by decide +kernel
theorem d_L_law_1134 : decode code 1134 = .ok (.iconst 0, 1) := by decide +kernel
theorem d_L_law_1135 : decode code 1135 = .ok (.ireturn, 1) := by decide +kernel
theorem d_L_law_1136 : decode code 1136 = .ok (.goto 327, 3) := by decide +kernel
theorem d_L_law_1139 : decode code 1139 = .ok (.aload_n 1, 1) := by decide +kernel
theorem d_L_law_1140 : decode code 1140 = .ok (.aload_n 0, 1) := by decide +kernel
theorem d_L_law_1141 : decode code 1141 = .ok (.iload 4, 2) := by decide +kernel
theorem d_L_law_1143 : decode code 1143 = .ok (.iconst 1, 1) := by decide +kernel
theorem d_L_law_1144 : decode code 1144 = .ok (.iadd, 1) := by decide +kernel
theorem d_L_law_1145 : decode code 1145 = .ok (.iaload, 1) := by decide +kernel
theorem d_L_law_1146 : decode code 1146 = .ok (.aload_n 3, 1) := by decide +kernel
theorem d_L_law_1147 : decode code 1147 = .ok (.invokestatic 139, 3) := by decide +kernel
theorem d_L_law_1150 : decode code 1150 = .ok (.istore 5, 2) := by decide +kernel
theorem d_L_law_1152 : decode code 1152 = .ok (.aload_n 2, 1) := by decide +kernel
theorem d_L_law_1153 : decode code 1153 = .ok (.aload_n 0, 1) := by decide +kernel
theorem d_L_law_1154 : decode code 1154 = .ok (.iload 4, 2) := by decide +kernel
theorem d_L_law_1156 : decode code 1156 = .ok (.iconst 1, 1) := by decide +kernel
theorem d_L_law_1157 : decode code 1157 = .ok (.iadd, 1) := by decide +kernel
theorem d_L_law_1158 : decode code 1158 = .ok (.iaload, 1) := by decide +kernel
theorem d_L_law_1159 : decode code 1159 = .ok (.invokevirtual 141, 3) := by decide +kernel
theorem d_L_law_1162 : decode code 1162 = .ok (.istore 6, 2) := by decide +kernel
theorem d_L_law_1164 : decode code 1164 = .ok (.aload_n 2, 1) := by decide +kernel
theorem d_L_law_1165 : decode code 1165 = .ok (.invokevirtual 90, 3) := by decide +kernel
theorem d_L_law_1168 : decode code 1168 = .ok (.iload 5, 2) := by decide +kernel
theorem d_L_law_1170 : decode code 1170 = .ok (.if_icmp .eq 5, 3) := by decide +kernel
theorem d_L_law_1173 : decode code 1173 = .ok (.iconst 0, 1) := by decide +kernel
theorem d_L_law_1174 : decode code 1174 = .ok (.ireturn, 1) := by decide +kernel
theorem d_L_law_1175 : decode code 1175 = .ok (.iload 5, 2) := by decide +kernel
theorem d_L_law_1177 : decode code 1177 = .ok (.ifCond .ne 15, 3) := by decide +kernel
theorem d_L_law_1180 : decode code 1180 = .ok (.aload_n 3, 1) := by decide +kernel
theorem d_L_law_1181 : decode code 1181 = .ok (.iconst 0, 1) := by decide +kernel
theorem d_L_law_1182 : decode code 1182 = .ok (.laload, 1) := by decide +kernel
theorem d_L_law_1183 : decode code 1183 = .ok (.iload 6, 2) := by decide +kernel
theorem d_L_law_1185 : decode code 1185 = .ok (.i2l, 1) := by decide +kernel
theorem d_L_law_1186 : decode code 1186 = .ok (.lcmp, 1) := by decide +kernel
theorem d_L_law_1187 : decode code 1187 = .ok (.ifCond .eq 5, 3) := by decide +kernel
theorem d_L_law_1190 : decode code 1190 = .ok (.iconst 0, 1) := by decide +kernel
theorem d_L_law_1191 : decode code 1191 = .ok (.ireturn, 1) := by decide +kernel
theorem d_L_law_1192 : decode code 1192 = .ok (.goto 271, 3) := by decide +kernel
theorem d_L_law_1195 : decode code 1195 = .ok (.aload_n 1, 1) := by decide +kernel
theorem d_L_law_1196 : decode code 1196 = .ok (.aload_n 0, 1) := by decide +kernel
theorem d_L_law_1197 : decode code 1197 = .ok (.iload 4, 2) := by decide +kernel
theorem d_L_law_1199 : decode code 1199 = .ok (.iconst 1, 1) := by decide +kernel
theorem d_L_law_1200 : decode code 1200 = .ok (.iadd, 1) := by decide +kernel
theorem d_L_law_1201 : decode code 1201 = .ok (.iaload, 1) := by decide +kernel
theorem d_L_law_1202 : decode code 1202 = .ok (.aload_n 0, 1) := by decide +kernel
theorem d_L_law_1203 : decode code 1203 = .ok (.iload 4, 2) := by decide +kernel
theorem d_L_law_1205 : decode code 1205 = .ok (.iconst 2, 1) := by decide +kernel
theorem d_L_law_1206 : decode code 1206 = .ok (.iadd, 1) := by decide +kernel
theorem d_L_law_1207 : decode code 1207 = .ok (.iaload, 1) := by decide +kernel
theorem d_L_law_1208 : decode code 1208 = .ok (.aload_n 3, 1) := by decide +kernel
theorem d_L_law_1209 : decode code 1209 = .ok (.invokestatic 142, 3) := by decide +kernel
theorem d_L_law_1212 : decode code 1212 = .ok (.istore 5, 2) := by decide +kernel
theorem d_L_law_1214 : decode code 1214 = .ok (.aload_n 2, 1) := by decide +kernel
theorem d_L_law_1215 : decode code 1215 = .ok (.aload_n 0, 1) := by decide +kernel
theorem d_L_law_1216 : decode code 1216 = .ok (.iload 4, 2) := by decide +kernel
theorem d_L_law_1218 : decode code 1218 = .ok (.iconst 1, 1) := by decide +kernel
theorem d_L_law_1219 : decode code 1219 = .ok (.iadd, 1) := by decide +kernel
theorem d_L_law_1220 : decode code 1220 = .ok (.iaload, 1) := by decide +kernel
theorem d_L_law_1221 : decode code 1221 = .ok (.aload_n 0, 1) := by decide +kernel
theorem d_L_law_1222 : decode code 1222 = .ok (.iload 4, 2) := by decide +kernel
theorem d_L_law_1224 : decode code 1224 = .ok (.iconst 2, 1) := by decide +kernel
theorem d_L_law_1225 : decode code 1225 = .ok (.iadd, 1) := by decide +kernel
theorem d_L_law_1226 : decode code 1226 = .ok (.iaload, 1) := by decide +kernel
theorem d_L_law_1227 : decode code 1227 = .ok (.invokevirtual 144, 3) := by decide +kernel
theorem d_L_law_1230 : decode code 1230 = .ok (.istore 6, 2) := by decide +kernel
theorem d_L_law_1232 : decode code 1232 = .ok (.aload_n 2, 1) := by decide +kernel
theorem d_L_law_1233 : decode code 1233 = .ok (.invokevirtual 90, 3) := by decide +kernel
theorem d_L_law_1236 : decode code 1236 = .ok (.iload 5, 2) := by decide +kernel
theorem d_L_law_1238 : decode code 1238 = .ok (.if_icmp .eq 5, 3) := by decide +kernel
theorem d_L_law_1241 : decode code 1241 = .ok (.iconst 0, 1) := by decide +kernel
theorem d_L_law_1242 : decode code 1242 = .ok (.ireturn, 1) := by decide +kernel
theorem d_L_law_1243 : decode code 1243 = .ok (.iload 5, 2) := by decide +kernel
theorem d_L_law_1245 : decode code 1245 = .ok (.ifCond .ne 15, 3) := by decide +kernel
theorem d_L_law_1248 : decode code 1248 = .ok (.aload_n 3, 1) := by decide +kernel
theorem d_L_law_1249 : decode code 1249 = .ok (.iconst 0, 1) := by decide +kernel
theorem d_L_law_1250 : decode code 1250 = .ok (.laload, 1) := by decide +kernel
theorem d_L_law_1251 : decode code 1251 = .ok (.iload 6, 2) := by decide +kernel
theorem d_L_law_1253 : decode code 1253 = .ok (.i2l, 1) := by decide +kernel
theorem d_L_law_1254 : decode code 1254 = .ok (.lcmp, 1) := by decide +kernel
theorem d_L_law_1255 : decode code 1255 = .ok (.ifCond .eq 5, 3) := by decide +kernel
theorem d_L_law_1258 : decode code 1258 = .ok (.iconst 0, 1) := by decide +kernel
theorem d_L_law_1259 : decode code 1259 = .ok (.ireturn, 1) := by decide +kernel
end
section
theorem d_L_law_1260 : decode code 1260 = .ok (.goto 203, 3) := by decide +kernel
theorem d_L_law_1263 : decode code 1263 = .ok (.aload_n 1, 1) := by decide +kernel
theorem d_L_law_1264 : decode code 1264 = .ok (.aload_n 0, 1) := by decide +kernel
theorem d_L_law_1265 : decode code 1265 = .ok (.iload 4, 2) := by decide +kernel
theorem d_L_law_1267 : decode code 1267 = .ok (.iconst 1, 1) := by decide +kernel
theorem d_L_law_1268 : decode code 1268 = .ok (.iadd, 1) := by decide +kernel
theorem d_L_law_1269 : decode code 1269 = .ok (.iaload, 1) := by decide +kernel
theorem d_L_law_1270 : decode code 1270 = .ok (.aload_n 0, 1) := by decide +kernel
theorem d_L_law_1271 : decode code 1271 = .ok (.iload 4, 2) := by decide +kernel
theorem d_L_law_1273 : decode code 1273 = .ok (.iconst 2, 1) := by decide +kernel
theorem d_L_law_1274 : decode code 1274 = .ok (.iadd, 1) := by decide +kernel
theorem d_L_law_1275 : decode code 1275 = .ok (.iaload, 1) := by decide +kernel
theorem d_L_law_1276 : decode code 1276 = .ok (.aload_n 3, 1) := by decide +kernel
theorem d_L_law_1277 : decode code 1277 = .ok (.invokestatic 145, 3) := by decide +kernel
theorem d_L_law_1280 : decode code 1280 = .ok (.istore 5, 2) := by decide +kernel
theorem d_L_law_1282 : decode code 1282 = .ok (.aload_n 2, 1) := by decide +kernel
theorem d_L_law_1283 : decode code 1283 = .ok (.aload_n 0, 1) := by decide +kernel
theorem d_L_law_1284 : decode code 1284 = .ok (.iload 4, 2) := by decide +kernel
theorem d_L_law_1286 : decode code 1286 = .ok (.iconst 1, 1) := by decide +kernel
theorem d_L_law_1287 : decode code 1287 = .ok (.iadd, 1) := by decide +kernel
theorem d_L_law_1288 : decode code 1288 = .ok (.iaload, 1) := by decide +kernel
theorem d_L_law_1289 : decode code 1289 = .ok (.aload_n 0, 1) := by decide +kernel
theorem d_L_law_1290 : decode code 1290 = .ok (.iload 4, 2) := by decide +kernel
theorem d_L_law_1292 : decode code 1292 = .ok (.iconst 2, 1) := by decide +kernel
theorem d_L_law_1293 : decode code 1293 = .ok (.iadd, 1) := by decide +kernel
theorem d_L_law_1294 : decode code 1294 = .ok (.iaload, 1) := by decide +kernel
theorem d_L_law_1295 : decode code 1295 = .ok (.invokevirtual 147, 3) := by decide +kernel
theorem d_L_law_1298 : decode code 1298 = .ok (.istore 6, 2) := by decide +kernel
theorem d_L_law_1300 : decode code 1300 = .ok (.aload_n 2, 1) := by decide +kernel
theorem d_L_law_1301 : decode code 1301 = .ok (.invokevirtual 90, 3) := by decide +kernel
theorem d_L_law_1304 : decode code 1304 = .ok (.iload 5, 2) := by decide +kernel
theorem d_L_law_1306 : decode code 1306 = .ok (.if_icmp .eq 5, 3) := by decide +kernel
theorem d_L_law_1309 : decode code 1309 = .ok (.iconst 0, 1) := by decide +kernel
theorem d_L_law_1310 : decode code 1310 = .ok (.ireturn, 1) := by decide +kernel
theorem d_L_law_1311 : decode code 1311 = .ok (.iload 5, 2) := by decide +kernel
theorem d_L_law_1313 : decode code 1313 = .ok (.ifCond .ne 15, 3) := by decide +kernel
theorem d_L_law_1316 : decode code 1316 = .ok (.aload_n 3, 1) := by decide +kernel
theorem d_L_law_1317 : decode code 1317 = .ok (.iconst 0, 1) := by decide +kernel
theorem d_L_law_1318 : decode code 1318 = .ok (.laload, 1) := by decide +kernel
theorem d_L_law_1319 : decode code 1319 = .ok (.iload 6, 2) := by decide +kernel
theorem d_L_law_1321 : decode code 1321 = .ok (.i2l, 1) := by decide +kernel
theorem d_L_law_1322 : decode code 1322 = .ok (.lcmp, 1) := by decide +kernel
theorem d_L_law_1323 : decode code 1323 = .ok (.ifCond .eq 5, 3) := by decide +kernel
theorem d_L_law_1326 : decode code 1326 = .ok (.iconst 0, 1) := by decide +kernel
theorem d_L_law_1327 : decode code 1327 = .ok (.ireturn, 1) := by decide +kernel
theorem d_L_law_1328 : decode code 1328 = .ok (.goto 135, 3) := by decide +kernel
theorem d_L_law_1331 : decode code 1331 = .ok (.aload_n 1, 1) := by decide +kernel
theorem d_L_law_1332 : decode code 1332 = .ok (.aload_n 0, 1) := by decide +kernel
theorem d_L_law_1333 : decode code 1333 = .ok (.iload 4, 2) := by decide +kernel
theorem d_L_law_1335 : decode code 1335 = .ok (.iconst 1, 1) := by decide +kernel
theorem d_L_law_1336 : decode code 1336 = .ok (.iadd, 1) := by decide +kernel
theorem d_L_law_1337 : decode code 1337 = .ok (.iaload, 1) := by decide +kernel
theorem d_L_law_1338 : decode code 1338 = .ok (.aload_n 3, 1) := by decide +kernel
theorem d_L_law_1339 : decode code 1339 = .ok (.invokestatic 148, 3) := by decide +kernel
theorem d_L_law_1342 : decode code 1342 = .ok (.istore 5, 2) := by decide +kernel
theorem d_L_law_1344 : decode code 1344 = .ok (.aload_n 2, 1) := by decide +kernel
theorem d_L_law_1345 : decode code 1345 = .ok (.aload_n 0, 1) := by decide +kernel
theorem d_L_law_1346 : decode code 1346 = .ok (.iload 4, 2) := by decide +kernel
theorem d_L_law_1348 : decode code 1348 = .ok (.iconst 1, 1) := by decide +kernel
theorem d_L_law_1349 : decode code 1349 = .ok (.iadd, 1) := by decide +kernel
theorem d_L_law_1350 : decode code 1350 = .ok (.iaload, 1) := by decide +kernel
theorem d_L_law_1351 : decode code 1351 = .ok (.invokevirtual 150, 3) := by decide +kernel
theorem d_L_law_1354 : decode code 1354 = .ok (.istore 6, 2) := by decide +kernel
theorem d_L_law_1356 : decode code 1356 = .ok (.aload_n 2, 1) := by decide +kernel
theorem d_L_law_1357 : decode code 1357 = .ok (.invokevirtual 90, 3) := by decide +kernel
theorem d_L_law_1360 : decode code 1360 = .ok (.iload 5, 2) := by decide +kernel
theorem d_L_law_1362 : decode code 1362 = .ok (.if_icmp .eq 5, 3) := by decide +kernel
theorem d_L_law_1365 : decode code 1365 = .ok (.iconst 0, 1) := by decide +kernel
theorem d_L_law_1366 : decode code 1366 = .ok (.ireturn, 1) := by decide +kernel
theorem d_L_law_1367 : decode code 1367 = .ok (.iload 5, 2) := by decide +kernel
theorem d_L_law_1369 : decode code 1369 = .ok (.ifCond .ne 15, 3) := by decide +kernel
theorem d_L_law_1372 : decode code 1372 = .ok (.aload_n 3, 1) := by decide +kernel
theorem d_L_law_1373 : decode code 1373 = .ok (.iconst 0, 1) := by decide +kernel
theorem d_L_law_1374 : decode code 1374 = .ok (.laload, 1) := by decide +kernel
theorem d_L_law_1375 : decode code 1375 = .ok (.iload 6, 2) := by decide +kernel
theorem d_L_law_1377 : decode code 1377 = .ok (.i2l, 1) := by decide +kernel
theorem d_L_law_1378 : decode code 1378 = .ok (.lcmp, 1) := by decide +kernel
theorem d_L_law_1379 : decode code 1379 = .ok (.ifCond .eq 5, 3) := by decide +kernel
theorem d_L_law_1382 : decode code 1382 = .ok (.iconst 0, 1) := by decide +kernel
theorem d_L_law_1383 : decode code 1383 = .ok (.ireturn, 1) := by decide +kernel
theorem d_L_law_1384 : decode code 1384 = .ok (.goto 79, 3) := by decide +kernel
theorem d_L_law_1387 : decode code 1387 = .ok (.aload_n 1, 1) := by decide +kernel
theorem d_L_law_1388 : decode code 1388 = .ok (.aload_n 0, 1) := by decide +kernel
theorem d_L_law_1389 : decode code 1389 = .ok (.iload 4, 2) := by decide +kernel
theorem d_L_law_1391 : decode code 1391 = .ok (.iconst 1, 1) := by decide +kernel
theorem d_L_law_1392 : decode code 1392 = .ok (.iadd, 1) := by decide +kernel
theorem d_L_law_1393 : decode code 1393 = .ok (.iaload, 1) := by decide +kernel
theorem d_L_law_1394 : decode code 1394 = .ok (.invokevirtual 151, 3) := by decide +kernel
theorem d_L_law_1397 : decode code 1397 = .ok (.aload_n 2, 1) := by decide +kernel
theorem d_L_law_1398 : decode code 1398 = .ok (.aload_n 0, 1) := by decide +kernel
theorem d_L_law_1399 : decode code 1399 = .ok (.iload 4, 2) := by decide +kernel
theorem d_L_law_1401 : decode code 1401 = .ok (.iconst 1, 1) := by decide +kernel
theorem d_L_law_1402 : decode code 1402 = .ok (.iadd, 1) := by decide +kernel
theorem d_L_law_1403 : decode code 1403 = .ok (.iaload, 1) := by decide +kernel
theorem d_L_law_1404 : decode code 1404 = .ok (.invokevirtual 155, 3) := by decide +kernel
theorem d_L_law_1407 : decode code 1407 = .ok (.if_icmp .eq 56, 3) := by decide +kernel
theorem d_L_law_1410 : decode code 1410 = .ok (.iconst 0, 1) := by decide +kernel
theorem d_L_law_1411 : decode code 1411 = .ok (.ireturn, 1) := by decide +kernel
theorem d_L_law_1412 : decode code 1412 = .ok (.aload_n 1, 1) := by decide +kernel
theorem d_L_law_1413 : decode code 1413 = .ok (.invokevirtual 156, 3) := by decide +kernel
theorem d_L_law_1416 : decode code 1416 = .ok (.aload_n 2, 1) := by decide +kernel
theorem d_L_law_1417 : decode code 1417 = .ok (.invokevirtual 159, 3) := by decide +kernel
theorem d_L_law_1420 : decode code 1420 = .ok (.if_icmp .eq 43, 3) := by decide +kernel
theorem d_L_law_1423 : decode code 1423 = .ok (.iconst 0, 1) := by decide +kernel
theorem d_L_law_1424 : decode code 1424 = .ok (.ireturn, 1) := by decide +kernel
theorem d_L_law_1425 : decode code 1425 = .ok (.aload_n 1, 1) := by decide +kernel
theorem d_L_law_1426 : decode code 1426 = .ok (.aload_n 0, 1) := by decide +kernel
theorem d_L_law_1427 : decode code 1427 = .ok (.iload 4, 2) := by decide +kernel
theorem d_L_law_1429 : decode code 1429 = .ok (.iconst 1, 1) := by decide +kernel
theorem d_L_law_1430 : decode code 1430 = .ok (.iadd, 1) := by decide +kernel
theorem d_L_law_1431 : decode code 1431 = .ok (.iaload, 1) := by decide +kernel
theorem d_L_law_1432 : decode code 1432 = .ok (.invokevirtual 160, 3) := by decide +kernel
theorem d_L_law_1435 : decode code 1435 = .ok (.aload_n 2, 1) := by decide +kernel
theorem d_L_law_1436 : decode code 1436 = .ok (.aload_n 0, 1) := by decide +kernel
theorem d_L_law_1437 : decode code 1437 = .ok (.iload 4, 2) := by decide +kernel
theorem d_L_law_1439 : decode code 1439 = .ok (.iconst 1, 1) := by decide +kernel
theorem d_L_law_1440 : decode code 1440 = .ok (.iadd, 1) := by decide +kernel
theorem d_L_law_1441 : decode code 1441 = .ok (.iaload, 1) := by decide +kernel
theorem d_L_law_1442 : decode code 1442 = .ok (.invokevirtual 163, 3) := by decide +kernel
theorem d_L_law_1445 : decode code 1445 = .ok (.if_icmp .eq 18, 3) := by decide +kernel
theorem d_L_law_1448 : decode code 1448 = .ok (.iconst 0, 1) := by decide +kernel
theorem d_L_law_1449 : decode code 1449 = .ok (.ireturn, 1) := by decide +kernel
theorem d_L_law_1450 : decode code 1450 = .ok (.aload_n 1, 1) := by decide +kernel
theorem d_L_law_1451 : decode code 1451 = .ok (.invokevirtual 164, 3) := by decide +kernel
theorem d_L_law_1454 : decode code 1454 = .ok (.aload_n 2, 1) := by decide +kernel
theorem d_L_law_1455 : decode code 1455 = .ok (.invokevirtual 167, 3) := by decide +kernel
theorem d_L_law_1458 : decode code 1458 = .ok (.if_icmp .eq 5, 3) := by decide +kernel
theorem d_L_law_1461 : decode code 1461 = .ok (.iconst 0, 1) := by decide +kernel
theorem d_L_law_1462 : decode code 1462 = .ok (.ireturn, 1) := by decide +kernel
theorem d_L_law_1463 : decode code 1463 = .ok (.iinc 4 4, 3) := by decide +kernel
theorem d_L_law_1466 : decode code 1466 = .ok (.goto (-1443), 3) := by decide +kernel
theorem d_L_law_1469 : decode code 1469 = .ok (.iconst 1, 1) := by decide +kernel
theorem d_L_law_1470 : decode code 1470 = .ok (.ireturn, 1) := by decide +kernel
end
section
theorem d_M_init_0 : decode prog_5_method_1_code 0 = .ok (.aload_n 0, 1) := by decide +kernel
theorem d_M_init_1 : decode prog_5_method_1_code 1 = .ok (.invokespecial 1, 3) := by decide +kernel
theorem d_M_init_4 : decode prog_5_method_1_code 4 = .ok (.aload_n 0, 1) := by decide +kernel
theorem d_M_init_5 : decode prog_5_method_1_code 5 = .ok (.sipush 192, 3) := by decide +kernel
theorem d_M_init_8 : decode prog_5_method_1_code 8 = .ok (.newarray .int, 2) := by decide +kernel
theorem d_M_init_10 : decode prog_5_method_1_code 10 = .ok (.putfield 7, 3) := by decide +kernel
theorem d_M_init_13 : decode prog_5_method_1_code 13 = .ok (.aload_n 0, 1) := by decide +kernel
theorem d_M_init_14 : decode prog_5_method_1_code 14 = .ok (.sipush 192, 3) := by decide +kernel
theorem d_M_init_17 : decode prog_5_method_1_code 17 = .ok (.newarray .int, 2) := by decide +kernel
theorem d_M_init_19 : decode prog_5_method_1_code 19 = .ok (.putfield 13, 3) := by decide +kernel
theorem d_M_init_22 : decode prog_5_method_1_code 22 = .ok (.aload_n 0, 1) := by decide +kernel
theorem d_M_init_23 : decode prog_5_method_1_code 23 = .ok (.sipush 192, 3) := by decide +kernel
theorem d_M_init_26 : decode prog_5_method_1_code 26 = .ok (.newarray .int, 2) := by decide +kernel
theorem d_M_init_28 : decode prog_5_method_1_code 28 = .ok (.putfield 16, 3) := by decide +kernel
theorem d_M_init_31 : decode prog_5_method_1_code 31 = .ok (.aload_n 0, 1) := by decide +kernel
theorem d_M_init_32 : decode prog_5_method_1_code 32 = .ok (.sipush 192, 3) := by decide +kernel
theorem d_M_init_35 : decode prog_5_method_1_code 35 = .ok (.newarray .int, 2) := by decide +kernel
theorem d_M_init_37 : decode prog_5_method_1_code 37 = .ok (.putfield 19, 3) := by decide +kernel
theorem d_M_init_40 : decode prog_5_method_1_code 40 = .ok (.aload_n 0, 1) := by decide +kernel
theorem d_M_init_41 : decode prog_5_method_1_code 41 = .ok (.sipush 768, 3) := by decide +kernel
theorem d_M_init_44 : decode prog_5_method_1_code 44 = .ok (.newarray .int, 2) := by decide +kernel
theorem d_M_init_46 : decode prog_5_method_1_code 46 = .ok (.putfield 22, 3) := by decide +kernel
theorem d_M_init_49 : decode prog_5_method_1_code 49 = .ok (.aload_n 0, 1) := by decide +kernel
theorem d_M_init_50 : decode prog_5_method_1_code 50 = .ok (.bipush 40, 2) := by decide +kernel
theorem d_M_init_52 : decode prog_5_method_1_code 52 = .ok (.newarray .boolean, 2) := by decide +kernel
theorem d_M_init_54 : decode prog_5_method_1_code 54 = .ok (.putfield 25, 3) := by decide +kernel
theorem d_M_init_57 : decode prog_5_method_1_code 57 = .ok (.aload_n 0, 1) := by decide +kernel
theorem d_M_init_58 : decode prog_5_method_1_code 58 = .ok (.bipush 40, 2) := by decide +kernel
theorem d_M_init_60 : decode prog_5_method_1_code 60 = .ok (.newarray .int, 2) := by decide +kernel
theorem d_M_init_62 : decode prog_5_method_1_code 62 = .ok (.putfield 29, 3) := by decide +kernel
theorem d_M_init_65 : decode prog_5_method_1_code 65 = .ok (.aload_n 0, 1) := by decide +kernel
theorem d_M_init_66 : decode prog_5_method_1_code 66 = .ok (.bipush 40, 2) := by decide +kernel
theorem d_M_init_68 : decode prog_5_method_1_code 68 = .ok (.newarray .int, 2) := by decide +kernel
theorem d_M_init_70 : decode prog_5_method_1_code 70 = .ok (.putfield 32, 3) := by decide +kernel
theorem d_M_init_73 : decode prog_5_method_1_code 73 = .ok (.aload_n 0, 1) := by decide +kernel
theorem d_M_init_74 : decode prog_5_method_1_code 74 = .ok (.bipush 40, 2) := by decide +kernel
theorem d_M_init_76 : decode prog_5_method_1_code 76 = .ok (.newarray .int, 2) := by decide +kernel
theorem d_M_init_78 : decode prog_5_method_1_code 78 = .ok (.putfield 35, 3) := by decide +kernel
theorem d_M_init_81 : decode prog_5_method_1_code 81 = .ok (.aload_n 0, 1) := by decide +kernel
theorem d_M_init_82 : decode prog_5_method_1_code 82 = .ok (.bipush 40, 2) := by decide +kernel
theorem d_M_init_84 : decode prog_5_method_1_code 84 = .ok (.newarray .int, 2) := by decide +kernel
theorem d_M_init_86 : decode prog_5_method_1_code 86 = .ok (.putfield 38, 3) := by decide +kernel
theorem d_M_init_89 : decode prog_5_method_1_code 89 = .ok (.aload_n 0, 1) := by decide +kernel
theorem d_M_init_90 : decode prog_5_method_1_code 90 = .ok (.iconst (-1), 1) := by decide +kernel
theorem d_M_init_91 : decode prog_5_method_1_code 91 = .ok (.putfield 41, 3) := by decide +kernel
theorem d_M_init_94 : decode prog_5_method_1_code 94 = .ok (.iconst 0, 1) := by decide +kernel
theorem d_M_init_95 : decode prog_5_method_1_code 95 = .ok (.istore_n 1, 1) := by decide +kernel
theorem d_M_init_96 : decode prog_5_method_1_code 96 = .ok (.iload_n 1, 1) := by decide +kernel
theorem d_M_init_97 : decode prog_5_method_1_code 97 = .ok (.sipush 192, 3) := by decide +kernel
theorem d_M_init_100 : decode prog_5_method_1_code 100 = .ok (.if_icmp .ge 16, 3) := by decide +kernel
theorem d_M_init_103 : decode prog_5_method_1_code 103 = .ok (.aload_n 0, 1) := by decide +kernel
theorem d_M_init_104 : decode prog_5_method_1_code 104 = .ok (.getfield 7, 3) := by decide +kernel
theorem d_M_init_107 : decode prog_5_method_1_code 107 = .ok (.iload_n 1, 1) := by decide +kernel
theorem d_M_init_108 : decode prog_5_method_1_code 108 = .ok (.iconst (-1), 1) := by decide +kernel
theorem d_M_init_109 : decode prog_5_method_1_code 109 = .ok (.iastore, 1) := by decide +kernel
theorem d_M_init_110 : decode prog_5_method_1_code 110 = .ok (.iinc 1 1, 3) := by decide +kernel
theorem d_M_init_113 : decode prog_5_method_1_code 113 = .ok (.goto (-17), 3) := by decide +kernel
theorem d_M_init_116 : decode prog_5_method_1_code 116 = .ok (.aload_n 0, 1) := by decide +kernel
theorem d_M_init_117 : decode prog_5_method_1_code 117 = .ok (.getfield 25, 3) := by decide +kernel
theorem d_M_init_120 : decode prog_5_method_1_code 120 = .ok (.iconst 0, 1) := by decide +kernel
theorem d_M_init_121 : decode prog_5_method_1_code 121 = .ok (.iconst 1, 1) := by decide +kernel
theorem d_M_init_122 : decode prog_5_method_1_code 122 = .ok (.bastore, 1) := by decide +kernel
theorem d_M_init_123 : decode prog_5_method_1_code 123 = .ok (.aload_n 0, 1) := by decide +kernel
theorem d_M_init_124 : decode prog_5_method_1_code 124 = .ok (.getfield 29, 3) := by decide +kernel
theorem d_M_init_127 : decode prog_5_method_1_code 127 = .ok (.iconst 0, 1) := by decide +kernel
theorem d_M_init_128 : decode prog_5_method_1_code 128 = .ok (.iconst (-1), 1) := by decide +kernel
theorem d_M_init_129 : decode prog_5_method_1_code 129 = .ok (.iastore, 1) := by decide +kernel
theorem d_M_init_130 : decode prog_5_method_1_code 130 = .ok (.aload_n 0, 1) := by decide +kernel
theorem d_M_init_131 : decode prog_5_method_1_code 131 = .ok (.getfield 32, 3) := by decide +kernel
theorem d_M_init_134 : decode prog_5_method_1_code 134 = .ok (.iconst 0, 1) := by decide +kernel
theorem d_M_init_135 : decode prog_5_method_1_code 135 = .ok (.sipush 192, 3) := by decide +kernel
theorem d_M_init_138 : decode prog_5_method_1_code 138 = .ok (.iastore, 1) := by decide +kernel
theorem d_M_init_139 : decode prog_5_method_1_code 139 = .ok (.return_, 1) := by decide +kernel
theorem d_M_thrown_0 : decode prog_5_method_2_code 0 = .ok (.aload_n 0, 1) := by decide +kernel
theorem d_M_thrown_1 : decode prog_5_method_2_code 1 = .ok (.getfield 45, 3) := by decide +kernel
theorem d_M_thrown_4 : decode prog_5_method_2_code 4 = .ok (.ireturn, 1) := by decide +kernel
theorem d_M_bank_0 : decode prog_5_method_12_code 0 = .ok (.aload_n 0, 1) := by decide +kernel
theorem d_M_bank_1 : decode prog_5_method_12_code 1 = .ok (.aload_n 0, 1) := by decide +kernel
theorem d_M_bank_2 : decode prog_5_method_12_code 2 = .ok (.iload_n 1, 1) := by decide +kernel
theorem d_M_bank_3 : decode prog_5_method_12_code 3 = .ok (.invokevirtual 63, 3) := by decide +kernel
theorem d_M_bank_6 : decode prog_5_method_12_code 6 = .ok (.ifCond .ne 7, 3) := by decide +kernel
theorem d_M_bank_9 : decode prog_5_method_12_code 9 = .ok (.iconst 1, 1) := by decide +kernel
theorem d_M_bank_10 : decode prog_5_method_12_code 10 = .ok (.goto 31, 3) := by decide +kernel
theorem d_M_bank_13 : decode prog_5_method_12_code 13 = .ok (.iload_n 2, 1) := by decide +kernel
theorem d_M_bank_14 : decode prog_5_method_12_code 14 = .ok (.iconst 0, 1) := by decide +kernel
theorem d_M_bank_15 : decode prog_5_method_12_code 15 = .ok (.sipush 192, 3) := by decide +kernel
theorem d_M_bank_18 : decode prog_5_method_12_code 18 = .ok (.invokestatic 48, 3) := by decide +kernel
theorem d_M_bank_21 : decode prog_5_method_12_code 21 = .ok (.ifCond .ne 7, 3) := by decide +kernel
theorem d_M_bank_24 : decode prog_5_method_12_code 24 = .ok (.iconst 2, 1) := by decide +kernel
theorem d_M_bank_25 : decode prog_5_method_12_code 25 = .ok (.goto 16, 3) := by decide +kernel
theorem d_M_bank_28 : decode prog_5_method_12_code 28 = .ok (.aload_n 0, 1) := by decide +kernel
theorem d_M_bank_29 : decode prog_5_method_12_code 29 = .ok (.iload_n 1, 1) := by decide +kernel
theorem d_M_bank_30 : decode prog_5_method_12_code 30 = .ok (.invokevirtual 67, 3) := by decide +kernel
theorem d_M_bank_33 : decode prog_5_method_12_code 33 = .ok (.ifCond .ne 7, 3) := by decide +kernel
theorem d_M_bank_36 : decode prog_5_method_12_code 36 = .ok (.iconst 3, 1) := by decide +kernel
theorem d_M_bank_37 : decode prog_5_method_12_code 37 = .ok (.goto 4, 3) := by decide +kernel
theorem d_M_bank_40 : decode prog_5_method_12_code 40 = .ok (.iconst 0, 1) := by decide +kernel
theorem d_M_bank_41 : decode prog_5_method_12_code 41 = .ok (.putfield 45, 3) := by decide +kernel
theorem d_M_bank_44 : decode prog_5_method_12_code 44 = .ok (.aload_n 0, 1) := by decide +kernel
theorem d_M_bank_45 : decode prog_5_method_12_code 45 = .ok (.getfield 45, 3) := by decide +kernel
theorem d_M_bank_48 : decode prog_5_method_12_code 48 = .ok (.ifCond .le 5, 3) := by decide +kernel
theorem d_M_bank_51 : decode prog_5_method_12_code 51 = .ok (.iconst 0, 1) := by decide +kernel
theorem d_M_bank_52 : decode prog_5_method_12_code 52 = .ok (.ireturn, 1) := by decide +kernel
theorem d_M_bank_53 : decode prog_5_method_12_code 53 = .ok (.iconst 1, 1) := by decide +kernel
theorem d_M_bank_54 : decode prog_5_method_12_code 54 = .ok (.istore_n 3, 1) := by decide +kernel
theorem d_M_bank_55 : decode prog_5_method_12_code 55 = .ok (.iload_n 3, 1) := by decide +kernel
theorem d_M_bank_56 : decode prog_5_method_12_code 56 = .ok (.bipush 40, 2) := by decide +kernel
theorem d_M_bank_58 : decode prog_5_method_12_code 58 = .ok (.if_icmp .ge 18, 3) := by decide +kernel
theorem d_M_bank_61 : decode prog_5_method_12_code 61 = .ok (.aload_n 0, 1) := by decide +kernel
theorem d_M_bank_62 : decode prog_5_method_12_code 62 = .ok (.getfield 25, 3) := by decide +kernel
theorem d_M_bank_65 : decode prog_5_method_12_code 65 = .ok (.iload_n 3, 1) := by decide +kernel
theorem d_M_bank_66 : decode prog_5_method_12_code 66 = .ok (.baload, 1) := by decide +kernel
theorem d_M_bank_67 : decode prog_5_method_12_code 67 = .ok (.ifCond .eq 9, 3) := by decide +kernel
theorem d_M_bank_70 : decode prog_5_method_12_code 70 = .ok (.iinc 3 1, 3) := by decide +kernel
theorem d_M_bank_73 : decode prog_5_method_12_code 73 = .ok (.goto (-18), 3) := by decide +kernel
theorem d_M_bank_76 : decode prog_5_method_12_code 76 = .ok (.aload_n 0, 1) := by decide +kernel
theorem d_M_bank_77 : decode prog_5_method_12_code 77 = .ok (.iload_n 1, 1) := by decide +kernel
theorem d_M_bank_78 : decode prog_5_method_12_code 78 = .ok (.invokevirtual 70, 3) := by decide +kernel
theorem d_M_bank_81 : decode prog_5_method_12_code 81 = .ok (.bipush 6, 2) := by decide +kernel
theorem d_M_bank_83 : decode prog_5_method_12_code 83 = .ok (.if_icmp .eq 9, 3) := by decide +kernel
theorem d_M_bank_86 : decode prog_5_method_12_code 86 = .ok (.iload_n 3, 1) := by decide +kernel
theorem d_M_bank_87 : decode prog_5_method_12_code 87 = .ok (.bipush 40, 2) := by decide +kernel
theorem d_M_bank_89 : decode prog_5_method_12_code 89 = .ok (.if_icmp .ne 15, 3) := by decide +kernel
theorem d_M_bank_92 : decode prog_5_method_12_code 92 = .ok (.aload_n 0, 1) := by decide +kernel
theorem d_M_bank_93 : decode prog_5_method_12_code 93 = .ok (.aload_n 0, 1) := by decide +kernel
theorem d_M_bank_94 : decode prog_5_method_12_code 94 = .ok (.iconst 4, 1) := by decide +kernel
theorem d_M_bank_95 : decode prog_5_method_12_code 95 = .ok (.iconst (-1), 1) := by decide +kernel
theorem d_M_bank_96 : decode prog_5_method_12_code 96 = .ok (.invokevirtual 73, 3) := by decide +kernel
theorem d_M_bank_99 : decode prog_5_method_12_code 99 = .ok (.putfield 45, 3) := by decide +kernel
theorem d_M_bank_102 : decode prog_5_method_12_code 102 = .ok (.iconst 0, 1) := by decide +kernel
theorem d_M_bank_103 : decode prog_5_method_12_code 103 = .ok (.ireturn, 1) := by decide +kernel
theorem d_M_bank_104 : decode prog_5_method_12_code 104 = .ok (.aload_n 0, 1) := by decide +kernel
theorem d_M_bank_105 : decode prog_5_method_12_code 105 = .ok (.getfield 25, 3) := by decide +kernel
theorem d_M_bank_108 : decode prog_5_method_12_code 108 = .ok (.iload_n 3, 1) := by decide +kernel
theorem d_M_bank_109 : decode prog_5_method_12_code 109 = .ok (.iconst 1, 1) := by decide +kernel
theorem d_M_bank_110 : decode prog_5_method_12_code 110 = .ok (.bastore, 1) := by decide +kernel
theorem d_M_bank_111 : decode prog_5_method_12_code 111 = .ok (.aload_n 0, 1) := by decide +kernel
theorem d_M_bank_112 : decode prog_5_method_12_code 112 = .ok (.getfield 29, 3) := by decide +kernel
theorem d_M_bank_115 : decode prog_5_method_12_code 115 = .ok (.iload_n 3, 1) := by decide +kernel
theorem d_M_bank_116 : decode prog_5_method_12_code 116 = .ok (.iload_n 1, 1) := by decide +kernel
theorem d_M_bank_117 : decode prog_5_method_12_code 117 = .ok (.iastore, 1) := by decide +kernel
theorem d_M_bank_118 : decode prog_5_method_12_code 118 = .ok (.aload_n 0, 1) := by decide +kernel
theorem d_M_bank_119 : decode prog_5_method_12_code 119 = .ok (.getfield 32, 3) := by decide +kernel
theorem d_M_bank_122 : decode prog_5_method_12_code 122 = .ok (.iload_n 3, 1) := by decide +kernel
theorem d_M_bank_123 : decode prog_5_method_12_code 123 = .ok (.iload_n 2, 1) := by decide +kernel
theorem d_M_bank_124 : decode prog_5_method_12_code 124 = .ok (.iastore, 1) := by decide +kernel
theorem d_M_bank_125 : decode prog_5_method_12_code 125 = .ok (.aload_n 0, 1) := by decide +kernel
theorem d_M_bank_126 : decode prog_5_method_12_code 126 = .ok (.getfield 35, 3) := by decide +kernel
theorem d_M_bank_129 : decode prog_5_method_12_code 129 = .ok (.iload_n 3, 1) := by decide +kernel
theorem d_M_bank_130 : decode prog_5_method_12_code 130 = .ok (.iconst 0, 1) := by decide +kernel
theorem d_M_bank_131 : decode prog_5_method_12_code 131 = .ok (.iastore, 1) := by decide +kernel
theorem d_M_bank_132 : decode prog_5_method_12_code 132 = .ok (.aload_n 0, 1) := by decide +kernel
theorem d_M_bank_133 : decode prog_5_method_12_code 133 = .ok (.getfield 38, 3) := by decide +kernel
theorem d_M_bank_136 : decode prog_5_method_12_code 136 = .ok (.iload_n 3, 1) := by decide +kernel
theorem d_M_bank_137 : decode prog_5_method_12_code 137 = .ok (.iconst 0, 1) := by decide +kernel
theorem d_M_bank_138 : decode prog_5_method_12_code 138 = .ok (.iastore, 1) := by decide +kernel
theorem d_M_bank_139 : decode prog_5_method_12_code 139 = .ok (.iload_n 3, 1) := by decide +kernel
theorem d_M_bank_140 : decode prog_5_method_12_code 140 = .ok (.ireturn, 1) := by decide +kernel
theorem d_M_isBank_0 : decode prog_5_method_4_code 0 = .ok (.iload_n 1, 1) := by decide +kernel
theorem d_M_isBank_1 : decode prog_5_method_4_code 1 = .ok (.iconst 0, 1) := by decide +kernel
theorem d_M_isBank_2 : decode prog_5_method_4_code 2 = .ok (.bipush 39, 2) := by decide +kernel
theorem d_M_isBank_4 : decode prog_5_method_4_code 4 = .ok (.invokestatic 48, 3) := by decide +kernel
theorem d_M_isBank_7 : decode prog_5_method_4_code 7 = .ok (.ifCond .eq 16, 3) := by decide +kernel
theorem d_M_isBank_10 : decode prog_5_method_4_code 10 = .ok (.aload_n 0, 1) := by decide +kernel
theorem d_M_isBank_11 : decode prog_5_method_4_code 11 = .ok (.getfield 25, 3) := by decide +kernel
theorem d_M_isBank_14 : decode prog_5_method_4_code 14 = .ok (.iload_n 1, 1) := by decide +kernel
theorem d_M_isBank_15 : decode prog_5_method_4_code 15 = .ok (.baload, 1) := by decide +kernel
theorem d_M_isBank_16 : decode prog_5_method_4_code 16 = .ok (.ifCond .eq 7, 3) := by decide +kernel
theorem d_M_isBank_19 : decode prog_5_method_4_code 19 = .ok (.iconst 1, 1) := by decide +kernel
theorem d_M_isBank_20 : decode prog_5_method_4_code 20 = .ok (.goto 4, 3) := by decide +kernel
theorem d_M_isBank_23 : decode prog_5_method_4_code 23 = .ok (.iconst 0, 1) := by decide +kernel
theorem d_M_isBank_24 : decode prog_5_method_4_code 24 = .ok (.ireturn, 1) := by decide +kernel
theorem d_M_in_0 : decode prog_5_method_3_code 0 = .ok (.iload_n 0, 1) := by decide +kernel
theorem d_M_in_1 : decode prog_5_method_3_code 1 = .ok (.iload_n 1, 1) := by decide +kernel
theorem d_M_in_2 : decode prog_5_method_3_code 2 = .ok (.if_icmp .lt 12, 3) := by decide +kernel
theorem d_M_in_5 : decode prog_5_method_3_code 5 = .ok (.iload_n 0, 1) := by decide +kernel
theorem d_M_in_6 : decode prog_5_method_3_code 6 = .ok (.iload_n 2, 1) := by decide +kernel
theorem d_M_in_7 : decode prog_5_method_3_code 7 = .ok (.if_icmp .gt 7, 3) := by decide +kernel
theorem d_M_in_10 : decode prog_5_method_3_code 10 = .ok (.iconst 1, 1) := by decide +kernel
theorem d_M_in_11 : decode prog_5_method_3_code 11 = .ok (.goto 4, 3) := by decide +kernel
theorem d_M_in_14 : decode prog_5_method_3_code 14 = .ok (.iconst 0, 1) := by decide +kernel
theorem d_M_in_15 : decode prog_5_method_3_code 15 = .ok (.ireturn, 1) := by decide +kernel
theorem d_M_isOpen_0 : decode prog_5_method_10_code 0 = .ok (.aload_n 0, 1) := by decide +kernel
theorem d_M_isOpen_1 : decode prog_5_method_10_code 1 = .ok (.getfield 35, 3) := by decide +kernel
theorem d_M_isOpen_4 : decode prog_5_method_10_code 4 = .ok (.iload_n 1, 1) := by decide +kernel
theorem d_M_isOpen_5 : decode prog_5_method_10_code 5 = .ok (.iaload, 1) := by decide +kernel
theorem d_M_isOpen_6 : decode prog_5_method_10_code 6 = .ok (.ifCond .ne 7, 3) := by decide +kernel
theorem d_M_isOpen_9 : decode prog_5_method_10_code 9 = .ok (.iconst 1, 1) := by decide +kernel
theorem d_M_isOpen_10 : decode prog_5_method_10_code 10 = .ok (.goto 4, 3) := by decide +kernel
theorem d_M_isOpen_13 : decode prog_5_method_10_code 13 = .ok (.iconst 0, 1) := by decide +kernel
theorem d_M_isOpen_14 : decode prog_5_method_10_code 14 = .ok (.ireturn, 1) := by decide +kernel
theorem d_M_depthOf_0 : decode prog_5_method_6_code 0 = .ok (.iconst 0, 1) := by decide +kernel
theorem d_M_depthOf_1 : decode prog_5_method_6_code 1 = .ok (.istore_n 2, 1) := by decide +kernel
theorem d_M_depthOf_2 : decode prog_5_method_6_code 2 = .ok (.aload_n 0, 1) := by decide +kernel
theorem d_M_depthOf_3 : decode prog_5_method_6_code 3 = .ok (.getfield 29, 3) := by decide +kernel
theorem d_M_depthOf_6 : decode prog_5_method_6_code 6 = .ok (.iload_n 1, 1) := by decide +kernel
theorem d_M_depthOf_7 : decode prog_5_method_6_code 7 = .ok (.iaload, 1) := by decide +kernel
theorem d_M_depthOf_8 : decode prog_5_method_6_code 8 = .ok (.istore_n 3, 1) := by decide +kernel
theorem d_M_depthOf_9 : decode prog_5_method_6_code 9 = .ok (.iload_n 3, 1) := by decide +kernel
theorem d_M_depthOf_10 : decode prog_5_method_6_code 10 = .ok (.ifCond .lt 16, 3) := by decide +kernel
theorem d_M_depthOf_13 : decode prog_5_method_6_code 13 = .ok (.iinc 2 1, 3) := by decide +kernel
theorem d_M_depthOf_16 : decode prog_5_method_6_code 16 = .ok (.aload_n 0, 1) := by decide +kernel
theorem d_M_depthOf_17 : decode prog_5_method_6_code 17 = .ok (.getfield 29, 3) := by decide +kernel
theorem d_M_depthOf_20 : decode prog_5_method_6_code 20 = .ok (.iload_n 3, 1) := by decide +kernel
theorem d_M_depthOf_21 : decode prog_5_method_6_code 21 = .ok (.iaload, 1) := by decide +kernel
theorem d_M_depthOf_22 : decode prog_5_method_6_code 22 = .ok (.istore_n 3, 1) := by decide +kernel
theorem d_M_depthOf_23 : decode prog_5_method_6_code 23 = .ok (.goto (-14), 3) := by decide +kernel
theorem d_M_depthOf_26 : decode prog_5_method_6_code 26 = .ok (.iload_n 2, 1) := by decide +kernel
theorem d_M_depthOf_27 : decode prog_5_method_6_code 27 = .ok (.ireturn, 1) := by decide +kernel
theorem d_M_unsupported_0 : decode prog_5_method_11_code 0 = .ok (.aload_n 0, 1) := by decide +kernel
theorem d_M_unsupported_1 : decode prog_5_method_11_code 1 = .ok (.iload_n 2, 1) := by decide +kernel
theorem d_M_unsupported_2 : decode prog_5_method_11_code 2 = .ok (.putfield 41, 3) := by decide +kernel
theorem d_M_unsupported_5 : decode prog_5_method_11_code 5 = .ok (.iload_n 1, 1) := by decide +kernel
theorem d_M_unsupported_6 : decode prog_5_method_11_code 6 = .ok (.ireturn, 1) := by decide +kernel
theorem d_M_buy_0 : decode prog_5_method_18_code 0 = .ok (.aload_n 0, 1) := by decide +kernel
theorem d_M_buy_1 : decode prog_5_method_18_code 1 = .ok (.aload_n 0, 1) := by decide +kernel
theorem d_M_buy_2 : decode prog_5_method_18_code 2 = .ok (.iload_n 1, 1) := by decide +kernel
theorem d_M_buy_3 : decode prog_5_method_18_code 3 = .ok (.invokevirtual 63, 3) := by decide +kernel
theorem d_M_buy_6 : decode prog_5_method_18_code 6 = .ok (.ifCond .eq 7, 3) := by decide +kernel
theorem d_M_buy_9 : decode prog_5_method_18_code 9 = .ok (.iconst 0, 1) := by decide +kernel
theorem d_M_buy_10 : decode prog_5_method_18_code 10 = .ok (.goto 4, 3) := by decide +kernel
theorem d_M_buy_13 : decode prog_5_method_18_code 13 = .ok (.iconst 1, 1) := by decide +kernel
theorem d_M_buy_14 : decode prog_5_method_18_code 14 = .ok (.putfield 45, 3) := by decide +kernel
theorem d_M_buy_17 : decode prog_5_method_18_code 17 = .ok (.aload_n 0, 1) := by decide +kernel
theorem d_M_buy_18 : decode prog_5_method_18_code 18 = .ok (.getfield 45, 3) := by decide +kernel
theorem d_M_buy_21 : decode prog_5_method_18_code 21 = .ok (.ifCond .le 7, 3) := by decide +kernel
theorem d_M_buy_24 : decode prog_5_method_18_code 24 = .ok (.iconst 0, 1) := by decide +kernel
theorem d_M_buy_25 : decode prog_5_method_18_code 25 = .ok (.goto 10, 3) := by decide +kernel
theorem d_M_buy_28 : decode prog_5_method_18_code 28 = .ok (.aload_n 0, 1) := by decide +kernel
theorem d_M_buy_29 : decode prog_5_method_18_code 29 = .ok (.iload_n 1, 1) := by decide +kernel
theorem d_M_buy_30 : decode prog_5_method_18_code 30 = .ok (.iconst 1, 1) := by decide +kernel
theorem d_M_buy_31 : decode prog_5_method_18_code 31 = .ok (.iconst 2, 1) := by decide +kernel
theorem d_M_buy_32 : decode prog_5_method_18_code 32 = .ok (.invokevirtual 99, 3) := by decide +kernel
theorem d_M_buy_35 : decode prog_5_method_18_code 35 = .ok (.ireturn, 1) := by decide +kernel
theorem d_M_bought_0 : decode prog_5_method_17_code 0 = .ok (.aload_n 0, 1) := by decide +kernel
theorem d_M_bought_1 : decode prog_5_method_17_code 1 = .ok (.aload_n 0, 1) := by decide +kernel
theorem d_M_bought_2 : decode prog_5_method_17_code 2 = .ok (.iload_n 1, 1) := by decide +kernel
theorem d_M_bought_3 : decode prog_5_method_17_code 3 = .ok (.invokevirtual 67, 3) := by decide +kernel
theorem d_M_bought_6 : decode prog_5_method_17_code 6 = .ok (.ifCond .eq 7, 3) := by decide +kernel
theorem d_M_bought_9 : decode prog_5_method_17_code 9 = .ok (.iconst 0, 1) := by decide +kernel
theorem d_M_bought_10 : decode prog_5_method_17_code 10 = .ok (.goto 4, 3) := by decide +kernel
theorem d_M_bought_13 : decode prog_5_method_17_code 13 = .ok (.iload_n 3, 1) := by decide +kernel
theorem d_M_bought_14 : decode prog_5_method_17_code 14 = .ok (.putfield 45, 3) := by decide +kernel
theorem d_M_bought_17 : decode prog_5_method_17_code 17 = .ok (.aload_n 0, 1) := by decide +kernel
theorem d_M_bought_18 : decode prog_5_method_17_code 18 = .ok (.getfield 45, 3) := by decide +kernel
theorem d_M_bought_21 : decode prog_5_method_17_code 21 = .ok (.ifCond .le 5, 3) := by decide +kernel
theorem d_M_bought_24 : decode prog_5_method_17_code 24 = .ok (.iconst 0, 1) := by decide +kernel
theorem d_M_bought_25 : decode prog_5_method_17_code 25 = .ok (.ireturn, 1) := by decide +kernel
theorem d_M_bought_26 : decode prog_5_method_17_code 26 = .ok (.aload_n 0, 1) := by decide +kernel
theorem d_M_bought_27 : decode prog_5_method_17_code 27 = .ok (.getfield 38, 3) := by decide +kernel
theorem d_M_bought_30 : decode prog_5_method_17_code 30 = .ok (.iload_n 1, 1) := by decide +kernel
theorem d_M_bought_31 : decode prog_5_method_17_code 31 = .ok (.iaload, 1) := by decide +kernel
theorem d_M_bought_32 : decode prog_5_method_17_code 32 = .ok (.iload_n 2, 1) := by decide +kernel
theorem d_M_bought_33 : decode prog_5_method_17_code 33 = .ok (.if_icmp .ge 12, 3) := by decide +kernel
theorem d_M_bought_36 : decode prog_5_method_17_code 36 = .ok (.aload_n 0, 1) := by decide +kernel
theorem d_M_bought_37 : decode prog_5_method_17_code 37 = .ok (.getfield 38, 3) := by decide +kernel
theorem d_M_bought_40 : decode prog_5_method_17_code 40 = .ok (.iload_n 1, 1) := by decide +kernel
theorem d_M_bought_41 : decode prog_5_method_17_code 41 = .ok (.iaload, 1) := by decide +kernel
theorem d_M_bought_42 : decode prog_5_method_17_code 42 = .ok (.goto 4, 3) := by decide +kernel
theorem d_M_bought_45 : decode prog_5_method_17_code 45 = .ok (.iload_n 2, 1) := by decide +kernel
theorem d_M_bought_46 : decode prog_5_method_17_code 46 = .ok (.istore 4, 2) := by decide +kernel
theorem d_M_bought_48 : decode prog_5_method_17_code 48 = .ok (.aload_n 0, 1) := by decide +kernel
theorem d_M_bought_49 : decode prog_5_method_17_code 49 = .ok (.iload_n 1, 1) := by decide +kernel
theorem d_M_bought_50 : decode prog_5_method_17_code 50 = .ok (.iload_n 2, 1) := by decide +kernel
theorem d_M_bought_51 : decode prog_5_method_17_code 51 = .ok (.iload 4, 2) := by decide +kernel
theorem d_M_bought_53 : decode prog_5_method_17_code 53 = .ok (.isub, 1) := by decide +kernel
theorem d_M_bought_54 : decode prog_5_method_17_code 54 = .ok (.invokevirtual 83, 3) := by decide +kernel
theorem d_M_bought_57 : decode prog_5_method_17_code 57 = .ok (.istore 5, 2) := by decide +kernel
theorem d_M_bought_59 : decode prog_5_method_17_code 59 = .ok (.aload_n 0, 1) := by decide +kernel
theorem d_M_bought_60 : decode prog_5_method_17_code 60 = .ok (.iload_n 2, 1) := by decide +kernel
theorem d_M_bought_61 : decode prog_5_method_17_code 61 = .ok (.invokevirtual 86, 3) := by decide +kernel
theorem d_M_bought_64 : decode prog_5_method_17_code 64 = .ok (.istore 6, 2) := by decide +kernel
theorem d_M_bought_66 : decode prog_5_method_17_code 66 = .ok (.iload 4, 2) := by decide +kernel
theorem d_M_bought_68 : decode prog_5_method_17_code 68 = .ok (.iload_n 2, 1) := by decide +kernel
theorem d_M_bought_69 : decode prog_5_method_17_code 69 = .ok (.if_icmp .ge 8, 3) := by decide +kernel
theorem d_M_bought_72 : decode prog_5_method_17_code 72 = .ok (.iload 5, 2) := by decide +kernel
theorem d_M_bought_74 : decode prog_5_method_17_code 74 = .ok (.ifCond .ge 8, 3) := by decide +kernel
theorem d_M_bought_77 : decode prog_5_method_17_code 77 = .ok (.iload 6, 2) := by decide +kernel
theorem d_M_bought_79 : decode prog_5_method_17_code 79 = .ok (.ifCond .ge 28, 3) := by decide +kernel
theorem d_M_bought_82 : decode prog_5_method_17_code 82 = .ok (.aload_n 0, 1) := by decide +kernel
theorem d_M_bought_83 : decode prog_5_method_17_code 83 = .ok (.aload_n 0, 1) := by decide +kernel
theorem d_M_bought_84 : decode prog_5_method_17_code 84 = .ok (.iload_n 3, 1) := by decide +kernel
theorem d_M_bought_85 : decode prog_5_method_17_code 85 = .ok (.iconst 1, 1) := by decide +kernel
theorem d_M_bought_86 : decode prog_5_method_17_code 86 = .ok (.iadd, 1) := by decide +kernel
theorem d_M_bought_87 : decode prog_5_method_17_code 87 = .ok (.iload 4, 2) := by decide +kernel
theorem d_M_bought_89 : decode prog_5_method_17_code 89 = .ok (.iload_n 2, 1) := by decide +kernel
theorem d_M_bought_90 : decode prog_5_method_17_code 90 = .ok (.if_icmp .ge 8, 3) := by decide +kernel
theorem d_M_bought_93 : decode prog_5_method_17_code 93 = .ok (.iload 5, 2) := by decide +kernel
theorem d_M_bought_95 : decode prog_5_method_17_code 95 = .ok (.goto 4, 3) := by decide +kernel
theorem d_M_bought_98 : decode prog_5_method_17_code 98 = .ok (.iconst (-1), 1) := by decide +kernel
theorem d_M_bought_99 : decode prog_5_method_17_code 99 = .ok (.invokevirtual 73, 3) := by decide +kernel
theorem d_M_bought_102 : decode prog_5_method_17_code 102 = .ok (.putfield 45, 3) := by decide +kernel
theorem d_M_bought_105 : decode prog_5_method_17_code 105 = .ok (.iconst 0, 1) := by decide +kernel
theorem d_M_bought_106 : decode prog_5_method_17_code 106 = .ok (.ireturn, 1) := by decide +kernel
theorem d_M_bought_107 : decode prog_5_method_17_code 107 = .ok (.aload_n 0, 1) := by decide +kernel
theorem d_M_bought_108 : decode prog_5_method_17_code 108 = .ok (.getfield 38, 3) := by decide +kernel
theorem d_M_bought_111 : decode prog_5_method_17_code 111 = .ok (.iload_n 1, 1) := by decide +kernel
theorem d_M_bought_112 : decode prog_5_method_17_code 112 = .ok (.dup2, 1) := by decide +kernel
theorem d_M_bought_113 : decode prog_5_method_17_code 113 = .ok (.iaload, 1) := by decide +kernel
theorem d_M_bought_114 : decode prog_5_method_17_code 114 = .ok (.iload 4, 2) := by decide +kernel
theorem d_M_bought_116 : decode prog_5_method_17_code 116 = .ok (.isub, 1) := by decide +kernel
theorem d_M_bought_117 : decode prog_5_method_17_code 117 = .ok (.iastore, 1) := by decide +kernel
theorem d_M_bought_118 : decode prog_5_method_17_code 118 = .ok (.iload 6, 2) := by decide +kernel
theorem d_M_bought_120 : decode prog_5_method_17_code 120 = .ok (.istore 7, 2) := by decide +kernel
theorem d_M_bought_122 : decode prog_5_method_17_code 122 = .ok (.iload 7, 2) := by decide +kernel
theorem d_M_bought_124 : decode prog_5_method_17_code 124 = .ok (.iload 6, 2) := by decide +kernel
theorem d_M_bought_126 : decode prog_5_method_17_code 126 = .ok (.iload_n 2, 1) := by decide +kernel
theorem d_M_bought_127 : decode prog_5_method_17_code 127 = .ok (.iadd, 1) := by decide +kernel
theorem d_M_bought_128 : decode prog_5_method_17_code 128 = .ok (.if_icmp .ge 66, 3) := by decide +kernel
theorem d_M_bought_131 : decode prog_5_method_17_code 131 = .ok (.aload_n 0, 1) := by decide +kernel
theorem d_M_bought_132 : decode prog_5_method_17_code 132 = .ok (.getfield 13, 3) := by decide +kernel
theorem d_M_bought_135 : decode prog_5_method_17_code 135 = .ok (.iload 7, 2) := by decide +kernel
theorem d_M_bought_137 : decode prog_5_method_17_code 137 = .ok (.dup2, 1) := by decide +kernel
theorem d_M_bought_138 : decode prog_5_method_17_code 138 = .ok (.iaload, 1) := by decide +kernel
theorem d_M_bought_139 : decode prog_5_method_17_code 139 = .ok (.iconst 1, 1) := by decide +kernel
theorem d_M_bought_140 : decode prog_5_method_17_code 140 = .ok (.iadd, 1) := by decide +kernel
theorem d_M_bought_141 : decode prog_5_method_17_code 141 = .ok (.iastore, 1) := by decide +kernel
theorem d_M_bought_142 : decode prog_5_method_17_code 142 = .ok (.aload_n 0, 1) := by decide +kernel
theorem d_M_bought_143 : decode prog_5_method_17_code 143 = .ok (.getfield 16, 3) := by decide +kernel
theorem d_M_bought_146 : decode prog_5_method_17_code 146 = .ok (.iload 7, 2) := by decide +kernel
theorem d_M_bought_148 : decode prog_5_method_17_code 148 = .ok (.aload_n 0, 1) := by decide +kernel
theorem d_M_bought_149 : decode prog_5_method_17_code 149 = .ok (.getfield 89, 3) := by decide +kernel
theorem d_M_bought_152 : decode prog_5_method_17_code 152 = .ok (.iastore, 1) := by decide +kernel
theorem d_M_bought_153 : decode prog_5_method_17_code 153 = .ok (.aload_n 0, 1) := by decide +kernel
theorem d_M_bought_154 : decode prog_5_method_17_code 154 = .ok (.iload 7, 2) := by decide +kernel
theorem d_M_bought_156 : decode prog_5_method_17_code 156 = .ok (.iload_n 1, 1) := by decide +kernel
theorem d_M_bought_157 : decode prog_5_method_17_code 157 = .ok (.invokevirtual 92, 3) := by decide +kernel
theorem d_M_bought_160 : decode prog_5_method_17_code 160 = .ok (.iconst 0, 1) := by decide +kernel
theorem d_M_bought_161 : decode prog_5_method_17_code 161 = .ok (.istore 8, 2) := by decide +kernel
theorem d_M_bought_163 : decode prog_5_method_17_code 163 = .ok (.iload 8, 2) := by decide +kernel
theorem d_M_bought_165 : decode prog_5_method_17_code 165 = .ok (.iconst 4, 1) := by decide +kernel
theorem d_M_bought_166 : decode prog_5_method_17_code 166 = .ok (.if_icmp .ge 22, 3) := by decide +kernel
theorem d_M_bought_169 : decode prog_5_method_17_code 169 = .ok (.aload_n 0, 1) := by decide +kernel
theorem d_M_bought_170 : decode prog_5_method_17_code 170 = .ok (.getfield 22, 3) := by decide +kernel
theorem d_M_bought_173 : decode prog_5_method_17_code 173 = .ok (.iconst 4, 1) := by decide +kernel
theorem d_M_bought_174 : decode prog_5_method_17_code 174 = .ok (.iload 7, 2) := by decide +kernel
theorem d_M_bought_176 : decode prog_5_method_17_code 176 = .ok (.imul, 1) := by decide +kernel
theorem d_M_bought_177 : decode prog_5_method_17_code 177 = .ok (.iload 8, 2) := by decide +kernel
theorem d_M_bought_179 : decode prog_5_method_17_code 179 = .ok (.iadd, 1) := by decide +kernel
theorem d_M_bought_180 : decode prog_5_method_17_code 180 = .ok (.iconst 0, 1) := by decide +kernel
theorem d_M_bought_181 : decode prog_5_method_17_code 181 = .ok (.iastore, 1) := by decide +kernel
theorem d_M_bought_182 : decode prog_5_method_17_code 182 = .ok (.iinc 8 1, 3) := by decide +kernel
theorem d_M_bought_185 : decode prog_5_method_17_code 185 = .ok (.goto (-22), 3) := by decide +kernel
theorem d_M_bought_188 : decode prog_5_method_17_code 188 = .ok (.iinc 7 1, 3) := by decide +kernel
theorem d_M_bought_191 : decode prog_5_method_17_code 191 = .ok (.goto (-69), 3) := by decide +kernel
theorem d_M_bought_194 : decode prog_5_method_17_code 194 = .ok (.aload_n 0, 1) := by decide +kernel
theorem d_M_bought_195 : decode prog_5_method_17_code 195 = .ok (.dup, 1) := by decide +kernel
theorem d_M_bought_196 : decode prog_5_method_17_code 196 = .ok (.getfield 89, 3) := by decide +kernel
theorem d_M_bought_199 : decode prog_5_method_17_code 199 = .ok (.iconst 1, 1) := by decide +kernel
theorem d_M_bought_200 : decode prog_5_method_17_code 200 = .ok (.iadd, 1) := by decide +kernel
theorem d_M_bought_201 : decode prog_5_method_17_code 201 = .ok (.putfield 89, 3) := by decide +kernel
theorem d_M_bought_204 : decode prog_5_method_17_code 204 = .ok (.aload_n 0, 1) := by decide +kernel
theorem d_M_bought_205 : decode prog_5_method_17_code 205 = .ok (.getfield 13, 3) := by decide +kernel
theorem d_M_bought_208 : decode prog_5_method_17_code 208 = .ok (.iload 6, 2) := by decide +kernel
theorem d_M_bought_210 : decode prog_5_method_17_code 210 = .ok (.iaload, 1) := by decide +kernel
theorem d_M_bought_211 : decode prog_5_method_17_code 211 = .ok (.iload 6, 2) := by decide +kernel
theorem d_M_bought_213 : decode prog_5_method_17_code 213 = .ok (.invokestatic 96, 3) := by decide +kernel
theorem d_M_bought_216 : decode prog_5_method_17_code 216 = .ok (.ireturn, 1) := by decide +kernel
theorem d_M_refuser_0 : decode prog_5_method_9_code 0 = .ok (.iload_n 1, 1) := by decide +kernel
theorem d_M_refuser_1 : decode prog_5_method_9_code 1 = .ok (.istore_n 3, 1) := by decide +kernel
theorem d_M_refuser_2 : decode prog_5_method_9_code 2 = .ok (.iload_n 3, 1) := by decide +kernel
theorem d_M_refuser_3 : decode prog_5_method_9_code 3 = .ok (.ifCond .lt 31, 3) := by decide +kernel
theorem d_M_refuser_6 : decode prog_5_method_9_code 6 = .ok (.aload_n 0, 1) := by decide +kernel
theorem d_M_refuser_7 : decode prog_5_method_9_code 7 = .ok (.iload_n 3, 1) := by decide +kernel
theorem d_M_refuser_8 : decode prog_5_method_9_code 8 = .ok (.invokevirtual 60, 3) := by decide +kernel
theorem d_M_refuser_11 : decode prog_5_method_9_code 11 = .ok (.iload_n 2, 1) := by decide +kernel
theorem d_M_refuser_12 : decode prog_5_method_9_code 12 = .ok (.iadd, 1) := by decide +kernel
theorem d_M_refuser_13 : decode prog_5_method_9_code 13 = .ok (.aload_n 0, 1) := by decide +kernel
theorem d_M_refuser_14 : decode prog_5_method_9_code 14 = .ok (.getfield 32, 3) := by decide +kernel
theorem d_M_refuser_17 : decode prog_5_method_9_code 17 = .ok (.iload_n 3, 1) := by decide +kernel
theorem d_M_refuser_18 : decode prog_5_method_9_code 18 = .ok (.iaload, 1) := by decide +kernel
theorem d_M_refuser_19 : decode prog_5_method_9_code 19 = .ok (.if_icmp .le 5, 3) := by decide +kernel
theorem d_M_refuser_22 : decode prog_5_method_9_code 22 = .ok (.iload_n 3, 1) := by decide +kernel
theorem d_M_refuser_23 : decode prog_5_method_9_code 23 = .ok (.ireturn, 1) := by decide +kernel
theorem d_M_refuser_24 : decode prog_5_method_9_code 24 = .ok (.aload_n 0, 1) := by decide +kernel
theorem d_M_refuser_25 : decode prog_5_method_9_code 25 = .ok (.getfield 29, 3) := by decide +kernel
theorem d_M_refuser_28 : decode prog_5_method_9_code 28 = .ok (.iload_n 3, 1) := by decide +kernel
theorem d_M_refuser_29 : decode prog_5_method_9_code 29 = .ok (.iaload, 1) := by decide +kernel
theorem d_M_refuser_30 : decode prog_5_method_9_code 30 = .ok (.istore_n 3, 1) := by decide +kernel
theorem d_M_refuser_31 : decode prog_5_method_9_code 31 = .ok (.goto (-29), 3) := by decide +kernel
theorem d_M_refuser_34 : decode prog_5_method_9_code 34 = .ok (.iconst (-1), 1) := by decide +kernel
theorem d_M_refuser_35 : decode prog_5_method_9_code 35 = .ok (.ireturn, 1) := by decide +kernel
theorem d_M_useOf_0 : decode prog_5_method_8_code 0 = .ok (.iconst 0, 1) := by decide +kernel
theorem d_M_useOf_1 : decode prog_5_method_8_code 1 = .ok (.istore_n 2, 1) := by decide +kernel
theorem d_M_useOf_2 : decode prog_5_method_8_code 2 = .ok (.iconst 0, 1) := by decide +kernel
theorem d_M_useOf_3 : decode prog_5_method_8_code 3 = .ok (.istore_n 3, 1) := by decide +kernel
theorem d_M_useOf_4 : decode prog_5_method_8_code 4 = .ok (.iload_n 3, 1) := by decide +kernel
theorem d_M_useOf_5 : decode prog_5_method_8_code 5 = .ok (.bipush 40, 2) := by decide +kernel
theorem d_M_useOf_7 : decode prog_5_method_8_code 7 = .ok (.if_icmp .ge 46, 3) := by decide +kernel
theorem d_M_useOf_10 : decode prog_5_method_8_code 10 = .ok (.iload_n 2, 1) := by decide +kernel
theorem d_M_useOf_11 : decode prog_5_method_8_code 11 = .ok (.aload_n 0, 1) := by decide +kernel
theorem d_M_useOf_12 : decode prog_5_method_8_code 12 = .ok (.getfield 25, 3) := by decide +kernel
theorem d_M_useOf_15 : decode prog_5_method_8_code 15 = .ok (.iload_n 3, 1) := by decide +kernel
theorem d_M_useOf_16 : decode prog_5_method_8_code 16 = .ok (.baload, 1) := by decide +kernel
theorem d_M_useOf_17 : decode prog_5_method_8_code 17 = .ok (.ifCond .eq 27, 3) := by decide +kernel
theorem d_M_useOf_20 : decode prog_5_method_8_code 20 = .ok (.aload_n 0, 1) := by decide +kernel
theorem d_M_useOf_21 : decode prog_5_method_8_code 21 = .ok (.iload_n 3, 1) := by decide +kernel
theorem d_M_useOf_22 : decode prog_5_method_8_code 22 = .ok (.iload_n 1, 1) := by decide +kernel
theorem d_M_useOf_23 : decode prog_5_method_8_code 23 = .ok (.invokevirtual 52, 3) := by decide +kernel
theorem d_M_useOf_26 : decode prog_5_method_8_code 26 = .ok (.ifCond .eq 18, 3) := by decide +kernel
theorem d_M_useOf_29 : decode prog_5_method_8_code 29 = .ok (.aload_n 0, 1) := by decide +kernel
theorem d_M_useOf_30 : decode prog_5_method_8_code 30 = .ok (.iload_n 3, 1) := by decide +kernel
theorem d_M_useOf_31 : decode prog_5_method_8_code 31 = .ok (.invokevirtual 56, 3) := by decide +kernel
theorem d_M_useOf_34 : decode prog_5_method_8_code 34 = .ok (.aload_n 0, 1) := by decide +kernel
theorem d_M_useOf_35 : decode prog_5_method_8_code 35 = .ok (.getfield 38, 3) := by decide +kernel
theorem d_M_useOf_38 : decode prog_5_method_8_code 38 = .ok (.iload_n 3, 1) := by decide +kernel
theorem d_M_useOf_39 : decode prog_5_method_8_code 39 = .ok (.iaload, 1) := by decide +kernel
theorem d_M_useOf_40 : decode prog_5_method_8_code 40 = .ok (.iadd, 1) := by decide +kernel
theorem d_M_useOf_41 : decode prog_5_method_8_code 41 = .ok (.goto 4, 3) := by decide +kernel
theorem d_M_useOf_44 : decode prog_5_method_8_code 44 = .ok (.iconst 0, 1) := by decide +kernel
theorem d_M_useOf_45 : decode prog_5_method_8_code 45 = .ok (.iadd, 1) := by decide +kernel
theorem d_M_useOf_46 : decode prog_5_method_8_code 46 = .ok (.istore_n 2, 1) := by decide +kernel
theorem d_M_useOf_47 : decode prog_5_method_8_code 47 = .ok (.iinc 3 1, 3) := by decide +kernel
theorem d_M_useOf_50 : decode prog_5_method_8_code 50 = .ok (.goto (-46), 3) := by decide +kernel
theorem d_M_useOf_53 : decode prog_5_method_8_code 53 = .ok (.iload_n 2, 1) := by decide +kernel
theorem d_M_useOf_54 : decode prog_5_method_8_code 54 = .ok (.ireturn, 1) := by decide +kernel
theorem d_M_isUnder_0 : decode prog_5_method_5_code 0 = .ok (.iload_n 1, 1) := by decide +kernel
theorem d_M_isUnder_1 : decode prog_5_method_5_code 1 = .ok (.istore_n 3, 1) := by decide +kernel
theorem d_M_isUnder_2 : decode prog_5_method_5_code 2 = .ok (.iload_n 3, 1) := by decide +kernel
theorem d_M_isUnder_3 : decode prog_5_method_5_code 3 = .ok (.ifCond .lt 18, 3) := by decide +kernel
theorem d_M_isUnder_6 : decode prog_5_method_5_code 6 = .ok (.iload_n 3, 1) := by decide +kernel
theorem d_M_isUnder_7 : decode prog_5_method_5_code 7 = .ok (.iload_n 2, 1) := by decide +kernel
theorem d_M_isUnder_8 : decode prog_5_method_5_code 8 = .ok (.if_icmp .eq 13, 3) := by decide +kernel
theorem d_M_isUnder_11 : decode prog_5_method_5_code 11 = .ok (.aload_n 0, 1) := by decide +kernel
theorem d_M_isUnder_12 : decode prog_5_method_5_code 12 = .ok (.getfield 29, 3) := by decide +kernel
theorem d_M_isUnder_15 : decode prog_5_method_5_code 15 = .ok (.iload_n 3, 1) := by decide +kernel
theorem d_M_isUnder_16 : decode prog_5_method_5_code 16 = .ok (.iaload, 1) := by decide +kernel
theorem d_M_isUnder_17 : decode prog_5_method_5_code 17 = .ok (.istore_n 3, 1) := by decide +kernel
theorem d_M_isUnder_18 : decode prog_5_method_5_code 18 = .ok (.goto (-16), 3) := by decide +kernel
theorem d_M_isUnder_21 : decode prog_5_method_5_code 21 = .ok (.iload_n 3, 1) := by decide +kernel
theorem d_M_isUnder_22 : decode prog_5_method_5_code 22 = .ok (.iload_n 2, 1) := by decide +kernel
theorem d_M_isUnder_23 : decode prog_5_method_5_code 23 = .ok (.if_icmp .ne 7, 3) := by decide +kernel
theorem d_M_isUnder_26 : decode prog_5_method_5_code 26 = .ok (.iconst 1, 1) := by decide +kernel
theorem d_M_isUnder_27 : decode prog_5_method_5_code 27 = .ok (.goto 4, 3) := by decide +kernel
theorem d_M_isUnder_30 : decode prog_5_method_5_code 30 = .ok (.iconst 0, 1) := by decide +kernel
theorem d_M_isUnder_31 : decode prog_5_method_5_code 31 = .ok (.ireturn, 1) := by decide +kernel
theorem d_M_owned_0 : decode prog_5_method_7_code 0 = .ok (.iconst 0, 1) := by decide +kernel
theorem d_M_owned_1 : decode prog_5_method_7_code 1 = .ok (.istore_n 2, 1) := by decide +kernel
theorem d_M_owned_2 : decode prog_5_method_7_code 2 = .ok (.iconst 0, 1) := by decide +kernel
theorem d_M_owned_3 : decode prog_5_method_7_code 3 = .ok (.istore_n 3, 1) := by decide +kernel
theorem d_M_owned_4 : decode prog_5_method_7_code 4 = .ok (.iload_n 3, 1) := by decide +kernel
theorem d_M_owned_5 : decode prog_5_method_7_code 5 = .ok (.sipush 192, 3) := by decide +kernel
theorem d_M_owned_8 : decode prog_5_method_7_code 8 = .ok (.if_icmp .ge 27, 3) := by decide +kernel
theorem d_M_owned_11 : decode prog_5_method_7_code 11 = .ok (.iload_n 2, 1) := by decide +kernel
theorem d_M_owned_12 : decode prog_5_method_7_code 12 = .ok (.aload_n 0, 1) := by decide +kernel
theorem d_M_owned_13 : decode prog_5_method_7_code 13 = .ok (.getfield 7, 3) := by decide +kernel
theorem d_M_owned_16 : decode prog_5_method_7_code 16 = .ok (.iload_n 3, 1) := by decide +kernel
theorem d_M_owned_17 : decode prog_5_method_7_code 17 = .ok (.iaload, 1) := by decide +kernel
theorem d_M_owned_18 : decode prog_5_method_7_code 18 = .ok (.iload_n 1, 1) := by decide +kernel
theorem d_M_owned_19 : decode prog_5_method_7_code 19 = .ok (.if_icmp .ne 7, 3) := by decide +kernel
end
section
theorem d_M_owned_22 : decode prog_5_method_7_code 22 = .ok (.iconst 1, 1) := by decide +kernel
theorem d_M_owned_23 : decode prog_5_method_7_code 23 = .ok (.goto 4, 3) := by decide +kernel
theorem d_M_owned_26 : decode prog_5_method_7_code 26 = .ok (.iconst 0, 1) := by decide +kernel
theorem d_M_owned_27 : decode prog_5_method_7_code 27 = .ok (.iadd, 1) := by decide +kernel
theorem d_M_owned_28 : decode prog_5_method_7_code 28 = .ok (.istore_n 2, 1) := by decide +kernel
theorem d_M_owned_29 : decode prog_5_method_7_code 29 = .ok (.iinc 3 1, 3) := by decide +kernel
theorem d_M_owned_32 : decode prog_5_method_7_code 32 = .ok (.goto (-28), 3) := by decide +kernel
theorem d_M_owned_35 : decode prog_5_method_7_code 35 = .ok (.iload_n 2, 1) := by decide +kernel
theorem d_M_owned_36 : decode prog_5_method_7_code 36 = .ok (.ireturn, 1) := by decide +kernel
theorem d_M_room_0 : decode prog_5_method_14_code 0 = .ok (.iconst (-1), 1) := by decide +kernel
theorem d_M_room_1 : decode prog_5_method_14_code 1 = .ok (.istore_n 2, 1) := by decide +kernel
theorem d_M_room_2 : decode prog_5_method_14_code 2 = .ok (.sipush 192, 3) := by decide +kernel
theorem d_M_room_5 : decode prog_5_method_14_code 5 = .ok (.iload_n 1, 1) := by decide +kernel
theorem d_M_room_6 : decode prog_5_method_14_code 6 = .ok (.isub, 1) := by decide +kernel
theorem d_M_room_7 : decode prog_5_method_14_code 7 = .ok (.istore_n 3, 1) := by decide +kernel
theorem d_M_room_8 : decode prog_5_method_14_code 8 = .ok (.iload_n 3, 1) := by decide +kernel
theorem d_M_room_9 : decode prog_5_method_14_code 9 = .ok (.ifCond .lt 61, 3) := by decide +kernel
theorem d_M_room_12 : decode prog_5_method_14_code 12 = .ok (.iconst 1, 1) := by decide +kernel
theorem d_M_room_13 : decode prog_5_method_14_code 13 = .ok (.istore 4, 2) := by decide +kernel
theorem d_M_room_15 : decode prog_5_method_14_code 15 = .ok (.iconst 0, 1) := by decide +kernel
theorem d_M_room_16 : decode prog_5_method_14_code 16 = .ok (.istore 5, 2) := by decide +kernel
theorem d_M_room_18 : decode prog_5_method_14_code 18 = .ok (.iload 5, 2) := by decide +kernel
theorem d_M_room_20 : decode prog_5_method_14_code 20 = .ok (.iload_n 1, 1) := by decide +kernel
theorem d_M_room_21 : decode prog_5_method_14_code 21 = .ok (.if_icmp .ge 32, 3) := by decide +kernel
theorem d_M_room_24 : decode prog_5_method_14_code 24 = .ok (.iload 4, 2) := by decide +kernel
theorem d_M_room_26 : decode prog_5_method_14_code 26 = .ok (.ifCond .eq 18, 3) := by decide +kernel
theorem d_M_room_29 : decode prog_5_method_14_code 29 = .ok (.aload_n 0, 1) := by decide +kernel
theorem d_M_room_30 : decode prog_5_method_14_code 30 = .ok (.iload_n 3, 1) := by decide +kernel
theorem d_M_room_31 : decode prog_5_method_14_code 31 = .ok (.iload 5, 2) := by decide +kernel
theorem d_M_room_33 : decode prog_5_method_14_code 33 = .ok (.iadd, 1) := by decide +kernel
theorem d_M_room_34 : decode prog_5_method_14_code 34 = .ok (.invokevirtual 77, 3) := by decide +kernel
theorem d_M_room_37 : decode prog_5_method_14_code 37 = .ok (.ifCond .eq 7, 3) := by decide +kernel
theorem d_M_room_40 : decode prog_5_method_14_code 40 = .ok (.iconst 1, 1) := by decide +kernel
theorem d_M_room_41 : decode prog_5_method_14_code 41 = .ok (.goto 4, 3) := by decide +kernel
theorem d_M_room_44 : decode prog_5_method_14_code 44 = .ok (.iconst 0, 1) := by decide +kernel
theorem d_M_room_45 : decode prog_5_method_14_code 45 = .ok (.istore 4, 2) := by decide +kernel
theorem d_M_room_47 : decode prog_5_method_14_code 47 = .ok (.iinc 5 1, 3) := by decide +kernel
theorem d_M_room_50 : decode prog_5_method_14_code 50 = .ok (.goto (-32), 3) := by decide +kernel
theorem d_M_room_53 : decode prog_5_method_14_code 53 = .ok (.iload 4, 2) := by decide +kernel
theorem d_M_room_55 : decode prog_5_method_14_code 55 = .ok (.ifCond .eq 7, 3) := by decide +kernel
theorem d_M_room_58 : decode prog_5_method_14_code 58 = .ok (.iload_n 3, 1) := by decide +kernel
theorem d_M_room_59 : decode prog_5_method_14_code 59 = .ok (.goto 4, 3) := by decide +kernel
theorem d_M_room_62 : decode prog_5_method_14_code 62 = .ok (.iload_n 2, 1) := by decide +kernel
theorem d_M_room_63 : decode prog_5_method_14_code 63 = .ok (.istore_n 2, 1) := by decide +kernel
theorem d_M_room_64 : decode prog_5_method_14_code 64 = .ok (.iinc 3 (-1), 3) := by decide +kernel
theorem d_M_room_67 : decode prog_5_method_14_code 67 = .ok (.goto (-59), 3) := by decide +kernel
theorem d_M_room_70 : decode prog_5_method_14_code 70 = .ok (.iload_n 2, 1) := by decide +kernel
theorem d_M_room_71 : decode prog_5_method_14_code 71 = .ok (.ireturn, 1) := by decide +kernel
theorem d_M_isFree_0 : decode prog_5_method_13_code 0 = .ok (.aload_n 0, 1) := by decide +kernel
theorem d_M_isFree_1 : decode prog_5_method_13_code 1 = .ok (.getfield 7, 3) := by decide +kernel
theorem d_M_isFree_4 : decode prog_5_method_13_code 4 = .ok (.iload_n 1, 1) := by decide +kernel
theorem d_M_isFree_5 : decode prog_5_method_13_code 5 = .ok (.iaload, 1) := by decide +kernel
theorem d_M_isFree_6 : decode prog_5_method_13_code 6 = .ok (.ifCond .ge 18, 3) := by decide +kernel
theorem d_M_isFree_9 : decode prog_5_method_13_code 9 = .ok (.aload_n 0, 1) := by decide +kernel
theorem d_M_isFree_10 : decode prog_5_method_13_code 10 = .ok (.getfield 13, 3) := by decide +kernel
theorem d_M_isFree_13 : decode prog_5_method_13_code 13 = .ok (.iload_n 1, 1) := by decide +kernel
theorem d_M_isFree_14 : decode prog_5_method_13_code 14 = .ok (.iaload, 1) := by decide +kernel
theorem d_M_isFree_15 : decode prog_5_method_13_code 15 = .ok (.bipush 7, 2) := by decide +kernel
theorem d_M_isFree_17 : decode prog_5_method_13_code 17 = .ok (.if_icmp .ge 7, 3) := by decide +kernel
theorem d_M_isFree_20 : decode prog_5_method_13_code 20 = .ok (.iconst 1, 1) := by decide +kernel
theorem d_M_isFree_21 : decode prog_5_method_13_code 21 = .ok (.goto 4, 3) := by decide +kernel
theorem d_M_isFree_24 : decode prog_5_method_13_code 24 = .ok (.iconst 0, 1) := by decide +kernel
theorem d_M_isFree_25 : decode prog_5_method_13_code 25 = .ok (.ireturn, 1) := by decide +kernel
theorem d_M_own_0 : decode prog_5_method_16_code 0 = .ok (.aload_n 0, 1) := by decide +kernel
theorem d_M_own_1 : decode prog_5_method_16_code 1 = .ok (.getfield 7, 3) := by decide +kernel
theorem d_M_own_4 : decode prog_5_method_16_code 4 = .ok (.iload_n 1, 1) := by decide +kernel
theorem d_M_own_5 : decode prog_5_method_16_code 5 = .ok (.iload_n 2, 1) := by decide +kernel
theorem d_M_own_6 : decode prog_5_method_16_code 6 = .ok (.iastore, 1) := by decide +kernel
theorem d_M_own_7 : decode prog_5_method_16_code 7 = .ok (.aload_n 0, 1) := by decide +kernel
theorem d_M_own_8 : decode prog_5_method_16_code 8 = .ok (.getfield 19, 3) := by decide +kernel
theorem d_M_own_11 : decode prog_5_method_16_code 11 = .ok (.iload_n 1, 1) := by decide +kernel
theorem d_M_own_12 : decode prog_5_method_16_code 12 = .ok (.aload_n 0, 1) := by decide +kernel
theorem d_M_own_13 : decode prog_5_method_16_code 13 = .ok (.getfield 80, 3) := by decide +kernel
theorem d_M_own_16 : decode prog_5_method_16_code 16 = .ok (.iastore, 1) := by decide +kernel
theorem d_M_own_17 : decode prog_5_method_16_code 17 = .ok (.aload_n 0, 1) := by decide +kernel
theorem d_M_own_18 : decode prog_5_method_16_code 18 = .ok (.dup, 1) := by decide +kernel
theorem d_M_own_19 : decode prog_5_method_16_code 19 = .ok (.getfield 80, 3) := by decide +kernel
theorem d_M_own_22 : decode prog_5_method_16_code 22 = .ok (.iconst 1, 1) := by decide +kernel
theorem d_M_own_23 : decode prog_5_method_16_code 23 = .ok (.iadd, 1) := by decide +kernel
theorem d_M_own_24 : decode prog_5_method_16_code 24 = .ok (.putfield 80, 3) := by decide +kernel
theorem d_M_own_27 : decode prog_5_method_16_code 27 = .ok (.return_, 1) := by decide +kernel
theorem d_M_keyOf_0 : decode prog_5_method_15_code 0 = .ok (.sipush 1024, 3) := by decide +kernel
theorem d_M_keyOf_3 : decode prog_5_method_15_code 3 = .ok (.iload_n 0, 1) := by decide +kernel
theorem d_M_keyOf_4 : decode prog_5_method_15_code 4 = .ok (.imul, 1) := by decide +kernel
theorem d_M_keyOf_5 : decode prog_5_method_15_code 5 = .ok (.iconst 2, 1) := by decide +kernel
theorem d_M_keyOf_6 : decode prog_5_method_15_code 6 = .ok (.iload_n 1, 1) := by decide +kernel
theorem d_M_keyOf_7 : decode prog_5_method_15_code 7 = .ok (.imul, 1) := by decide +kernel
theorem d_M_keyOf_8 : decode prog_5_method_15_code 8 = .ok (.iadd, 1) := by decide +kernel
theorem d_M_keyOf_9 : decode prog_5_method_15_code 9 = .ok (.ireturn, 1) := by decide +kernel
theorem d_M_buyRun_0 : decode prog_5_method_19_code 0 = .ok (.aload_n 0, 1) := by decide +kernel
theorem d_M_buyRun_1 : decode prog_5_method_19_code 1 = .ok (.aload_n 0, 1) := by decide +kernel
theorem d_M_buyRun_2 : decode prog_5_method_19_code 2 = .ok (.iload_n 1, 1) := by decide +kernel
theorem d_M_buyRun_3 : decode prog_5_method_19_code 3 = .ok (.invokevirtual 63, 3) := by decide +kernel
theorem d_M_buyRun_6 : decode prog_5_method_19_code 6 = .ok (.ifCond .ne 7, 3) := by decide +kernel
theorem d_M_buyRun_9 : decode prog_5_method_19_code 9 = .ok (.iconst 1, 1) := by decide +kernel
theorem d_M_buyRun_10 : decode prog_5_method_19_code 10 = .ok (.goto 18, 3) := by decide +kernel
theorem d_M_buyRun_13 : decode prog_5_method_19_code 13 = .ok (.iload_n 2, 1) := by decide +kernel
theorem d_M_buyRun_14 : decode prog_5_method_19_code 14 = .ok (.iconst 1, 1) := by decide +kernel
theorem d_M_buyRun_15 : decode prog_5_method_19_code 15 = .ok (.bipush 16, 2) := by decide +kernel
theorem d_M_buyRun_17 : decode prog_5_method_19_code 17 = .ok (.invokestatic 48, 3) := by decide +kernel
theorem d_M_buyRun_20 : decode prog_5_method_19_code 20 = .ok (.ifCond .eq 7, 3) := by decide +kernel
theorem d_M_buyRun_23 : decode prog_5_method_19_code 23 = .ok (.iconst 0, 1) := by decide +kernel
theorem d_M_buyRun_24 : decode prog_5_method_19_code 24 = .ok (.goto 4, 3) := by decide +kernel
theorem d_M_buyRun_27 : decode prog_5_method_19_code 27 = .ok (.iconst 2, 1) := by decide +kernel
theorem d_M_buyRun_28 : decode prog_5_method_19_code 28 = .ok (.putfield 45, 3) := by decide +kernel
theorem d_M_buyRun_31 : decode prog_5_method_19_code 31 = .ok (.aload_n 0, 1) := by decide +kernel
theorem d_M_buyRun_32 : decode prog_5_method_19_code 32 = .ok (.getfield 45, 3) := by decide +kernel
theorem d_M_buyRun_35 : decode prog_5_method_19_code 35 = .ok (.ifCond .le 7, 3) := by decide +kernel
theorem d_M_buyRun_38 : decode prog_5_method_19_code 38 = .ok (.iconst 0, 1) := by decide +kernel
theorem d_M_buyRun_39 : decode prog_5_method_19_code 39 = .ok (.goto 10, 3) := by decide +kernel
theorem d_M_buyRun_42 : decode prog_5_method_19_code 42 = .ok (.aload_n 0, 1) := by decide +kernel
theorem d_M_buyRun_43 : decode prog_5_method_19_code 43 = .ok (.iload_n 1, 1) := by decide +kernel
theorem d_M_buyRun_44 : decode prog_5_method_19_code 44 = .ok (.iload_n 2, 1) := by decide +kernel
theorem d_M_buyRun_45 : decode prog_5_method_19_code 45 = .ok (.iconst 3, 1) := by decide +kernel
theorem d_M_buyRun_46 : decode prog_5_method_19_code 46 = .ok (.invokevirtual 99, 3) := by decide +kernel
theorem d_M_buyRun_49 : decode prog_5_method_19_code 49 = .ok (.ireturn, 1) := by decide +kernel
theorem d_M_runKey_0 : decode prog_5_method_23_code 0 = .ok (.aload_n 0, 1) := by decide +kernel
theorem d_M_runKey_1 : decode prog_5_method_23_code 1 = .ok (.aload_n 0, 1) := by decide +kernel
theorem d_M_runKey_2 : decode prog_5_method_23_code 2 = .ok (.iload_n 1, 1) := by decide +kernel
theorem d_M_runKey_3 : decode prog_5_method_23_code 3 = .ok (.invokevirtual 106, 3) := by decide +kernel
theorem d_M_runKey_6 : decode prog_5_method_23_code 6 = .ok (.ifCond .ne 7, 3) := by decide +kernel
theorem d_M_runKey_9 : decode prog_5_method_23_code 9 = .ok (.iconst 1, 1) := by decide +kernel
theorem d_M_runKey_10 : decode prog_5_method_23_code 10 = .ok (.goto 25, 3) := by decide +kernel
theorem d_M_runKey_13 : decode prog_5_method_23_code 13 = .ok (.iload_n 1, 1) := by decide +kernel
theorem d_M_runKey_14 : decode prog_5_method_23_code 14 = .ok (.invokestatic 109, 3) := by decide +kernel
theorem d_M_runKey_17 : decode prog_5_method_23_code 17 = .ok (.ifCond .ne 13, 3) := by decide +kernel
theorem d_M_runKey_20 : decode prog_5_method_23_code 20 = .ok (.iload_n 2, 1) := by decide +kernel
theorem d_M_runKey_21 : decode prog_5_method_23_code 21 = .ok (.iconst 0, 1) := by decide +kernel
theorem d_M_runKey_22 : decode prog_5_method_23_code 22 = .ok (.bipush 15, 2) := by decide +kernel
theorem d_M_runKey_24 : decode prog_5_method_23_code 24 = .ok (.invokestatic 48, 3) := by decide +kernel
theorem d_M_runKey_27 : decode prog_5_method_23_code 27 = .ok (.ifCond .ne 7, 3) := by decide +kernel
theorem d_M_runKey_30 : decode prog_5_method_23_code 30 = .ok (.iconst 2, 1) := by decide +kernel
theorem d_M_runKey_31 : decode prog_5_method_23_code 31 = .ok (.goto 4, 3) := by decide +kernel
theorem d_M_runKey_34 : decode prog_5_method_23_code 34 = .ok (.iconst 0, 1) := by decide +kernel
theorem d_M_runKey_35 : decode prog_5_method_23_code 35 = .ok (.putfield 45, 3) := by decide +kernel
theorem d_M_runKey_38 : decode prog_5_method_23_code 38 = .ok (.aload_n 0, 1) := by decide +kernel
theorem d_M_runKey_39 : decode prog_5_method_23_code 39 = .ok (.getfield 45, 3) := by decide +kernel
theorem d_M_runKey_42 : decode prog_5_method_23_code 42 = .ok (.ifCond .le 5, 3) := by decide +kernel
theorem d_M_runKey_45 : decode prog_5_method_23_code 45 = .ok (.iconst 0, 1) := by decide +kernel
theorem d_M_runKey_46 : decode prog_5_method_23_code 46 = .ok (.ireturn, 1) := by decide +kernel
theorem d_M_runKey_47 : decode prog_5_method_23_code 47 = .ok (.iload_n 1, 1) := by decide +kernel
theorem d_M_runKey_48 : decode prog_5_method_23_code 48 = .ok (.invokestatic 103, 3) := by decide +kernel
theorem d_M_runKey_51 : decode prog_5_method_23_code 51 = .ok (.iload_n 2, 1) := by decide +kernel
theorem d_M_runKey_52 : decode prog_5_method_23_code 52 = .ok (.iadd, 1) := by decide +kernel
theorem d_M_runKey_53 : decode prog_5_method_23_code 53 = .ok (.istore_n 3, 1) := by decide +kernel
theorem d_M_runKey_54 : decode prog_5_method_23_code 54 = .ok (.iload_n 3, 1) := by decide +kernel
theorem d_M_runKey_55 : decode prog_5_method_23_code 55 = .ok (.sipush 192, 3) := by decide +kernel
theorem d_M_runKey_58 : decode prog_5_method_23_code 58 = .ok (.if_icmp .ge 49, 3) := by decide +kernel
theorem d_M_runKey_61 : decode prog_5_method_23_code 61 = .ok (.aload_n 0, 1) := by decide +kernel
theorem d_M_runKey_62 : decode prog_5_method_23_code 62 = .ok (.getfield 7, 3) := by decide +kernel
theorem d_M_runKey_65 : decode prog_5_method_23_code 65 = .ok (.iload_n 3, 1) := by decide +kernel
theorem d_M_runKey_66 : decode prog_5_method_23_code 66 = .ok (.iaload, 1) := by decide +kernel
theorem d_M_runKey_67 : decode prog_5_method_23_code 67 = .ok (.ifCond .lt 40, 3) := by decide +kernel
theorem d_M_runKey_70 : decode prog_5_method_23_code 70 = .ok (.aload_n 0, 1) := by decide +kernel
theorem d_M_runKey_71 : decode prog_5_method_23_code 71 = .ok (.getfield 16, 3) := by decide +kernel
theorem d_M_runKey_74 : decode prog_5_method_23_code 74 = .ok (.iload_n 3, 1) := by decide +kernel
theorem d_M_runKey_75 : decode prog_5_method_23_code 75 = .ok (.iaload, 1) := by decide +kernel
theorem d_M_runKey_76 : decode prog_5_method_23_code 76 = .ok (.aload_n 0, 1) := by decide +kernel
theorem d_M_runKey_77 : decode prog_5_method_23_code 77 = .ok (.getfield 16, 3) := by decide +kernel
theorem d_M_runKey_80 : decode prog_5_method_23_code 80 = .ok (.iload_n 1, 1) := by decide +kernel
theorem d_M_runKey_81 : decode prog_5_method_23_code 81 = .ok (.invokestatic 103, 3) := by decide +kernel
theorem d_M_runKey_84 : decode prog_5_method_23_code 84 = .ok (.iaload, 1) := by decide +kernel
theorem d_M_runKey_85 : decode prog_5_method_23_code 85 = .ok (.if_icmp .ne 22, 3) := by decide +kernel
theorem d_M_runKey_88 : decode prog_5_method_23_code 88 = .ok (.aload_n 0, 1) := by decide +kernel
theorem d_M_runKey_89 : decode prog_5_method_23_code 89 = .ok (.getfield 35, 3) := by decide +kernel
theorem d_M_runKey_92 : decode prog_5_method_23_code 92 = .ok (.aload_n 0, 1) := by decide +kernel
theorem d_M_runKey_93 : decode prog_5_method_23_code 93 = .ok (.getfield 7, 3) := by decide +kernel
theorem d_M_runKey_96 : decode prog_5_method_23_code 96 = .ok (.iload_n 3, 1) := by decide +kernel
theorem d_M_runKey_97 : decode prog_5_method_23_code 97 = .ok (.iaload, 1) := by decide +kernel
theorem d_M_runKey_98 : decode prog_5_method_23_code 98 = .ok (.iaload, 1) := by decide +kernel
theorem d_M_runKey_99 : decode prog_5_method_23_code 99 = .ok (.iconst 2, 1) := by decide +kernel
theorem d_M_runKey_100 : decode prog_5_method_23_code 100 = .ok (.if_icmp .eq 7, 3) := by decide +kernel
theorem d_M_runKey_103 : decode prog_5_method_23_code 103 = .ok (.iconst 1, 1) := by decide +kernel
theorem d_M_runKey_104 : decode prog_5_method_23_code 104 = .ok (.goto 4, 3) := by decide +kernel
theorem d_M_runKey_107 : decode prog_5_method_23_code 107 = .ok (.iconst 0, 1) := by decide +kernel
theorem d_M_runKey_108 : decode prog_5_method_23_code 108 = .ok (.istore 4, 2) := by decide +kernel
theorem d_M_runKey_110 : decode prog_5_method_23_code 110 = .ok (.iload 4, 2) := by decide +kernel
theorem d_M_runKey_112 : decode prog_5_method_23_code 112 = .ok (.ifCond .eq 16, 3) := by decide +kernel
theorem d_M_runKey_115 : decode prog_5_method_23_code 115 = .ok (.aload_n 0, 1) := by decide +kernel
theorem d_M_runKey_116 : decode prog_5_method_23_code 116 = .ok (.getfield 13, 3) := by decide +kernel
theorem d_M_runKey_119 : decode prog_5_method_23_code 119 = .ok (.iload_n 3, 1) := by decide +kernel
theorem d_M_runKey_120 : decode prog_5_method_23_code 120 = .ok (.iaload, 1) := by decide +kernel
theorem d_M_runKey_121 : decode prog_5_method_23_code 121 = .ok (.iload_n 3, 1) := by decide +kernel
theorem d_M_runKey_122 : decode prog_5_method_23_code 122 = .ok (.invokestatic 96, 3) := by decide +kernel
theorem d_M_runKey_125 : decode prog_5_method_23_code 125 = .ok (.goto 4, 3) := by decide +kernel
theorem d_M_runKey_128 : decode prog_5_method_23_code 128 = .ok (.iconst 0, 1) := by decide +kernel
theorem d_M_runKey_129 : decode prog_5_method_23_code 129 = .ok (.ireturn, 1) := by decide +kernel
theorem d_M_lives_0 : decode prog_5_method_22_code 0 = .ok (.iload_n 1, 1) := by decide +kernel
theorem d_M_lives_1 : decode prog_5_method_22_code 1 = .ok (.invokestatic 103, 3) := by decide +kernel
theorem d_M_lives_4 : decode prog_5_method_22_code 4 = .ok (.istore_n 2, 1) := by decide +kernel
theorem d_M_lives_5 : decode prog_5_method_22_code 5 = .ok (.iload_n 1, 1) := by decide +kernel
theorem d_M_lives_6 : decode prog_5_method_22_code 6 = .ok (.ifCond .le 51, 3) := by decide +kernel
theorem d_M_lives_9 : decode prog_5_method_22_code 9 = .ok (.iload_n 2, 1) := by decide +kernel
theorem d_M_lives_10 : decode prog_5_method_22_code 10 = .ok (.sipush 192, 3) := by decide +kernel
theorem d_M_lives_13 : decode prog_5_method_22_code 13 = .ok (.if_icmp .ge 44, 3) := by decide +kernel
theorem d_M_lives_16 : decode prog_5_method_22_code 16 = .ok (.aload_n 0, 1) := by decide +kernel
theorem d_M_lives_17 : decode prog_5_method_22_code 17 = .ok (.getfield 7, 3) := by decide +kernel
theorem d_M_lives_20 : decode prog_5_method_22_code 20 = .ok (.iload_n 2, 1) := by decide +kernel
theorem d_M_lives_21 : decode prog_5_method_22_code 21 = .ok (.iaload, 1) := by decide +kernel
theorem d_M_lives_22 : decode prog_5_method_22_code 22 = .ok (.ifCond .lt 35, 3) := by decide +kernel
theorem d_M_lives_25 : decode prog_5_method_22_code 25 = .ok (.aload_n 0, 1) := by decide +kernel
theorem d_M_lives_26 : decode prog_5_method_22_code 26 = .ok (.getfield 13, 3) := by decide +kernel
theorem d_M_lives_29 : decode prog_5_method_22_code 29 = .ok (.iload_n 2, 1) := by decide +kernel
theorem d_M_lives_30 : decode prog_5_method_22_code 30 = .ok (.iaload, 1) := by decide +kernel
theorem d_M_lives_31 : decode prog_5_method_22_code 31 = .ok (.iload_n 1, 1) := by decide +kernel
theorem d_M_lives_32 : decode prog_5_method_22_code 32 = .ok (.bipush 10, 2) := by decide +kernel
theorem d_M_lives_34 : decode prog_5_method_22_code 34 = .ok (.ishr, 1) := by decide +kernel
theorem d_M_lives_35 : decode prog_5_method_22_code 35 = .ok (.if_icmp .ne 22, 3) := by decide +kernel
theorem d_M_lives_38 : decode prog_5_method_22_code 38 = .ok (.aload_n 0, 1) := by decide +kernel
theorem d_M_lives_39 : decode prog_5_method_22_code 39 = .ok (.getfield 35, 3) := by decide +kernel
theorem d_M_lives_42 : decode prog_5_method_22_code 42 = .ok (.aload_n 0, 1) := by decide +kernel
theorem d_M_lives_43 : decode prog_5_method_22_code 43 = .ok (.getfield 7, 3) := by decide +kernel
theorem d_M_lives_46 : decode prog_5_method_22_code 46 = .ok (.iload_n 2, 1) := by decide +kernel
theorem d_M_lives_47 : decode prog_5_method_22_code 47 = .ok (.iaload, 1) := by decide +kernel
theorem d_M_lives_48 : decode prog_5_method_22_code 48 = .ok (.iaload, 1) := by decide +kernel
theorem d_M_lives_49 : decode prog_5_method_22_code 49 = .ok (.iconst 2, 1) := by decide +kernel
theorem d_M_lives_50 : decode prog_5_method_22_code 50 = .ok (.if_icmp .eq 7, 3) := by decide +kernel
theorem d_M_lives_53 : decode prog_5_method_22_code 53 = .ok (.iconst 1, 1) := by decide +kernel
theorem d_M_lives_54 : decode prog_5_method_22_code 54 = .ok (.goto 4, 3) := by decide +kernel
theorem d_M_lives_57 : decode prog_5_method_22_code 57 = .ok (.iconst 0, 1) := by decide +kernel
theorem d_M_lives_58 : decode prog_5_method_22_code 58 = .ok (.ireturn, 1) := by decide +kernel
theorem d_M_placeOf_0 : decode prog_5_method_20_code 0 = .ok (.iload_n 0, 1) := by decide +kernel
theorem d_M_placeOf_1 : decode prog_5_method_20_code 1 = .ok (.iconst 1, 1) := by decide +kernel
theorem d_M_placeOf_2 : decode prog_5_method_20_code 2 = .ok (.ishr, 1) := by decide +kernel
theorem d_M_placeOf_3 : decode prog_5_method_20_code 3 = .ok (.sipush 511, 3) := by decide +kernel
theorem d_M_placeOf_6 : decode prog_5_method_20_code 6 = .ok (.iand, 1) := by decide +kernel
theorem d_M_placeOf_7 : decode prog_5_method_20_code 7 = .ok (.ireturn, 1) := by decide +kernel
theorem d_M_isWeak_0 : decode prog_5_method_21_code 0 = .ok (.iload_n 0, 1) := by decide +kernel
theorem d_M_isWeak_1 : decode prog_5_method_21_code 1 = .ok (.iconst 1, 1) := by decide +kernel
theorem d_M_isWeak_2 : decode prog_5_method_21_code 2 = .ok (.iand, 1) := by decide +kernel
theorem d_M_isWeak_3 : decode prog_5_method_21_code 3 = .ok (.iconst 1, 1) := by decide +kernel
theorem d_M_isWeak_4 : decode prog_5_method_21_code 4 = .ok (.if_icmp .ne 7, 3) := by decide +kernel
theorem d_M_isWeak_7 : decode prog_5_method_21_code 7 = .ok (.iconst 1, 1) := by decide +kernel
theorem d_M_isWeak_8 : decode prog_5_method_21_code 8 = .ok (.goto 4, 3) := by decide +kernel
theorem d_M_isWeak_11 : decode prog_5_method_21_code 11 = .ok (.iconst 0, 1) := by decide +kernel
theorem d_M_isWeak_12 : decode prog_5_method_21_code 12 = .ok (.ireturn, 1) := by decide +kernel
theorem d_M_sell_0 : decode prog_5_method_24_code 0 = .ok (.aload_n 0, 1) := by decide +kernel
theorem d_M_sell_1 : decode prog_5_method_24_code 1 = .ok (.aload_n 0, 1) := by decide +kernel
theorem d_M_sell_2 : decode prog_5_method_24_code 2 = .ok (.iload_n 1, 1) := by decide +kernel
theorem d_M_sell_3 : decode prog_5_method_24_code 3 = .ok (.invokevirtual 106, 3) := by decide +kernel
theorem d_M_sell_6 : decode prog_5_method_24_code 6 = .ok (.ifCond .ne 7, 3) := by decide +kernel
theorem d_M_sell_9 : decode prog_5_method_24_code 9 = .ok (.iconst 1, 1) := by decide +kernel
theorem d_M_sell_10 : decode prog_5_method_24_code 10 = .ok (.goto 15, 3) := by decide +kernel
theorem d_M_sell_13 : decode prog_5_method_24_code 13 = .ok (.iload_n 1, 1) := by decide +kernel
theorem d_M_sell_14 : decode prog_5_method_24_code 14 = .ok (.invokestatic 109, 3) := by decide +kernel
theorem d_M_sell_17 : decode prog_5_method_24_code 17 = .ok (.ifCond .eq 7, 3) := by decide +kernel
theorem d_M_sell_20 : decode prog_5_method_24_code 20 = .ok (.iconst 2, 1) := by decide +kernel
theorem d_M_sell_21 : decode prog_5_method_24_code 21 = .ok (.goto 4, 3) := by decide +kernel
theorem d_M_sell_24 : decode prog_5_method_24_code 24 = .ok (.iconst 0, 1) := by decide +kernel
theorem d_M_sell_25 : decode prog_5_method_24_code 25 = .ok (.putfield 45, 3) := by decide +kernel
theorem d_M_sell_28 : decode prog_5_method_24_code 28 = .ok (.aload_n 0, 1) := by decide +kernel
theorem d_M_sell_29 : decode prog_5_method_24_code 29 = .ok (.getfield 45, 3) := by decide +kernel
theorem d_M_sell_32 : decode prog_5_method_24_code 32 = .ok (.ifCond .le 5, 3) := by decide +kernel
theorem d_M_sell_35 : decode prog_5_method_24_code 35 = .ok (.iconst 0, 1) := by decide +kernel
theorem d_M_sell_36 : decode prog_5_method_24_code 36 = .ok (.ireturn, 1) := by decide +kernel
theorem d_M_sell_37 : decode prog_5_method_24_code 37 = .ok (.aload_n 0, 1) := by decide +kernel
theorem d_M_sell_38 : decode prog_5_method_24_code 38 = .ok (.getfield 7, 3) := by decide +kernel
theorem d_M_sell_41 : decode prog_5_method_24_code 41 = .ok (.iload_n 1, 1) := by decide +kernel
theorem d_M_sell_42 : decode prog_5_method_24_code 42 = .ok (.invokestatic 103, 3) := by decide +kernel
theorem d_M_sell_45 : decode prog_5_method_24_code 45 = .ok (.iaload, 1) := by decide +kernel
theorem d_M_sell_46 : decode prog_5_method_24_code 46 = .ok (.istore_n 2, 1) := by decide +kernel
theorem d_M_sell_47 : decode prog_5_method_24_code 47 = .ok (.aload_n 0, 1) := by decide +kernel
theorem d_M_sell_48 : decode prog_5_method_24_code 48 = .ok (.getfield 7, 3) := by decide +kernel
theorem d_M_sell_51 : decode prog_5_method_24_code 51 = .ok (.iload_n 1, 1) := by decide +kernel
theorem d_M_sell_52 : decode prog_5_method_24_code 52 = .ok (.invokestatic 103, 3) := by decide +kernel
theorem d_M_sell_55 : decode prog_5_method_24_code 55 = .ok (.iconst (-1), 1) := by decide +kernel
theorem d_M_sell_56 : decode prog_5_method_24_code 56 = .ok (.iastore, 1) := by decide +kernel
theorem d_M_sell_57 : decode prog_5_method_24_code 57 = .ok (.iload_n 2, 1) := by decide +kernel
theorem d_M_sell_58 : decode prog_5_method_24_code 58 = .ok (.ireturn, 1) := by decide +kernel
theorem d_M_weak_0 : decode prog_5_method_25_code 0 = .ok (.aload_n 0, 1) := by decide +kernel
theorem d_M_weak_1 : decode prog_5_method_25_code 1 = .ok (.aload_n 0, 1) := by decide +kernel
theorem d_M_weak_2 : decode prog_5_method_25_code 2 = .ok (.iload_n 1, 1) := by decide +kernel
theorem d_M_weak_3 : decode prog_5_method_25_code 3 = .ok (.invokevirtual 106, 3) := by decide +kernel
theorem d_M_weak_6 : decode prog_5_method_25_code 6 = .ok (.ifCond .eq 7, 3) := by decide +kernel
theorem d_M_weak_9 : decode prog_5_method_25_code 9 = .ok (.iconst 0, 1) := by decide +kernel
theorem d_M_weak_10 : decode prog_5_method_25_code 10 = .ok (.goto 4, 3) := by decide +kernel
theorem d_M_weak_13 : decode prog_5_method_25_code 13 = .ok (.iconst 1, 1) := by decide +kernel
theorem d_M_weak_14 : decode prog_5_method_25_code 14 = .ok (.putfield 45, 3) := by decide +kernel
theorem d_M_weak_17 : decode prog_5_method_25_code 17 = .ok (.aload_n 0, 1) := by decide +kernel
theorem d_M_weak_18 : decode prog_5_method_25_code 18 = .ok (.getfield 45, 3) := by decide +kernel
theorem d_M_weak_21 : decode prog_5_method_25_code 21 = .ok (.ifCond .le 7, 3) := by decide +kernel
theorem d_M_weak_24 : decode prog_5_method_25_code 24 = .ok (.iconst 0, 1) := by decide +kernel
theorem d_M_weak_25 : decode prog_5_method_25_code 25 = .ok (.goto 6, 3) := by decide +kernel
theorem d_M_weak_28 : decode prog_5_method_25_code 28 = .ok (.iload_n 1, 1) := by decide +kernel
theorem d_M_weak_29 : decode prog_5_method_25_code 29 = .ok (.iconst 1, 1) := by decide +kernel
theorem d_M_weak_30 : decode prog_5_method_25_code 30 = .ok (.ior, 1) := by decide +kernel
theorem d_M_weak_31 : decode prog_5_method_25_code 31 = .ok (.ireturn, 1) := by decide +kernel
theorem d_M_read_0 : decode prog_5_method_26_code 0 = .ok (.aload_n 0, 1) := by decide +kernel
theorem d_M_read_1 : decode prog_5_method_26_code 1 = .ok (.aload_n 0, 1) := by decide +kernel
theorem d_M_read_2 : decode prog_5_method_26_code 2 = .ok (.iload_n 1, 1) := by decide +kernel
theorem d_M_read_3 : decode prog_5_method_26_code 3 = .ok (.invokevirtual 106, 3) := by decide +kernel
theorem d_M_read_6 : decode prog_5_method_26_code 6 = .ok (.ifCond .ne 7, 3) := by decide +kernel
theorem d_M_read_9 : decode prog_5_method_26_code 9 = .ok (.iconst 1, 1) := by decide +kernel
theorem d_M_read_10 : decode prog_5_method_26_code 10 = .ok (.goto 17, 3) := by decide +kernel
theorem d_M_read_13 : decode prog_5_method_26_code 13 = .ok (.iload_n 2, 1) := by decide +kernel
theorem d_M_read_14 : decode prog_5_method_26_code 14 = .ok (.iconst 0, 1) := by decide +kernel
theorem d_M_read_15 : decode prog_5_method_26_code 15 = .ok (.iconst 3, 1) := by decide +kernel
theorem d_M_read_16 : decode prog_5_method_26_code 16 = .ok (.invokestatic 48, 3) := by decide +kernel
theorem d_M_read_19 : decode prog_5_method_26_code 19 = .ok (.ifCond .eq 7, 3) := by decide +kernel
theorem d_M_read_22 : decode prog_5_method_26_code 22 = .ok (.iconst 0, 1) := by decide +kernel
theorem d_M_read_23 : decode prog_5_method_26_code 23 = .ok (.goto 4, 3) := by decide +kernel
theorem d_M_read_26 : decode prog_5_method_26_code 26 = .ok (.iconst 2, 1) := by decide +kernel
theorem d_M_read_27 : decode prog_5_method_26_code 27 = .ok (.putfield 45, 3) := by decide +kernel
theorem d_M_read_30 : decode prog_5_method_26_code 30 = .ok (.aload_n 0, 1) := by decide +kernel
theorem d_M_read_31 : decode prog_5_method_26_code 31 = .ok (.getfield 45, 3) := by decide +kernel
theorem d_M_read_34 : decode prog_5_method_26_code 34 = .ok (.ifCond .le 7, 3) := by decide +kernel
theorem d_M_read_37 : decode prog_5_method_26_code 37 = .ok (.iconst 0, 1) := by decide +kernel
theorem d_M_read_38 : decode prog_5_method_26_code 38 = .ok (.goto 16, 3) := by decide +kernel
theorem d_M_read_41 : decode prog_5_method_26_code 41 = .ok (.aload_n 0, 1) := by decide +kernel
theorem d_M_read_42 : decode prog_5_method_26_code 42 = .ok (.getfield 22, 3) := by decide +kernel
theorem d_M_read_45 : decode prog_5_method_26_code 45 = .ok (.iconst 4, 1) := by decide +kernel
theorem d_M_read_46 : decode prog_5_method_26_code 46 = .ok (.iload_n 1, 1) := by decide +kernel
theorem d_M_read_47 : decode prog_5_method_26_code 47 = .ok (.invokestatic 103, 3) := by decide +kernel
theorem d_M_read_50 : decode prog_5_method_26_code 50 = .ok (.imul, 1) := by decide +kernel
theorem d_M_read_51 : decode prog_5_method_26_code 51 = .ok (.iload_n 2, 1) := by decide +kernel
theorem d_M_read_52 : decode prog_5_method_26_code 52 = .ok (.iadd, 1) := by decide +kernel
theorem d_M_read_53 : decode prog_5_method_26_code 53 = .ok (.iaload, 1) := by decide +kernel
theorem d_M_read_54 : decode prog_5_method_26_code 54 = .ok (.ireturn, 1) := by decide +kernel
theorem d_M_write_0 : decode prog_5_method_27_code 0 = .ok (.aload_n 0, 1) := by decide +kernel
theorem d_M_write_1 : decode prog_5_method_27_code 1 = .ok (.aload_n 0, 1) := by decide +kernel
theorem d_M_write_2 : decode prog_5_method_27_code 2 = .ok (.iload_n 1, 1) := by decide +kernel
theorem d_M_write_3 : decode prog_5_method_27_code 3 = .ok (.invokevirtual 106, 3) := by decide +kernel
theorem d_M_write_6 : decode prog_5_method_27_code 6 = .ok (.ifCond .ne 7, 3) := by decide +kernel
theorem d_M_write_9 : decode prog_5_method_27_code 9 = .ok (.iconst 1, 1) := by decide +kernel
theorem d_M_write_10 : decode prog_5_method_27_code 10 = .ok (.goto 28, 3) := by decide +kernel
theorem d_M_write_13 : decode prog_5_method_27_code 13 = .ok (.iload_n 1, 1) := by decide +kernel
theorem d_M_write_14 : decode prog_5_method_27_code 14 = .ok (.invokestatic 109, 3) := by decide +kernel
theorem d_M_write_17 : decode prog_5_method_27_code 17 = .ok (.ifCond .eq 7, 3) := by decide +kernel
theorem d_M_write_20 : decode prog_5_method_27_code 20 = .ok (.iconst 2, 1) := by decide +kernel
theorem d_M_write_21 : decode prog_5_method_27_code 21 = .ok (.goto 17, 3) := by decide +kernel
theorem d_M_write_24 : decode prog_5_method_27_code 24 = .ok (.iload_n 2, 1) := by decide +kernel
theorem d_M_write_25 : decode prog_5_method_27_code 25 = .ok (.iconst 0, 1) := by decide +kernel
theorem d_M_write_26 : decode prog_5_method_27_code 26 = .ok (.iconst 3, 1) := by decide +kernel
theorem d_M_write_27 : decode prog_5_method_27_code 27 = .ok (.invokestatic 48, 3) := by decide +kernel
theorem d_M_write_30 : decode prog_5_method_27_code 30 = .ok (.ifCond .eq 7, 3) := by decide +kernel
theorem d_M_write_33 : decode prog_5_method_27_code 33 = .ok (.iconst 0, 1) := by decide +kernel
theorem d_M_write_34 : decode prog_5_method_27_code 34 = .ok (.goto 4, 3) := by decide +kernel
theorem d_M_write_37 : decode prog_5_method_27_code 37 = .ok (.iconst 3, 1) := by decide +kernel
theorem d_M_write_38 : decode prog_5_method_27_code 38 = .ok (.putfield 45, 3) := by decide +kernel
theorem d_M_write_41 : decode prog_5_method_27_code 41 = .ok (.aload_n 0, 1) := by decide +kernel
theorem d_M_write_42 : decode prog_5_method_27_code 42 = .ok (.getfield 45, 3) := by decide +kernel
theorem d_M_write_45 : decode prog_5_method_27_code 45 = .ok (.ifCond .le 5, 3) := by decide +kernel
theorem d_M_write_48 : decode prog_5_method_27_code 48 = .ok (.iconst 0, 1) := by decide +kernel
theorem d_M_write_49 : decode prog_5_method_27_code 49 = .ok (.ireturn, 1) := by decide +kernel
theorem d_M_write_50 : decode prog_5_method_27_code 50 = .ok (.iconst 4, 1) := by decide +kernel
theorem d_M_write_51 : decode prog_5_method_27_code 51 = .ok (.iload_n 1, 1) := by decide +kernel
theorem d_M_write_52 : decode prog_5_method_27_code 52 = .ok (.invokestatic 103, 3) := by decide +kernel
theorem d_M_write_55 : decode prog_5_method_27_code 55 = .ok (.imul, 1) := by decide +kernel
theorem d_M_write_56 : decode prog_5_method_27_code 56 = .ok (.iload_n 2, 1) := by decide +kernel
theorem d_M_write_57 : decode prog_5_method_27_code 57 = .ok (.iadd, 1) := by decide +kernel
theorem d_M_write_58 : decode prog_5_method_27_code 58 = .ok (.istore 4, 2) := by decide +kernel
theorem d_M_write_60 : decode prog_5_method_27_code 60 = .ok (.aload_n 0, 1) := by decide +kernel
theorem d_M_write_61 : decode prog_5_method_27_code 61 = .ok (.getfield 22, 3) := by decide +kernel
theorem d_M_write_64 : decode prog_5_method_27_code 64 = .ok (.iload 4, 2) := by decide +kernel
theorem d_M_write_66 : decode prog_5_method_27_code 66 = .ok (.iaload, 1) := by decide +kernel
theorem d_M_write_67 : decode prog_5_method_27_code 67 = .ok (.istore 5, 2) := by decide +kernel
theorem d_M_write_69 : decode prog_5_method_27_code 69 = .ok (.aload_n 0, 1) := by decide +kernel
theorem d_M_write_70 : decode prog_5_method_27_code 70 = .ok (.getfield 22, 3) := by decide +kernel
theorem d_M_write_73 : decode prog_5_method_27_code 73 = .ok (.iload 4, 2) := by decide +kernel
theorem d_M_write_75 : decode prog_5_method_27_code 75 = .ok (.iload_n 3, 1) := by decide +kernel
theorem d_M_write_76 : decode prog_5_method_27_code 76 = .ok (.iastore, 1) := by decide +kernel
theorem d_M_write_77 : decode prog_5_method_27_code 77 = .ok (.iload 5, 2) := by decide +kernel
theorem d_M_write_79 : decode prog_5_method_27_code 79 = .ok (.ireturn, 1) := by decide +kernel
theorem d_M_move_0 : decode prog_5_method_28_code 0 = .ok (.aload_n 0, 1) := by decide +kernel
theorem d_M_move_1 : decode prog_5_method_28_code 1 = .ok (.aload_n 0, 1) := by decide +kernel
theorem d_M_move_2 : decode prog_5_method_28_code 2 = .ok (.iload_n 1, 1) := by decide +kernel
theorem d_M_move_3 : decode prog_5_method_28_code 3 = .ok (.invokevirtual 106, 3) := by decide +kernel
theorem d_M_move_6 : decode prog_5_method_28_code 6 = .ok (.ifCond .ne 7, 3) := by decide +kernel
theorem d_M_move_9 : decode prog_5_method_28_code 9 = .ok (.iconst 1, 1) := by decide +kernel
theorem d_M_move_10 : decode prog_5_method_28_code 10 = .ok (.goto 39, 3) := by decide +kernel
theorem d_M_move_13 : decode prog_5_method_28_code 13 = .ok (.iload_n 1, 1) := by decide +kernel
theorem d_M_move_14 : decode prog_5_method_28_code 14 = .ok (.invokestatic 109, 3) := by decide +kernel
theorem d_M_move_17 : decode prog_5_method_28_code 17 = .ok (.ifCond .eq 7, 3) := by decide +kernel
theorem d_M_move_20 : decode prog_5_method_28_code 20 = .ok (.iconst 2, 1) := by decide +kernel
theorem d_M_move_21 : decode prog_5_method_28_code 21 = .ok (.goto 28, 3) := by decide +kernel
theorem d_M_move_24 : decode prog_5_method_28_code 24 = .ok (.aload_n 0, 1) := by decide +kernel
theorem d_M_move_25 : decode prog_5_method_28_code 25 = .ok (.iload_n 2, 1) := by decide +kernel
theorem d_M_move_26 : decode prog_5_method_28_code 26 = .ok (.invokevirtual 63, 3) := by decide +kernel
theorem d_M_move_29 : decode prog_5_method_28_code 29 = .ok (.ifCond .ne 7, 3) := by decide +kernel
theorem d_M_move_32 : decode prog_5_method_28_code 32 = .ok (.iconst 3, 1) := by decide +kernel
theorem d_M_move_33 : decode prog_5_method_28_code 33 = .ok (.goto 16, 3) := by decide +kernel
theorem d_M_move_36 : decode prog_5_method_28_code 36 = .ok (.aload_n 0, 1) := by decide +kernel
theorem d_M_move_37 : decode prog_5_method_28_code 37 = .ok (.iload_n 2, 1) := by decide +kernel
theorem d_M_move_38 : decode prog_5_method_28_code 38 = .ok (.invokevirtual 67, 3) := by decide +kernel
theorem d_M_move_41 : decode prog_5_method_28_code 41 = .ok (.ifCond .ne 7, 3) := by decide +kernel
theorem d_M_move_44 : decode prog_5_method_28_code 44 = .ok (.iconst 4, 1) := by decide +kernel
theorem d_M_move_45 : decode prog_5_method_28_code 45 = .ok (.goto 4, 3) := by decide +kernel
theorem d_M_move_48 : decode prog_5_method_28_code 48 = .ok (.iconst 0, 1) := by decide +kernel
theorem d_M_move_49 : decode prog_5_method_28_code 49 = .ok (.putfield 45, 3) := by decide +kernel
theorem d_M_move_52 : decode prog_5_method_28_code 52 = .ok (.aload_n 0, 1) := by decide +kernel
theorem d_M_move_53 : decode prog_5_method_28_code 53 = .ok (.getfield 45, 3) := by decide +kernel
theorem d_M_move_56 : decode prog_5_method_28_code 56 = .ok (.ifCond .le 5, 3) := by decide +kernel
theorem d_M_move_59 : decode prog_5_method_28_code 59 = .ok (.iconst 0, 1) := by decide +kernel
theorem d_M_move_60 : decode prog_5_method_28_code 60 = .ok (.ireturn, 1) := by decide +kernel
theorem d_M_move_61 : decode prog_5_method_28_code 61 = .ok (.iload_n 1, 1) := by decide +kernel
theorem d_M_move_62 : decode prog_5_method_28_code 62 = .ok (.invokestatic 103, 3) := by decide +kernel
theorem d_M_move_65 : decode prog_5_method_28_code 65 = .ok (.istore_n 3, 1) := by decide +kernel
theorem d_M_move_66 : decode prog_5_method_28_code 66 = .ok (.aload_n 0, 1) := by decide +kernel
theorem d_M_move_67 : decode prog_5_method_28_code 67 = .ok (.getfield 7, 3) := by decide +kernel
theorem d_M_move_70 : decode prog_5_method_28_code 70 = .ok (.iload_n 3, 1) := by decide +kernel
theorem d_M_move_71 : decode prog_5_method_28_code 71 = .ok (.iaload, 1) := by decide +kernel
theorem d_M_move_72 : decode prog_5_method_28_code 72 = .ok (.istore 4, 2) := by decide +kernel
theorem d_M_move_74 : decode prog_5_method_28_code 74 = .ok (.aload_n 0, 1) := by decide +kernel
theorem d_M_move_75 : decode prog_5_method_28_code 75 = .ok (.getfield 7, 3) := by decide +kernel
theorem d_M_move_78 : decode prog_5_method_28_code 78 = .ok (.iload_n 3, 1) := by decide +kernel
theorem d_M_move_79 : decode prog_5_method_28_code 79 = .ok (.iconst (-1), 1) := by decide +kernel
theorem d_M_move_80 : decode prog_5_method_28_code 80 = .ok (.iastore, 1) := by decide +kernel
theorem d_M_move_81 : decode prog_5_method_28_code 81 = .ok (.aload_n 0, 1) := by decide +kernel
theorem d_M_move_82 : decode prog_5_method_28_code 82 = .ok (.iload_n 2, 1) := by decide +kernel
theorem d_M_move_83 : decode prog_5_method_28_code 83 = .ok (.iconst 1, 1) := by decide +kernel
theorem d_M_move_84 : decode prog_5_method_28_code 84 = .ok (.invokevirtual 83, 3) := by decide +kernel
theorem d_M_move_87 : decode prog_5_method_28_code 87 = .ok (.istore 5, 2) := by decide +kernel
theorem d_M_move_89 : decode prog_5_method_28_code 89 = .ok (.aload_n 0, 1) := by decide +kernel
theorem d_M_move_90 : decode prog_5_method_28_code 90 = .ok (.getfield 7, 3) := by decide +kernel
theorem d_M_move_93 : decode prog_5_method_28_code 93 = .ok (.iload_n 3, 1) := by decide +kernel
theorem d_M_move_94 : decode prog_5_method_28_code 94 = .ok (.iload 4, 2) := by decide +kernel
theorem d_M_move_96 : decode prog_5_method_28_code 96 = .ok (.iastore, 1) := by decide +kernel
theorem d_M_move_97 : decode prog_5_method_28_code 97 = .ok (.iload 5, 2) := by decide +kernel
theorem d_M_move_99 : decode prog_5_method_28_code 99 = .ok (.ifCond .lt 16, 3) := by decide +kernel
theorem d_M_move_102 : decode prog_5_method_28_code 102 = .ok (.aload_n 0, 1) := by decide +kernel
theorem d_M_move_103 : decode prog_5_method_28_code 103 = .ok (.aload_n 0, 1) := by decide +kernel
theorem d_M_move_104 : decode prog_5_method_28_code 104 = .ok (.iconst 5, 1) := by decide +kernel
theorem d_M_move_105 : decode prog_5_method_28_code 105 = .ok (.iload 5, 2) := by decide +kernel
theorem d_M_move_107 : decode prog_5_method_28_code 107 = .ok (.invokevirtual 73, 3) := by decide +kernel
theorem d_M_move_110 : decode prog_5_method_28_code 110 = .ok (.putfield 45, 3) := by decide +kernel
theorem d_M_move_113 : decode prog_5_method_28_code 113 = .ok (.iconst 0, 1) := by decide +kernel
theorem d_M_move_114 : decode prog_5_method_28_code 114 = .ok (.ireturn, 1) := by decide +kernel
theorem d_M_move_115 : decode prog_5_method_28_code 115 = .ok (.aload_n 0, 1) := by decide +kernel
theorem d_M_move_116 : decode prog_5_method_28_code 116 = .ok (.iload_n 3, 1) := by decide +kernel
theorem d_M_move_117 : decode prog_5_method_28_code 117 = .ok (.iload_n 2, 1) := by decide +kernel
theorem d_M_move_118 : decode prog_5_method_28_code 118 = .ok (.invokevirtual 92, 3) := by decide +kernel
theorem d_M_move_121 : decode prog_5_method_28_code 121 = .ok (.iload 4, 2) := by decide +kernel
theorem d_M_move_123 : decode prog_5_method_28_code 123 = .ok (.ireturn, 1) := by decide +kernel
theorem d_M_limit_0 : decode prog_5_method_29_code 0 = .ok (.aload_n 0, 1) := by decide +kernel
theorem d_M_limit_1 : decode prog_5_method_29_code 1 = .ok (.aload_n 0, 1) := by decide +kernel
theorem d_M_limit_2 : decode prog_5_method_29_code 2 = .ok (.iload_n 1, 1) := by decide +kernel
theorem d_M_limit_3 : decode prog_5_method_29_code 3 = .ok (.invokevirtual 63, 3) := by decide +kernel
theorem d_M_limit_6 : decode prog_5_method_29_code 6 = .ok (.ifCond .ne 7, 3) := by decide +kernel
theorem d_M_limit_9 : decode prog_5_method_29_code 9 = .ok (.iconst 1, 1) := by decide +kernel
theorem d_M_limit_10 : decode prog_5_method_29_code 10 = .ok (.goto 46, 3) := by decide +kernel
theorem d_M_limit_13 : decode prog_5_method_29_code 13 = .ok (.iload_n 2, 1) := by decide +kernel
theorem d_M_limit_14 : decode prog_5_method_29_code 14 = .ok (.iconst 0, 1) := by decide +kernel
theorem d_M_limit_15 : decode prog_5_method_29_code 15 = .ok (.sipush 192, 3) := by decide +kernel
theorem d_M_limit_18 : decode prog_5_method_29_code 18 = .ok (.invokestatic 48, 3) := by decide +kernel
theorem d_M_limit_21 : decode prog_5_method_29_code 21 = .ok (.ifCond .eq 7, 3) := by decide +kernel
theorem d_M_limit_24 : decode prog_5_method_29_code 24 = .ok (.iload_n 1, 1) := by decide +kernel
theorem d_M_limit_25 : decode prog_5_method_29_code 25 = .ok (.ifCond .ne 7, 3) := by decide +kernel
theorem d_M_limit_28 : decode prog_5_method_29_code 28 = .ok (.iconst 2, 1) := by decide +kernel
theorem d_M_limit_29 : decode prog_5_method_29_code 29 = .ok (.goto 27, 3) := by decide +kernel
theorem d_M_limit_32 : decode prog_5_method_29_code 32 = .ok (.aload_n 0, 1) := by decide +kernel
end
section
theorem d_M_limit_33 : decode prog_5_method_29_code 33 = .ok (.iload_n 1, 1) := by decide +kernel
theorem d_M_limit_34 : decode prog_5_method_29_code 34 = .ok (.invokevirtual 60, 3) := by decide +kernel
theorem d_M_limit_37 : decode prog_5_method_29_code 37 = .ok (.iload_n 2, 1) := by decide +kernel
theorem d_M_limit_38 : decode prog_5_method_29_code 38 = .ok (.if_icmp .gt 13, 3) := by decide +kernel
theorem d_M_limit_41 : decode prog_5_method_29_code 41 = .ok (.aload_n 0, 1) := by decide +kernel
theorem d_M_limit_42 : decode prog_5_method_29_code 42 = .ok (.getfield 35, 3) := by decide +kernel
theorem d_M_limit_45 : decode prog_5_method_29_code 45 = .ok (.iload_n 1, 1) := by decide +kernel
theorem d_M_limit_46 : decode prog_5_method_29_code 46 = .ok (.iaload, 1) := by decide +kernel
theorem d_M_limit_47 : decode prog_5_method_29_code 47 = .ok (.iconst 2, 1) := by decide +kernel
theorem d_M_limit_48 : decode prog_5_method_29_code 48 = .ok (.if_icmp .ne 7, 3) := by decide +kernel
theorem d_M_limit_51 : decode prog_5_method_29_code 51 = .ok (.iconst 3, 1) := by decide +kernel
theorem d_M_limit_52 : decode prog_5_method_29_code 52 = .ok (.goto 4, 3) := by decide +kernel
theorem d_M_limit_55 : decode prog_5_method_29_code 55 = .ok (.iconst 0, 1) := by decide +kernel
theorem d_M_limit_56 : decode prog_5_method_29_code 56 = .ok (.putfield 45, 3) := by decide +kernel
theorem d_M_limit_59 : decode prog_5_method_29_code 59 = .ok (.aload_n 0, 1) := by decide +kernel
theorem d_M_limit_60 : decode prog_5_method_29_code 60 = .ok (.getfield 45, 3) := by decide +kernel
theorem d_M_limit_63 : decode prog_5_method_29_code 63 = .ok (.ifCond .le 5, 3) := by decide +kernel
theorem d_M_limit_66 : decode prog_5_method_29_code 66 = .ok (.iconst 0, 1) := by decide +kernel
theorem d_M_limit_67 : decode prog_5_method_29_code 67 = .ok (.ireturn, 1) := by decide +kernel
theorem d_M_limit_68 : decode prog_5_method_29_code 68 = .ok (.aload_n 0, 1) := by decide +kernel
theorem d_M_limit_69 : decode prog_5_method_29_code 69 = .ok (.getfield 32, 3) := by decide +kernel
theorem d_M_limit_72 : decode prog_5_method_29_code 72 = .ok (.iload_n 1, 1) := by decide +kernel
theorem d_M_limit_73 : decode prog_5_method_29_code 73 = .ok (.iaload, 1) := by decide +kernel
theorem d_M_limit_74 : decode prog_5_method_29_code 74 = .ok (.istore_n 3, 1) := by decide +kernel
theorem d_M_limit_75 : decode prog_5_method_29_code 75 = .ok (.aload_n 0, 1) := by decide +kernel
theorem d_M_limit_76 : decode prog_5_method_29_code 76 = .ok (.getfield 32, 3) := by decide +kernel
theorem d_M_limit_79 : decode prog_5_method_29_code 79 = .ok (.iload_n 1, 1) := by decide +kernel
theorem d_M_limit_80 : decode prog_5_method_29_code 80 = .ok (.iload_n 2, 1) := by decide +kernel
theorem d_M_limit_81 : decode prog_5_method_29_code 81 = .ok (.iastore, 1) := by decide +kernel
theorem d_M_limit_82 : decode prog_5_method_29_code 82 = .ok (.iload_n 3, 1) := by decide +kernel
theorem d_M_limit_83 : decode prog_5_method_29_code 83 = .ok (.ireturn, 1) := by decide +kernel
theorem d_M_reserve_0 : decode prog_5_method_30_code 0 = .ok (.aload_n 0, 1) := by decide +kernel
theorem d_M_reserve_1 : decode prog_5_method_30_code 1 = .ok (.aload_n 0, 1) := by decide +kernel
theorem d_M_reserve_2 : decode prog_5_method_30_code 2 = .ok (.iload_n 1, 1) := by decide +kernel
theorem d_M_reserve_3 : decode prog_5_method_30_code 3 = .ok (.invokevirtual 63, 3) := by decide +kernel
theorem d_M_reserve_6 : decode prog_5_method_30_code 6 = .ok (.ifCond .ne 7, 3) := by decide +kernel
theorem d_M_reserve_9 : decode prog_5_method_30_code 9 = .ok (.iconst 1, 1) := by decide +kernel
theorem d_M_reserve_10 : decode prog_5_method_30_code 10 = .ok (.goto 31, 3) := by decide +kernel
theorem d_M_reserve_13 : decode prog_5_method_30_code 13 = .ok (.iload_n 2, 1) := by decide +kernel
theorem d_M_reserve_14 : decode prog_5_method_30_code 14 = .ok (.iconst 0, 1) := by decide +kernel
theorem d_M_reserve_15 : decode prog_5_method_30_code 15 = .ok (.sipush 192, 3) := by decide +kernel
theorem d_M_reserve_18 : decode prog_5_method_30_code 18 = .ok (.invokestatic 48, 3) := by decide +kernel
theorem d_M_reserve_21 : decode prog_5_method_30_code 21 = .ok (.ifCond .ne 7, 3) := by decide +kernel
theorem d_M_reserve_24 : decode prog_5_method_30_code 24 = .ok (.iconst 2, 1) := by decide +kernel
theorem d_M_reserve_25 : decode prog_5_method_30_code 25 = .ok (.goto 16, 3) := by decide +kernel
theorem d_M_reserve_28 : decode prog_5_method_30_code 28 = .ok (.aload_n 0, 1) := by decide +kernel
theorem d_M_reserve_29 : decode prog_5_method_30_code 29 = .ok (.iload_n 1, 1) := by decide +kernel
theorem d_M_reserve_30 : decode prog_5_method_30_code 30 = .ok (.invokevirtual 67, 3) := by decide +kernel
theorem d_M_reserve_33 : decode prog_5_method_30_code 33 = .ok (.ifCond .ne 7, 3) := by decide +kernel
theorem d_M_reserve_36 : decode prog_5_method_30_code 36 = .ok (.iconst 3, 1) := by decide +kernel
theorem d_M_reserve_37 : decode prog_5_method_30_code 37 = .ok (.goto 4, 3) := by decide +kernel
theorem d_M_reserve_40 : decode prog_5_method_30_code 40 = .ok (.iconst 0, 1) := by decide +kernel
theorem d_M_reserve_41 : decode prog_5_method_30_code 41 = .ok (.putfield 45, 3) := by decide +kernel
theorem d_M_reserve_44 : decode prog_5_method_30_code 44 = .ok (.aload_n 0, 1) := by decide +kernel
theorem d_M_reserve_45 : decode prog_5_method_30_code 45 = .ok (.getfield 45, 3) := by decide +kernel
theorem d_M_reserve_48 : decode prog_5_method_30_code 48 = .ok (.ifCond .le 5, 3) := by decide +kernel
theorem d_M_reserve_51 : decode prog_5_method_30_code 51 = .ok (.iconst 0, 1) := by decide +kernel
theorem d_M_reserve_52 : decode prog_5_method_30_code 52 = .ok (.ireturn, 1) := by decide +kernel
theorem d_M_reserve_53 : decode prog_5_method_30_code 53 = .ok (.aload_n 0, 1) := by decide +kernel
theorem d_M_reserve_54 : decode prog_5_method_30_code 54 = .ok (.iload_n 1, 1) := by decide +kernel
theorem d_M_reserve_55 : decode prog_5_method_30_code 55 = .ok (.iload_n 2, 1) := by decide +kernel
theorem d_M_reserve_56 : decode prog_5_method_30_code 56 = .ok (.invokevirtual 83, 3) := by decide +kernel
theorem d_M_reserve_59 : decode prog_5_method_30_code 59 = .ok (.istore_n 3, 1) := by decide +kernel
theorem d_M_reserve_60 : decode prog_5_method_30_code 60 = .ok (.iload_n 3, 1) := by decide +kernel
theorem d_M_reserve_61 : decode prog_5_method_30_code 61 = .ok (.ifCond .lt 15, 3) := by decide +kernel
theorem d_M_reserve_64 : decode prog_5_method_30_code 64 = .ok (.aload_n 0, 1) := by decide +kernel
theorem d_M_reserve_65 : decode prog_5_method_30_code 65 = .ok (.aload_n 0, 1) := by decide +kernel
theorem d_M_reserve_66 : decode prog_5_method_30_code 66 = .ok (.iconst 4, 1) := by decide +kernel
theorem d_M_reserve_67 : decode prog_5_method_30_code 67 = .ok (.iload_n 3, 1) := by decide +kernel
theorem d_M_reserve_68 : decode prog_5_method_30_code 68 = .ok (.invokevirtual 73, 3) := by decide +kernel
theorem d_M_reserve_71 : decode prog_5_method_30_code 71 = .ok (.putfield 45, 3) := by decide +kernel
theorem d_M_reserve_74 : decode prog_5_method_30_code 74 = .ok (.iconst 0, 1) := by decide +kernel
theorem d_M_reserve_75 : decode prog_5_method_30_code 75 = .ok (.ireturn, 1) := by decide +kernel
theorem d_M_reserve_76 : decode prog_5_method_30_code 76 = .ok (.aload_n 0, 1) := by decide +kernel
theorem d_M_reserve_77 : decode prog_5_method_30_code 77 = .ok (.getfield 38, 3) := by decide +kernel
theorem d_M_reserve_80 : decode prog_5_method_30_code 80 = .ok (.iload_n 1, 1) := by decide +kernel
theorem d_M_reserve_81 : decode prog_5_method_30_code 81 = .ok (.dup2, 1) := by decide +kernel
theorem d_M_reserve_82 : decode prog_5_method_30_code 82 = .ok (.iaload, 1) := by decide +kernel
theorem d_M_reserve_83 : decode prog_5_method_30_code 83 = .ok (.iload_n 2, 1) := by decide +kernel
theorem d_M_reserve_84 : decode prog_5_method_30_code 84 = .ok (.iadd, 1) := by decide +kernel
theorem d_M_reserve_85 : decode prog_5_method_30_code 85 = .ok (.iastore, 1) := by decide +kernel
theorem d_M_reserve_86 : decode prog_5_method_30_code 86 = .ok (.aload_n 0, 1) := by decide +kernel
theorem d_M_reserve_87 : decode prog_5_method_30_code 87 = .ok (.getfield 38, 3) := by decide +kernel
theorem d_M_reserve_90 : decode prog_5_method_30_code 90 = .ok (.iload_n 1, 1) := by decide +kernel
theorem d_M_reserve_91 : decode prog_5_method_30_code 91 = .ok (.iaload, 1) := by decide +kernel
theorem d_M_reserve_92 : decode prog_5_method_30_code 92 = .ok (.ireturn, 1) := by decide +kernel
theorem d_M_unreserve_0 : decode prog_5_method_31_code 0 = .ok (.aload_n 0, 1) := by decide +kernel
theorem d_M_unreserve_1 : decode prog_5_method_31_code 1 = .ok (.aload_n 0, 1) := by decide +kernel
theorem d_M_unreserve_2 : decode prog_5_method_31_code 2 = .ok (.iload_n 1, 1) := by decide +kernel
theorem d_M_unreserve_3 : decode prog_5_method_31_code 3 = .ok (.invokevirtual 63, 3) := by decide +kernel
theorem d_M_unreserve_6 : decode prog_5_method_31_code 6 = .ok (.ifCond .ne 7, 3) := by decide +kernel
theorem d_M_unreserve_9 : decode prog_5_method_31_code 9 = .ok (.iconst 1, 1) := by decide +kernel
theorem d_M_unreserve_10 : decode prog_5_method_31_code 10 = .ok (.goto 22, 3) := by decide +kernel
theorem d_M_unreserve_13 : decode prog_5_method_31_code 13 = .ok (.iload_n 2, 1) := by decide +kernel
theorem d_M_unreserve_14 : decode prog_5_method_31_code 14 = .ok (.iconst 0, 1) := by decide +kernel
theorem d_M_unreserve_15 : decode prog_5_method_31_code 15 = .ok (.aload_n 0, 1) := by decide +kernel
theorem d_M_unreserve_16 : decode prog_5_method_31_code 16 = .ok (.getfield 38, 3) := by decide +kernel
theorem d_M_unreserve_19 : decode prog_5_method_31_code 19 = .ok (.iload_n 1, 1) := by decide +kernel
theorem d_M_unreserve_20 : decode prog_5_method_31_code 20 = .ok (.iaload, 1) := by decide +kernel
theorem d_M_unreserve_21 : decode prog_5_method_31_code 21 = .ok (.invokestatic 48, 3) := by decide +kernel
theorem d_M_unreserve_24 : decode prog_5_method_31_code 24 = .ok (.ifCond .eq 7, 3) := by decide +kernel
theorem d_M_unreserve_27 : decode prog_5_method_31_code 27 = .ok (.iconst 0, 1) := by decide +kernel
theorem d_M_unreserve_28 : decode prog_5_method_31_code 28 = .ok (.goto 4, 3) := by decide +kernel
theorem d_M_unreserve_31 : decode prog_5_method_31_code 31 = .ok (.iconst 2, 1) := by decide +kernel
theorem d_M_unreserve_32 : decode prog_5_method_31_code 32 = .ok (.putfield 45, 3) := by decide +kernel
theorem d_M_unreserve_35 : decode prog_5_method_31_code 35 = .ok (.aload_n 0, 1) := by decide +kernel
theorem d_M_unreserve_36 : decode prog_5_method_31_code 36 = .ok (.getfield 45, 3) := by decide +kernel
theorem d_M_unreserve_39 : decode prog_5_method_31_code 39 = .ok (.ifCond .le 5, 3) := by decide +kernel
theorem d_M_unreserve_42 : decode prog_5_method_31_code 42 = .ok (.iconst 0, 1) := by decide +kernel
theorem d_M_unreserve_43 : decode prog_5_method_31_code 43 = .ok (.ireturn, 1) := by decide +kernel
theorem d_M_unreserve_44 : decode prog_5_method_31_code 44 = .ok (.aload_n 0, 1) := by decide +kernel
theorem d_M_unreserve_45 : decode prog_5_method_31_code 45 = .ok (.getfield 38, 3) := by decide +kernel
theorem d_M_unreserve_48 : decode prog_5_method_31_code 48 = .ok (.iload_n 1, 1) := by decide +kernel
theorem d_M_unreserve_49 : decode prog_5_method_31_code 49 = .ok (.dup2, 1) := by decide +kernel
theorem d_M_unreserve_50 : decode prog_5_method_31_code 50 = .ok (.iaload, 1) := by decide +kernel
theorem d_M_unreserve_51 : decode prog_5_method_31_code 51 = .ok (.iload_n 2, 1) := by decide +kernel
theorem d_M_unreserve_52 : decode prog_5_method_31_code 52 = .ok (.isub, 1) := by decide +kernel
theorem d_M_unreserve_53 : decode prog_5_method_31_code 53 = .ok (.iastore, 1) := by decide +kernel
theorem d_M_unreserve_54 : decode prog_5_method_31_code 54 = .ok (.aload_n 0, 1) := by decide +kernel
theorem d_M_unreserve_55 : decode prog_5_method_31_code 55 = .ok (.getfield 38, 3) := by decide +kernel
theorem d_M_unreserve_58 : decode prog_5_method_31_code 58 = .ok (.iload_n 1, 1) := by decide +kernel
theorem d_M_unreserve_59 : decode prog_5_method_31_code 59 = .ok (.iaload, 1) := by decide +kernel
theorem d_M_unreserve_60 : decode prog_5_method_31_code 60 = .ok (.ireturn, 1) := by decide +kernel
theorem d_M_freeze_0 : decode prog_5_method_33_code 0 = .ok (.aload_n 0, 1) := by decide +kernel
theorem d_M_freeze_1 : decode prog_5_method_33_code 1 = .ok (.aload_n 0, 1) := by decide +kernel
theorem d_M_freeze_2 : decode prog_5_method_33_code 2 = .ok (.iload_n 1, 1) := by decide +kernel
theorem d_M_freeze_3 : decode prog_5_method_33_code 3 = .ok (.invokevirtual 112, 3) := by decide +kernel
theorem d_M_freeze_6 : decode prog_5_method_33_code 6 = .ok (.putfield 45, 3) := by decide +kernel
theorem d_M_freeze_9 : decode prog_5_method_33_code 9 = .ok (.aload_n 0, 1) := by decide +kernel
theorem d_M_freeze_10 : decode prog_5_method_33_code 10 = .ok (.getfield 45, 3) := by decide +kernel
theorem d_M_freeze_13 : decode prog_5_method_33_code 13 = .ok (.ifCond .le 5, 3) := by decide +kernel
theorem d_M_freeze_16 : decode prog_5_method_33_code 16 = .ok (.iconst 0, 1) := by decide +kernel
theorem d_M_freeze_17 : decode prog_5_method_33_code 17 = .ok (.ireturn, 1) := by decide +kernel
theorem d_M_freeze_18 : decode prog_5_method_33_code 18 = .ok (.aload_n 0, 1) := by decide +kernel
theorem d_M_freeze_19 : decode prog_5_method_33_code 19 = .ok (.getfield 35, 3) := by decide +kernel
theorem d_M_freeze_22 : decode prog_5_method_33_code 22 = .ok (.iload_n 1, 1) := by decide +kernel
theorem d_M_freeze_23 : decode prog_5_method_33_code 23 = .ok (.iaload, 1) := by decide +kernel
theorem d_M_freeze_24 : decode prog_5_method_33_code 24 = .ok (.iconst 1, 1) := by decide +kernel
theorem d_M_freeze_25 : decode prog_5_method_33_code 25 = .ok (.if_icmp .ne 7, 3) := by decide +kernel
theorem d_M_freeze_28 : decode prog_5_method_33_code 28 = .ok (.iconst 1, 1) := by decide +kernel
theorem d_M_freeze_29 : decode prog_5_method_33_code 29 = .ok (.goto 4, 3) := by decide +kernel
theorem d_M_freeze_32 : decode prog_5_method_33_code 32 = .ok (.iconst 0, 1) := by decide +kernel
theorem d_M_freeze_33 : decode prog_5_method_33_code 33 = .ok (.istore_n 3, 1) := by decide +kernel
theorem d_M_freeze_34 : decode prog_5_method_33_code 34 = .ok (.aload_n 0, 1) := by decide +kernel
theorem d_M_freeze_35 : decode prog_5_method_33_code 35 = .ok (.getfield 35, 3) := by decide +kernel
theorem d_M_freeze_38 : decode prog_5_method_33_code 38 = .ok (.iload_n 1, 1) := by decide +kernel
theorem d_M_freeze_39 : decode prog_5_method_33_code 39 = .ok (.iload_n 2, 1) := by decide +kernel
theorem d_M_freeze_40 : decode prog_5_method_33_code 40 = .ok (.ifCond .eq 7, 3) := by decide +kernel
theorem d_M_freeze_43 : decode prog_5_method_33_code 43 = .ok (.iconst 1, 1) := by decide +kernel
theorem d_M_freeze_44 : decode prog_5_method_33_code 44 = .ok (.goto 4, 3) := by decide +kernel
theorem d_M_freeze_47 : decode prog_5_method_33_code 47 = .ok (.iconst 0, 1) := by decide +kernel
theorem d_M_freeze_48 : decode prog_5_method_33_code 48 = .ok (.iastore, 1) := by decide +kernel
theorem d_M_freeze_49 : decode prog_5_method_33_code 49 = .ok (.iload_n 3, 1) := by decide +kernel
theorem d_M_freeze_50 : decode prog_5_method_33_code 50 = .ok (.ireturn, 1) := by decide +kernel
theorem d_M_wrong_0 : decode prog_5_method_32_code 0 = .ok (.aload_n 0, 1) := by decide +kernel
theorem d_M_wrong_1 : decode prog_5_method_32_code 1 = .ok (.iload_n 1, 1) := by decide +kernel
theorem d_M_wrong_2 : decode prog_5_method_32_code 2 = .ok (.invokevirtual 63, 3) := by decide +kernel
theorem d_M_wrong_5 : decode prog_5_method_32_code 5 = .ok (.ifCond .ne 7, 3) := by decide +kernel
theorem d_M_wrong_8 : decode prog_5_method_32_code 8 = .ok (.iconst 1, 1) := by decide +kernel
theorem d_M_wrong_9 : decode prog_5_method_32_code 9 = .ok (.goto 26, 3) := by decide +kernel
theorem d_M_wrong_12 : decode prog_5_method_32_code 12 = .ok (.iload_n 1, 1) := by decide +kernel
theorem d_M_wrong_13 : decode prog_5_method_32_code 13 = .ok (.ifCond .ne 7, 3) := by decide +kernel
theorem d_M_wrong_16 : decode prog_5_method_32_code 16 = .ok (.iconst 2, 1) := by decide +kernel
theorem d_M_wrong_17 : decode prog_5_method_32_code 17 = .ok (.goto 18, 3) := by decide +kernel
theorem d_M_wrong_20 : decode prog_5_method_32_code 20 = .ok (.aload_n 0, 1) := by decide +kernel
theorem d_M_wrong_21 : decode prog_5_method_32_code 21 = .ok (.getfield 35, 3) := by decide +kernel
theorem d_M_wrong_24 : decode prog_5_method_32_code 24 = .ok (.iload_n 1, 1) := by decide +kernel
theorem d_M_wrong_25 : decode prog_5_method_32_code 25 = .ok (.iaload, 1) := by decide +kernel
theorem d_M_wrong_26 : decode prog_5_method_32_code 26 = .ok (.iconst 2, 1) := by decide +kernel
theorem d_M_wrong_27 : decode prog_5_method_32_code 27 = .ok (.if_icmp .ne 7, 3) := by decide +kernel
theorem d_M_wrong_30 : decode prog_5_method_32_code 30 = .ok (.iconst 3, 1) := by decide +kernel
theorem d_M_wrong_31 : decode prog_5_method_32_code 31 = .ok (.goto 4, 3) := by decide +kernel
theorem d_M_wrong_34 : decode prog_5_method_32_code 34 = .ok (.iconst 0, 1) := by decide +kernel
theorem d_M_wrong_35 : decode prog_5_method_32_code 35 = .ok (.ireturn, 1) := by decide +kernel
theorem d_M_destroy_0 : decode prog_5_method_38_code 0 = .ok (.aload_n 0, 1) := by decide +kernel
theorem d_M_destroy_1 : decode prog_5_method_38_code 1 = .ok (.aload_n 0, 1) := by decide +kernel
theorem d_M_destroy_2 : decode prog_5_method_38_code 2 = .ok (.iload_n 1, 1) := by decide +kernel
theorem d_M_destroy_3 : decode prog_5_method_38_code 3 = .ok (.invokevirtual 112, 3) := by decide +kernel
theorem d_M_destroy_6 : decode prog_5_method_38_code 6 = .ok (.putfield 45, 3) := by decide +kernel
theorem d_M_destroy_9 : decode prog_5_method_38_code 9 = .ok (.aload_n 0, 1) := by decide +kernel
theorem d_M_destroy_10 : decode prog_5_method_38_code 10 = .ok (.getfield 45, 3) := by decide +kernel
theorem d_M_destroy_13 : decode prog_5_method_38_code 13 = .ok (.ifCond .le 5, 3) := by decide +kernel
theorem d_M_destroy_16 : decode prog_5_method_38_code 16 = .ok (.iconst 0, 1) := by decide +kernel
theorem d_M_destroy_17 : decode prog_5_method_38_code 17 = .ok (.ireturn, 1) := by decide +kernel
theorem d_M_destroy_18 : decode prog_5_method_38_code 18 = .ok (.iconst 0, 1) := by decide +kernel
theorem d_M_destroy_19 : decode prog_5_method_38_code 19 = .ok (.istore_n 2, 1) := by decide +kernel
theorem d_M_destroy_20 : decode prog_5_method_38_code 20 = .ok (.iload_n 2, 1) := by decide +kernel
theorem d_M_destroy_21 : decode prog_5_method_38_code 21 = .ok (.bipush 40, 2) := by decide +kernel
theorem d_M_destroy_23 : decode prog_5_method_38_code 23 = .ok (.if_icmp .ge 41, 3) := by decide +kernel
theorem d_M_destroy_26 : decode prog_5_method_38_code 26 = .ok (.aload_n 0, 1) := by decide +kernel
theorem d_M_destroy_27 : decode prog_5_method_38_code 27 = .ok (.getfield 25, 3) := by decide +kernel
theorem d_M_destroy_30 : decode prog_5_method_38_code 30 = .ok (.iload_n 2, 1) := by decide +kernel
theorem d_M_destroy_31 : decode prog_5_method_38_code 31 = .ok (.baload, 1) := by decide +kernel
theorem d_M_destroy_32 : decode prog_5_method_38_code 32 = .ok (.ifCond .eq 26, 3) := by decide +kernel
theorem d_M_destroy_35 : decode prog_5_method_38_code 35 = .ok (.aload_n 0, 1) := by decide +kernel
theorem d_M_destroy_36 : decode prog_5_method_38_code 36 = .ok (.iload_n 2, 1) := by decide +kernel
theorem d_M_destroy_37 : decode prog_5_method_38_code 37 = .ok (.iload_n 1, 1) := by decide +kernel
theorem d_M_destroy_38 : decode prog_5_method_38_code 38 = .ok (.invokevirtual 52, 3) := by decide +kernel
theorem d_M_destroy_41 : decode prog_5_method_38_code 41 = .ok (.ifCond .eq 17, 3) := by decide +kernel
theorem d_M_destroy_44 : decode prog_5_method_38_code 44 = .ok (.aload_n 0, 1) := by decide +kernel
theorem d_M_destroy_45 : decode prog_5_method_38_code 45 = .ok (.getfield 35, 3) := by decide +kernel
theorem d_M_destroy_48 : decode prog_5_method_38_code 48 = .ok (.iload_n 2, 1) := by decide +kernel
theorem d_M_destroy_49 : decode prog_5_method_38_code 49 = .ok (.iconst 2, 1) := by decide +kernel
theorem d_M_destroy_50 : decode prog_5_method_38_code 50 = .ok (.iastore, 1) := by decide +kernel
theorem d_M_destroy_51 : decode prog_5_method_38_code 51 = .ok (.aload_n 0, 1) := by decide +kernel
theorem d_M_destroy_52 : decode prog_5_method_38_code 52 = .ok (.getfield 38, 3) := by decide +kernel
theorem d_M_destroy_55 : decode prog_5_method_38_code 55 = .ok (.iload_n 2, 1) := by decide +kernel
theorem d_M_destroy_56 : decode prog_5_method_38_code 56 = .ok (.iconst 0, 1) := by decide +kernel
theorem d_M_destroy_57 : decode prog_5_method_38_code 57 = .ok (.iastore, 1) := by decide +kernel
theorem d_M_destroy_58 : decode prog_5_method_38_code 58 = .ok (.iinc 2 1, 3) := by decide +kernel
theorem d_M_destroy_61 : decode prog_5_method_38_code 61 = .ok (.goto (-41), 3) := by decide +kernel
theorem d_M_destroy_64 : decode prog_5_method_38_code 64 = .ok (.aload_n 0, 1) := by decide +kernel
theorem d_M_destroy_65 : decode prog_5_method_38_code 65 = .ok (.invokevirtual 121, 3) := by decide +kernel
theorem d_M_destroy_68 : decode prog_5_method_38_code 68 = .ok (.aload_n 0, 1) := by decide +kernel
theorem d_M_destroy_69 : decode prog_5_method_38_code 69 = .ok (.invokevirtual 124, 3) := by decide +kernel
theorem d_M_destroy_72 : decode prog_5_method_38_code 72 = .ok (.ireturn, 1) := by decide +kernel
theorem d_M_clear_0 : decode prog_5_method_35_code 0 = .ok (.iconst 1, 1) := by decide +kernel
theorem d_M_clear_1 : decode prog_5_method_35_code 1 = .ok (.istore_n 1, 1) := by decide +kernel
theorem d_M_clear_2 : decode prog_5_method_35_code 2 = .ok (.iload_n 1, 1) := by decide +kernel
theorem d_M_clear_3 : decode prog_5_method_35_code 3 = .ok (.ifCond .eq 66, 3) := by decide +kernel
theorem d_M_clear_6 : decode prog_5_method_35_code 6 = .ok (.iconst 0, 1) := by decide +kernel
theorem d_M_clear_7 : decode prog_5_method_35_code 7 = .ok (.istore_n 1, 1) := by decide +kernel
theorem d_M_clear_8 : decode prog_5_method_35_code 8 = .ok (.iconst 1, 1) := by decide +kernel
theorem d_M_clear_9 : decode prog_5_method_35_code 9 = .ok (.istore_n 2, 1) := by decide +kernel
theorem d_M_clear_10 : decode prog_5_method_35_code 10 = .ok (.iload_n 2, 1) := by decide +kernel
theorem d_M_clear_11 : decode prog_5_method_35_code 11 = .ok (.bipush 40, 2) := by decide +kernel
theorem d_M_clear_13 : decode prog_5_method_35_code 13 = .ok (.if_icmp .ge 53, 3) := by decide +kernel
theorem d_M_clear_16 : decode prog_5_method_35_code 16 = .ok (.aload_n 0, 1) := by decide +kernel
theorem d_M_clear_17 : decode prog_5_method_35_code 17 = .ok (.getfield 25, 3) := by decide +kernel
theorem d_M_clear_20 : decode prog_5_method_35_code 20 = .ok (.iload_n 2, 1) := by decide +kernel
theorem d_M_clear_21 : decode prog_5_method_35_code 21 = .ok (.baload, 1) := by decide +kernel
theorem d_M_clear_22 : decode prog_5_method_35_code 22 = .ok (.ifCond .eq 38, 3) := by decide +kernel
theorem d_M_clear_25 : decode prog_5_method_35_code 25 = .ok (.aload_n 0, 1) := by decide +kernel
theorem d_M_clear_26 : decode prog_5_method_35_code 26 = .ok (.getfield 35, 3) := by decide +kernel
theorem d_M_clear_29 : decode prog_5_method_35_code 29 = .ok (.iload_n 2, 1) := by decide +kernel
theorem d_M_clear_30 : decode prog_5_method_35_code 30 = .ok (.iaload, 1) := by decide +kernel
theorem d_M_clear_31 : decode prog_5_method_35_code 31 = .ok (.iconst 2, 1) := by decide +kernel
theorem d_M_clear_32 : decode prog_5_method_35_code 32 = .ok (.if_icmp .ne 28, 3) := by decide +kernel
theorem d_M_clear_35 : decode prog_5_method_35_code 35 = .ok (.aload_n 0, 1) := by decide +kernel
theorem d_M_clear_36 : decode prog_5_method_35_code 36 = .ok (.iload_n 2, 1) := by decide +kernel
theorem d_M_clear_37 : decode prog_5_method_35_code 37 = .ok (.invokevirtual 56, 3) := by decide +kernel
theorem d_M_clear_40 : decode prog_5_method_35_code 40 = .ok (.ifCond .ne 20, 3) := by decide +kernel
theorem d_M_clear_43 : decode prog_5_method_35_code 43 = .ok (.aload_n 0, 1) := by decide +kernel
theorem d_M_clear_44 : decode prog_5_method_35_code 44 = .ok (.iload_n 2, 1) := by decide +kernel
theorem d_M_clear_45 : decode prog_5_method_35_code 45 = .ok (.invokevirtual 115, 3) := by decide +kernel
theorem d_M_clear_48 : decode prog_5_method_35_code 48 = .ok (.ifCond .ne 12, 3) := by decide +kernel
theorem d_M_clear_51 : decode prog_5_method_35_code 51 = .ok (.aload_n 0, 1) := by decide +kernel
theorem d_M_clear_52 : decode prog_5_method_35_code 52 = .ok (.getfield 25, 3) := by decide +kernel
theorem d_M_clear_55 : decode prog_5_method_35_code 55 = .ok (.iload_n 2, 1) := by decide +kernel
theorem d_M_clear_56 : decode prog_5_method_35_code 56 = .ok (.iconst 0, 1) := by decide +kernel
theorem d_M_clear_57 : decode prog_5_method_35_code 57 = .ok (.bastore, 1) := by decide +kernel
theorem d_M_clear_58 : decode prog_5_method_35_code 58 = .ok (.iconst 1, 1) := by decide +kernel
theorem d_M_clear_59 : decode prog_5_method_35_code 59 = .ok (.istore_n 1, 1) := by decide +kernel
theorem d_M_clear_60 : decode prog_5_method_35_code 60 = .ok (.iinc 2 1, 3) := by decide +kernel
theorem d_M_clear_63 : decode prog_5_method_35_code 63 = .ok (.goto (-53), 3) := by decide +kernel
theorem d_M_clear_66 : decode prog_5_method_35_code 66 = .ok (.goto (-64), 3) := by decide +kernel
theorem d_M_clear_69 : decode prog_5_method_35_code 69 = .ok (.return_, 1) := by decide +kernel
theorem d_M_isParent_0 : decode prog_5_method_34_code 0 = .ok (.iconst 0, 1) := by decide +kernel
theorem d_M_isParent_1 : decode prog_5_method_34_code 1 = .ok (.istore_n 2, 1) := by decide +kernel
theorem d_M_isParent_2 : decode prog_5_method_34_code 2 = .ok (.iconst 0, 1) := by decide +kernel
theorem d_M_isParent_3 : decode prog_5_method_34_code 3 = .ok (.istore_n 3, 1) := by decide +kernel
theorem d_M_isParent_4 : decode prog_5_method_34_code 4 = .ok (.iload_n 3, 1) := by decide +kernel
theorem d_M_isParent_5 : decode prog_5_method_34_code 5 = .ok (.bipush 40, 2) := by decide +kernel
theorem d_M_isParent_7 : decode prog_5_method_34_code 7 = .ok (.if_icmp .ge 38, 3) := by decide +kernel
theorem d_M_isParent_10 : decode prog_5_method_34_code 10 = .ok (.iload_n 2, 1) := by decide +kernel
theorem d_M_isParent_11 : decode prog_5_method_34_code 11 = .ok (.ifCond .ne 22, 3) := by decide +kernel
theorem d_M_isParent_14 : decode prog_5_method_34_code 14 = .ok (.aload_n 0, 1) := by decide +kernel
theorem d_M_isParent_15 : decode prog_5_method_34_code 15 = .ok (.getfield 25, 3) := by decide +kernel
theorem d_M_isParent_18 : decode prog_5_method_34_code 18 = .ok (.iload_n 3, 1) := by decide +kernel
theorem d_M_isParent_19 : decode prog_5_method_34_code 19 = .ok (.baload, 1) := by decide +kernel
theorem d_M_isParent_20 : decode prog_5_method_34_code 20 = .ok (.ifCond .eq 17, 3) := by decide +kernel
theorem d_M_isParent_23 : decode prog_5_method_34_code 23 = .ok (.aload_n 0, 1) := by decide +kernel
theorem d_M_isParent_24 : decode prog_5_method_34_code 24 = .ok (.getfield 29, 3) := by decide +kernel
theorem d_M_isParent_27 : decode prog_5_method_34_code 27 = .ok (.iload_n 3, 1) := by decide +kernel
theorem d_M_isParent_28 : decode prog_5_method_34_code 28 = .ok (.iaload, 1) := by decide +kernel
theorem d_M_isParent_29 : decode prog_5_method_34_code 29 = .ok (.iload_n 1, 1) := by decide +kernel
theorem d_M_isParent_30 : decode prog_5_method_34_code 30 = .ok (.if_icmp .ne 7, 3) := by decide +kernel
theorem d_M_isParent_33 : decode prog_5_method_34_code 33 = .ok (.iconst 1, 1) := by decide +kernel
theorem d_M_isParent_34 : decode prog_5_method_34_code 34 = .ok (.goto 4, 3) := by decide +kernel
theorem d_M_isParent_37 : decode prog_5_method_34_code 37 = .ok (.iconst 0, 1) := by decide +kernel
theorem d_M_isParent_38 : decode prog_5_method_34_code 38 = .ok (.istore_n 2, 1) := by decide +kernel
theorem d_M_isParent_39 : decode prog_5_method_34_code 39 = .ok (.iinc 3 1, 3) := by decide +kernel
theorem d_M_isParent_42 : decode prog_5_method_34_code 42 = .ok (.goto (-38), 3) := by decide +kernel
theorem d_M_isParent_45 : decode prog_5_method_34_code 45 = .ok (.iload_n 2, 1) := by decide +kernel
theorem d_M_isParent_46 : decode prog_5_method_34_code 46 = .ok (.ireturn, 1) := by decide +kernel
theorem d_M_toBeFreed_0 : decode prog_5_method_37_code 0 = .ok (.iconst 0, 1) := by decide +kernel
theorem d_M_toBeFreed_1 : decode prog_5_method_37_code 1 = .ok (.istore_n 1, 1) := by decide +kernel
theorem d_M_toBeFreed_2 : decode prog_5_method_37_code 2 = .ok (.iconst 0, 1) := by decide +kernel
theorem d_M_toBeFreed_3 : decode prog_5_method_37_code 3 = .ok (.istore_n 2, 1) := by decide +kernel
theorem d_M_toBeFreed_4 : decode prog_5_method_37_code 4 = .ok (.iload_n 2, 1) := by decide +kernel
theorem d_M_toBeFreed_5 : decode prog_5_method_37_code 5 = .ok (.sipush 192, 3) := by decide +kernel
theorem d_M_toBeFreed_8 : decode prog_5_method_37_code 8 = .ok (.if_icmp .ge 25, 3) := by decide +kernel
theorem d_M_toBeFreed_11 : decode prog_5_method_37_code 11 = .ok (.iload_n 1, 1) := by decide +kernel
theorem d_M_toBeFreed_12 : decode prog_5_method_37_code 12 = .ok (.aload_n 0, 1) := by decide +kernel
theorem d_M_toBeFreed_13 : decode prog_5_method_37_code 13 = .ok (.iload_n 2, 1) := by decide +kernel
theorem d_M_toBeFreed_14 : decode prog_5_method_37_code 14 = .ok (.invokevirtual 118, 3) := by decide +kernel
theorem d_M_toBeFreed_17 : decode prog_5_method_37_code 17 = .ok (.ifCond .eq 7, 3) := by decide +kernel
theorem d_M_toBeFreed_20 : decode prog_5_method_37_code 20 = .ok (.iconst 1, 1) := by decide +kernel
theorem d_M_toBeFreed_21 : decode prog_5_method_37_code 21 = .ok (.goto 4, 3) := by decide +kernel
theorem d_M_toBeFreed_24 : decode prog_5_method_37_code 24 = .ok (.iconst 0, 1) := by decide +kernel
theorem d_M_toBeFreed_25 : decode prog_5_method_37_code 25 = .ok (.iadd, 1) := by decide +kernel
theorem d_M_toBeFreed_26 : decode prog_5_method_37_code 26 = .ok (.istore_n 1, 1) := by decide +kernel
theorem d_M_toBeFreed_27 : decode prog_5_method_37_code 27 = .ok (.iinc 2 1, 3) := by decide +kernel
theorem d_M_toBeFreed_30 : decode prog_5_method_37_code 30 = .ok (.goto (-26), 3) := by decide +kernel
theorem d_M_toBeFreed_33 : decode prog_5_method_37_code 33 = .ok (.iload_n 1, 1) := by decide +kernel
theorem d_M_toBeFreed_34 : decode prog_5_method_37_code 34 = .ok (.ireturn, 1) := by decide +kernel
theorem d_M_isToBeFreed_0 : decode prog_5_method_36_code 0 = .ok (.aload_n 0, 1) := by decide +kernel
theorem d_M_isToBeFreed_1 : decode prog_5_method_36_code 1 = .ok (.getfield 7, 3) := by decide +kernel
theorem d_M_isToBeFreed_4 : decode prog_5_method_36_code 4 = .ok (.iload_n 1, 1) := by decide +kernel
theorem d_M_isToBeFreed_5 : decode prog_5_method_36_code 5 = .ok (.iaload, 1) := by decide +kernel
theorem d_M_isToBeFreed_6 : decode prog_5_method_36_code 6 = .ok (.ifCond .lt 22, 3) := by decide +kernel
theorem d_M_isToBeFreed_9 : decode prog_5_method_36_code 9 = .ok (.aload_n 0, 1) := by decide +kernel
theorem d_M_isToBeFreed_10 : decode prog_5_method_36_code 10 = .ok (.getfield 35, 3) := by decide +kernel
theorem d_M_isToBeFreed_13 : decode prog_5_method_36_code 13 = .ok (.aload_n 0, 1) := by decide +kernel
theorem d_M_isToBeFreed_14 : decode prog_5_method_36_code 14 = .ok (.getfield 7, 3) := by decide +kernel
theorem d_M_isToBeFreed_17 : decode prog_5_method_36_code 17 = .ok (.iload_n 1, 1) := by decide +kernel
theorem d_M_isToBeFreed_18 : decode prog_5_method_36_code 18 = .ok (.iaload, 1) := by decide +kernel
theorem d_M_isToBeFreed_19 : decode prog_5_method_36_code 19 = .ok (.iaload, 1) := by decide +kernel
theorem d_M_isToBeFreed_20 : decode prog_5_method_36_code 20 = .ok (.iconst 2, 1) := by decide +kernel
theorem d_M_isToBeFreed_21 : decode prog_5_method_36_code 21 = .ok (.if_icmp .ne 7, 3) := by decide +kernel
theorem d_M_isToBeFreed_24 : decode prog_5_method_36_code 24 = .ok (.iconst 1, 1) := by decide +kernel
theorem d_M_isToBeFreed_25 : decode prog_5_method_36_code 25 = .ok (.goto 4, 3) := by decide +kernel
theorem d_M_isToBeFreed_28 : decode prog_5_method_36_code 28 = .ok (.iconst 0, 1) := by decide +kernel
theorem d_M_isToBeFreed_29 : decode prog_5_method_36_code 29 = .ok (.ireturn, 1) := by decide +kernel
theorem d_M_work_0 : decode prog_5_method_39_code 0 = .ok (.aload_n 0, 1) := by decide +kernel
theorem d_M_work_1 : decode prog_5_method_39_code 1 = .ok (.iload_n 1, 1) := by decide +kernel
theorem d_M_work_2 : decode prog_5_method_39_code 2 = .ok (.iconst 0, 1) := by decide +kernel
theorem d_M_work_3 : decode prog_5_method_39_code 3 = .ok (.sipush 192, 3) := by decide +kernel
theorem d_M_work_6 : decode prog_5_method_39_code 6 = .ok (.invokestatic 48, 3) := by decide +kernel
theorem d_M_work_9 : decode prog_5_method_39_code 9 = .ok (.ifCond .eq 7, 3) := by decide +kernel
theorem d_M_work_12 : decode prog_5_method_39_code 12 = .ok (.iconst 0, 1) := by decide +kernel
theorem d_M_work_13 : decode prog_5_method_39_code 13 = .ok (.goto 4, 3) := by decide +kernel
theorem d_M_work_16 : decode prog_5_method_39_code 16 = .ok (.iconst 1, 1) := by decide +kernel
theorem d_M_work_17 : decode prog_5_method_39_code 17 = .ok (.putfield 45, 3) := by decide +kernel
theorem d_M_work_20 : decode prog_5_method_39_code 20 = .ok (.aload_n 0, 1) := by decide +kernel
theorem d_M_work_21 : decode prog_5_method_39_code 21 = .ok (.getfield 45, 3) := by decide +kernel
theorem d_M_work_24 : decode prog_5_method_39_code 24 = .ok (.ifCond .le 5, 3) := by decide +kernel
theorem d_M_work_27 : decode prog_5_method_39_code 27 = .ok (.iconst 0, 1) := by decide +kernel
theorem d_M_work_28 : decode prog_5_method_39_code 28 = .ok (.ireturn, 1) := by decide +kernel
theorem d_M_work_29 : decode prog_5_method_39_code 29 = .ok (.iload_n 1, 1) := by decide +kernel
theorem d_M_work_30 : decode prog_5_method_39_code 30 = .ok (.istore_n 2, 1) := by decide +kernel
theorem d_M_work_31 : decode prog_5_method_39_code 31 = .ok (.iconst 0, 1) := by decide +kernel
theorem d_M_work_32 : decode prog_5_method_39_code 32 = .ok (.istore_n 3, 1) := by decide +kernel
theorem d_M_work_33 : decode prog_5_method_39_code 33 = .ok (.iload_n 3, 1) := by decide +kernel
theorem d_M_work_34 : decode prog_5_method_39_code 34 = .ok (.sipush 192, 3) := by decide +kernel
theorem d_M_work_37 : decode prog_5_method_39_code 37 = .ok (.if_icmp .ge 31, 3) := by decide +kernel
theorem d_M_work_40 : decode prog_5_method_39_code 40 = .ok (.iload_n 2, 1) := by decide +kernel
theorem d_M_work_41 : decode prog_5_method_39_code 41 = .ok (.ifCond .le 27, 3) := by decide +kernel
theorem d_M_work_44 : decode prog_5_method_39_code 44 = .ok (.aload_n 0, 1) := by decide +kernel
theorem d_M_work_45 : decode prog_5_method_39_code 45 = .ok (.iload_n 3, 1) := by decide +kernel
theorem d_M_work_46 : decode prog_5_method_39_code 46 = .ok (.invokevirtual 118, 3) := by decide +kernel
theorem d_M_work_49 : decode prog_5_method_39_code 49 = .ok (.ifCond .eq 13, 3) := by decide +kernel
theorem d_M_work_52 : decode prog_5_method_39_code 52 = .ok (.aload_n 0, 1) := by decide +kernel
theorem d_M_work_53 : decode prog_5_method_39_code 53 = .ok (.getfield 7, 3) := by decide +kernel
theorem d_M_work_56 : decode prog_5_method_39_code 56 = .ok (.iload_n 3, 1) := by decide +kernel
theorem d_M_work_57 : decode prog_5_method_39_code 57 = .ok (.iconst (-1), 1) := by decide +kernel
theorem d_M_work_58 : decode prog_5_method_39_code 58 = .ok (.iastore, 1) := by decide +kernel
theorem d_M_work_59 : decode prog_5_method_39_code 59 = .ok (.iinc 2 (-1), 3) := by decide +kernel
theorem d_M_work_62 : decode prog_5_method_39_code 62 = .ok (.iinc 3 1, 3) := by decide +kernel
theorem d_M_work_65 : decode prog_5_method_39_code 65 = .ok (.goto (-32), 3) := by decide +kernel
theorem d_M_work_68 : decode prog_5_method_39_code 68 = .ok (.aload_n 0, 1) := by decide +kernel
theorem d_M_work_69 : decode prog_5_method_39_code 69 = .ok (.invokevirtual 121, 3) := by decide +kernel
theorem d_M_work_72 : decode prog_5_method_39_code 72 = .ok (.aload_n 0, 1) := by decide +kernel
theorem d_M_work_73 : decode prog_5_method_39_code 73 = .ok (.invokevirtual 124, 3) := by decide +kernel
theorem d_M_work_76 : decode prog_5_method_39_code 76 = .ok (.ireturn, 1) := by decide +kernel
theorem d_M_handUp_0 : decode prog_5_method_41_code 0 = .ok (.aload_n 0, 1) := by decide +kernel
theorem d_M_handUp_1 : decode prog_5_method_41_code 1 = .ok (.aload_n 0, 1) := by decide +kernel
theorem d_M_handUp_2 : decode prog_5_method_41_code 2 = .ok (.iload_n 1, 1) := by decide +kernel
theorem d_M_handUp_3 : decode prog_5_method_41_code 3 = .ok (.invokevirtual 112, 3) := by decide +kernel
theorem d_M_handUp_6 : decode prog_5_method_41_code 6 = .ok (.putfield 45, 3) := by decide +kernel
theorem d_M_handUp_9 : decode prog_5_method_41_code 9 = .ok (.aload_n 0, 1) := by decide +kernel
theorem d_M_handUp_10 : decode prog_5_method_41_code 10 = .ok (.getfield 45, 3) := by decide +kernel
theorem d_M_handUp_13 : decode prog_5_method_41_code 13 = .ok (.ifCond .le 5, 3) := by decide +kernel
theorem d_M_handUp_16 : decode prog_5_method_41_code 16 = .ok (.iconst 0, 1) := by decide +kernel
theorem d_M_handUp_17 : decode prog_5_method_41_code 17 = .ok (.ireturn, 1) := by decide +kernel
theorem d_M_handUp_18 : decode prog_5_method_41_code 18 = .ok (.aload_n 0, 1) := by decide +kernel
theorem d_M_handUp_19 : decode prog_5_method_41_code 19 = .ok (.getfield 29, 3) := by decide +kernel
theorem d_M_handUp_22 : decode prog_5_method_41_code 22 = .ok (.iload_n 1, 1) := by decide +kernel
theorem d_M_handUp_23 : decode prog_5_method_41_code 23 = .ok (.iaload, 1) := by decide +kernel
theorem d_M_handUp_24 : decode prog_5_method_41_code 24 = .ok (.istore_n 2, 1) := by decide +kernel
theorem d_M_handUp_25 : decode prog_5_method_41_code 25 = .ok (.aload_n 0, 1) := by decide +kernel
theorem d_M_handUp_26 : decode prog_5_method_41_code 26 = .ok (.iload_n 1, 1) := by decide +kernel
theorem d_M_handUp_27 : decode prog_5_method_41_code 27 = .ok (.invokevirtual 56, 3) := by decide +kernel
theorem d_M_handUp_30 : decode prog_5_method_41_code 30 = .ok (.istore_n 3, 1) := by decide +kernel
theorem d_M_handUp_31 : decode prog_5_method_41_code 31 = .ok (.iconst 0, 1) := by decide +kernel
theorem d_M_handUp_32 : decode prog_5_method_41_code 32 = .ok (.istore 4, 2) := by decide +kernel
theorem d_M_handUp_34 : decode prog_5_method_41_code 34 = .ok (.iload 4, 2) := by decide +kernel
theorem d_M_handUp_36 : decode prog_5_method_41_code 36 = .ok (.iload_n 3, 1) := by decide +kernel
theorem d_M_handUp_37 : decode prog_5_method_41_code 37 = .ok (.if_icmp .ge 20, 3) := by decide +kernel
theorem d_M_handUp_40 : decode prog_5_method_41_code 40 = .ok (.aload_n 0, 1) := by decide +kernel
theorem d_M_handUp_41 : decode prog_5_method_41_code 41 = .ok (.aload_n 0, 1) := by decide +kernel
theorem d_M_handUp_42 : decode prog_5_method_41_code 42 = .ok (.iload_n 1, 1) := by decide +kernel
theorem d_M_handUp_43 : decode prog_5_method_41_code 43 = .ok (.iconst 0, 1) := by decide +kernel
theorem d_M_handUp_44 : decode prog_5_method_41_code 44 = .ok (.invokevirtual 128, 3) := by decide +kernel
theorem d_M_handUp_47 : decode prog_5_method_41_code 47 = .ok (.iload_n 2, 1) := by decide +kernel
theorem d_M_handUp_48 : decode prog_5_method_41_code 48 = .ok (.invokevirtual 92, 3) := by decide +kernel
theorem d_M_handUp_51 : decode prog_5_method_41_code 51 = .ok (.iinc 4 1, 3) := by decide +kernel
theorem d_M_handUp_54 : decode prog_5_method_41_code 54 = .ok (.goto (-20), 3) := by decide +kernel
theorem d_M_handUp_57 : decode prog_5_method_41_code 57 = .ok (.aload_n 0, 1) := by decide +kernel
theorem d_M_handUp_58 : decode prog_5_method_41_code 58 = .ok (.getfield 38, 3) := by decide +kernel
theorem d_M_handUp_61 : decode prog_5_method_41_code 61 = .ok (.iload_n 2, 1) := by decide +kernel
theorem d_M_handUp_62 : decode prog_5_method_41_code 62 = .ok (.dup2, 1) := by decide +kernel
theorem d_M_handUp_63 : decode prog_5_method_41_code 63 = .ok (.iaload, 1) := by decide +kernel
theorem d_M_handUp_64 : decode prog_5_method_41_code 64 = .ok (.aload_n 0, 1) := by decide +kernel
theorem d_M_handUp_65 : decode prog_5_method_41_code 65 = .ok (.getfield 38, 3) := by decide +kernel
theorem d_M_handUp_68 : decode prog_5_method_41_code 68 = .ok (.iload_n 1, 1) := by decide +kernel
theorem d_M_handUp_69 : decode prog_5_method_41_code 69 = .ok (.iaload, 1) := by decide +kernel
theorem d_M_handUp_70 : decode prog_5_method_41_code 70 = .ok (.iadd, 1) := by decide +kernel
theorem d_M_handUp_71 : decode prog_5_method_41_code 71 = .ok (.iastore, 1) := by decide +kernel
theorem d_M_handUp_72 : decode prog_5_method_41_code 72 = .ok (.iconst 0, 1) := by decide +kernel
theorem d_M_handUp_73 : decode prog_5_method_41_code 73 = .ok (.istore 4, 2) := by decide +kernel
theorem d_M_handUp_75 : decode prog_5_method_41_code 75 = .ok (.iload 4, 2) := by decide +kernel
theorem d_M_handUp_77 : decode prog_5_method_41_code 77 = .ok (.bipush 40, 2) := by decide +kernel
theorem d_M_handUp_79 : decode prog_5_method_41_code 79 = .ok (.if_icmp .ge 48, 3) := by decide +kernel
theorem d_M_handUp_82 : decode prog_5_method_41_code 82 = .ok (.aload_n 0, 1) := by decide +kernel
theorem d_M_handUp_83 : decode prog_5_method_41_code 83 = .ok (.getfield 29, 3) := by decide +kernel
theorem d_M_handUp_86 : decode prog_5_method_41_code 86 = .ok (.iload 4, 2) := by decide +kernel
theorem d_M_handUp_88 : decode prog_5_method_41_code 88 = .ok (.aload_n 0, 1) := by decide +kernel
theorem d_M_handUp_89 : decode prog_5_method_41_code 89 = .ok (.getfield 25, 3) := by decide +kernel
theorem d_M_handUp_92 : decode prog_5_method_41_code 92 = .ok (.iload 4, 2) := by decide +kernel
theorem d_M_handUp_94 : decode prog_5_method_41_code 94 = .ok (.baload, 1) := by decide +kernel
theorem d_M_handUp_95 : decode prog_5_method_41_code 95 = .ok (.ifCond .eq 18, 3) := by decide +kernel
theorem d_M_handUp_98 : decode prog_5_method_41_code 98 = .ok (.aload_n 0, 1) := by decide +kernel
theorem d_M_handUp_99 : decode prog_5_method_41_code 99 = .ok (.getfield 29, 3) := by decide +kernel
theorem d_M_handUp_102 : decode prog_5_method_41_code 102 = .ok (.iload 4, 2) := by decide +kernel
theorem d_M_handUp_104 : decode prog_5_method_41_code 104 = .ok (.iaload, 1) := by decide +kernel
theorem d_M_handUp_105 : decode prog_5_method_41_code 105 = .ok (.iload_n 1, 1) := by decide +kernel
theorem d_M_handUp_106 : decode prog_5_method_41_code 106 = .ok (.if_icmp .ne 7, 3) := by decide +kernel
theorem d_M_handUp_109 : decode prog_5_method_41_code 109 = .ok (.iload_n 2, 1) := by decide +kernel
theorem d_M_handUp_110 : decode prog_5_method_41_code 110 = .ok (.goto 10, 3) := by decide +kernel
theorem d_M_handUp_113 : decode prog_5_method_41_code 113 = .ok (.aload_n 0, 1) := by decide +kernel
theorem d_M_handUp_114 : decode prog_5_method_41_code 114 = .ok (.getfield 29, 3) := by decide +kernel
theorem d_M_handUp_117 : decode prog_5_method_41_code 117 = .ok (.iload 4, 2) := by decide +kernel
theorem d_M_handUp_119 : decode prog_5_method_41_code 119 = .ok (.iaload, 1) := by decide +kernel
theorem d_M_handUp_120 : decode prog_5_method_41_code 120 = .ok (.iastore, 1) := by decide +kernel
theorem d_M_handUp_121 : decode prog_5_method_41_code 121 = .ok (.iinc 4 1, 3) := by decide +kernel
theorem d_M_handUp_124 : decode prog_5_method_41_code 124 = .ok (.goto (-49), 3) := by decide +kernel
theorem d_M_handUp_127 : decode prog_5_method_41_code 127 = .ok (.aload_n 0, 1) := by decide +kernel
theorem d_M_handUp_128 : decode prog_5_method_41_code 128 = .ok (.getfield 25, 3) := by decide +kernel
theorem d_M_handUp_131 : decode prog_5_method_41_code 131 = .ok (.iload_n 1, 1) := by decide +kernel
theorem d_M_handUp_132 : decode prog_5_method_41_code 132 = .ok (.iconst 0, 1) := by decide +kernel
theorem d_M_handUp_133 : decode prog_5_method_41_code 133 = .ok (.bastore, 1) := by decide +kernel
theorem d_M_handUp_134 : decode prog_5_method_41_code 134 = .ok (.iload_n 3, 1) := by decide +kernel
theorem d_M_handUp_135 : decode prog_5_method_41_code 135 = .ok (.ireturn, 1) := by decide +kernel
theorem d_M_placeOfPage_0 : decode prog_5_method_40_code 0 = .ok (.iconst (-1), 1) := by decide +kernel
theorem d_M_placeOfPage_1 : decode prog_5_method_40_code 1 = .ok (.istore_n 3, 1) := by decide +kernel
theorem d_M_placeOfPage_2 : decode prog_5_method_40_code 2 = .ok (.iconst 0, 1) := by decide +kernel
theorem d_M_placeOfPage_3 : decode prog_5_method_40_code 3 = .ok (.istore 4, 2) := by decide +kernel
theorem d_M_placeOfPage_5 : decode prog_5_method_40_code 5 = .ok (.iload 4, 2) := by decide +kernel
theorem d_M_placeOfPage_7 : decode prog_5_method_40_code 7 = .ok (.sipush 192, 3) := by decide +kernel
end
section
theorem d_M_placeOfPage_10 : decode prog_5_method_40_code 10 = .ok (.if_icmp .ge 102, 3) := by decide +kernel
theorem d_M_placeOfPage_13 : decode prog_5_method_40_code 13 = .ok (.iconst 0, 1) := by decide +kernel
theorem d_M_placeOfPage_14 : decode prog_5_method_40_code 14 = .ok (.istore 5, 2) := by decide +kernel
theorem d_M_placeOfPage_16 : decode prog_5_method_40_code 16 = .ok (.iconst 0, 1) := by decide +kernel
theorem d_M_placeOfPage_17 : decode prog_5_method_40_code 17 = .ok (.istore 6, 2) := by decide +kernel
theorem d_M_placeOfPage_19 : decode prog_5_method_40_code 19 = .ok (.iload 6, 2) := by decide +kernel
theorem d_M_placeOfPage_21 : decode prog_5_method_40_code 21 = .ok (.sipush 192, 3) := by decide +kernel
theorem d_M_placeOfPage_24 : decode prog_5_method_40_code 24 = .ok (.if_icmp .ge 58, 3) := by decide +kernel
theorem d_M_placeOfPage_27 : decode prog_5_method_40_code 27 = .ok (.iload 5, 2) := by decide +kernel
theorem d_M_placeOfPage_29 : decode prog_5_method_40_code 29 = .ok (.aload_n 0, 1) := by decide +kernel
theorem d_M_placeOfPage_30 : decode prog_5_method_40_code 30 = .ok (.getfield 7, 3) := by decide +kernel
theorem d_M_placeOfPage_33 : decode prog_5_method_40_code 33 = .ok (.iload 4, 2) := by decide +kernel
theorem d_M_placeOfPage_35 : decode prog_5_method_40_code 35 = .ok (.iaload, 1) := by decide +kernel
theorem d_M_placeOfPage_36 : decode prog_5_method_40_code 36 = .ok (.iload_n 1, 1) := by decide +kernel
theorem d_M_placeOfPage_37 : decode prog_5_method_40_code 37 = .ok (.if_icmp .ne 35, 3) := by decide +kernel
theorem d_M_placeOfPage_40 : decode prog_5_method_40_code 40 = .ok (.aload_n 0, 1) := by decide +kernel
theorem d_M_placeOfPage_41 : decode prog_5_method_40_code 41 = .ok (.getfield 7, 3) := by decide +kernel
theorem d_M_placeOfPage_44 : decode prog_5_method_40_code 44 = .ok (.iload 6, 2) := by decide +kernel
theorem d_M_placeOfPage_46 : decode prog_5_method_40_code 46 = .ok (.iaload, 1) := by decide +kernel
theorem d_M_placeOfPage_47 : decode prog_5_method_40_code 47 = .ok (.iload_n 1, 1) := by decide +kernel
theorem d_M_placeOfPage_48 : decode prog_5_method_40_code 48 = .ok (.if_icmp .ne 24, 3) := by decide +kernel
theorem d_M_placeOfPage_51 : decode prog_5_method_40_code 51 = .ok (.aload_n 0, 1) := by decide +kernel
theorem d_M_placeOfPage_52 : decode prog_5_method_40_code 52 = .ok (.getfield 19, 3) := by decide +kernel
theorem d_M_placeOfPage_55 : decode prog_5_method_40_code 55 = .ok (.iload 6, 2) := by decide +kernel
theorem d_M_placeOfPage_57 : decode prog_5_method_40_code 57 = .ok (.iaload, 1) := by decide +kernel
theorem d_M_placeOfPage_58 : decode prog_5_method_40_code 58 = .ok (.aload_n 0, 1) := by decide +kernel
theorem d_M_placeOfPage_59 : decode prog_5_method_40_code 59 = .ok (.getfield 19, 3) := by decide +kernel
theorem d_M_placeOfPage_62 : decode prog_5_method_40_code 62 = .ok (.iload 4, 2) := by decide +kernel
theorem d_M_placeOfPage_64 : decode prog_5_method_40_code 64 = .ok (.iaload, 1) := by decide +kernel
theorem d_M_placeOfPage_65 : decode prog_5_method_40_code 65 = .ok (.if_icmp .ge 7, 3) := by decide +kernel
theorem d_M_placeOfPage_68 : decode prog_5_method_40_code 68 = .ok (.iconst 1, 1) := by decide +kernel
theorem d_M_placeOfPage_69 : decode prog_5_method_40_code 69 = .ok (.goto 4, 3) := by decide +kernel
theorem d_M_placeOfPage_72 : decode prog_5_method_40_code 72 = .ok (.iconst 0, 1) := by decide +kernel
theorem d_M_placeOfPage_73 : decode prog_5_method_40_code 73 = .ok (.iadd, 1) := by decide +kernel
theorem d_M_placeOfPage_74 : decode prog_5_method_40_code 74 = .ok (.istore 5, 2) := by decide +kernel
theorem d_M_placeOfPage_76 : decode prog_5_method_40_code 76 = .ok (.iinc 6 1, 3) := by decide +kernel
theorem d_M_placeOfPage_79 : decode prog_5_method_40_code 79 = .ok (.goto (-60), 3) := by decide +kernel
theorem d_M_placeOfPage_82 : decode prog_5_method_40_code 82 = .ok (.aload_n 0, 1) := by decide +kernel
theorem d_M_placeOfPage_83 : decode prog_5_method_40_code 83 = .ok (.getfield 7, 3) := by decide +kernel
theorem d_M_placeOfPage_86 : decode prog_5_method_40_code 86 = .ok (.iload 4, 2) := by decide +kernel
theorem d_M_placeOfPage_88 : decode prog_5_method_40_code 88 = .ok (.iaload, 1) := by decide +kernel
theorem d_M_placeOfPage_89 : decode prog_5_method_40_code 89 = .ok (.iload_n 1, 1) := by decide +kernel
theorem d_M_placeOfPage_90 : decode prog_5_method_40_code 90 = .ok (.if_icmp .ne 14, 3) := by decide +kernel
theorem d_M_placeOfPage_93 : decode prog_5_method_40_code 93 = .ok (.iload 5, 2) := by decide +kernel
theorem d_M_placeOfPage_95 : decode prog_5_method_40_code 95 = .ok (.iload_n 2, 1) := by decide +kernel
theorem d_M_placeOfPage_96 : decode prog_5_method_40_code 96 = .ok (.if_icmp .ne 8, 3) := by decide +kernel
theorem d_M_placeOfPage_99 : decode prog_5_method_40_code 99 = .ok (.iload 4, 2) := by decide +kernel
theorem d_M_placeOfPage_101 : decode prog_5_method_40_code 101 = .ok (.goto 4, 3) := by decide +kernel
theorem d_M_placeOfPage_104 : decode prog_5_method_40_code 104 = .ok (.iload_n 3, 1) := by decide +kernel
theorem d_M_placeOfPage_105 : decode prog_5_method_40_code 105 = .ok (.istore_n 3, 1) := by decide +kernel
theorem d_M_placeOfPage_106 : decode prog_5_method_40_code 106 = .ok (.iinc 4 1, 3) := by decide +kernel
theorem d_M_placeOfPage_109 : decode prog_5_method_40_code 109 = .ok (.goto (-104), 3) := by decide +kernel
theorem d_M_placeOfPage_112 : decode prog_5_method_40_code 112 = .ok (.iload_n 3, 1) := by decide +kernel
theorem d_M_placeOfPage_113 : decode prog_5_method_40_code 113 = .ok (.ireturn, 1) := by decide +kernel
theorem d_M_told_0 : decode prog_5_method_43_code 0 = .ok (.aload_n 0, 1) := by decide +kernel
theorem d_M_told_1 : decode prog_5_method_43_code 1 = .ok (.aload_n 0, 1) := by decide +kernel
theorem d_M_told_2 : decode prog_5_method_43_code 2 = .ok (.iload_n 1, 1) := by decide +kernel
theorem d_M_told_3 : decode prog_5_method_43_code 3 = .ok (.invokevirtual 63, 3) := by decide +kernel
theorem d_M_told_6 : decode prog_5_method_43_code 6 = .ok (.ifCond .ne 7, 3) := by decide +kernel
theorem d_M_told_9 : decode prog_5_method_43_code 9 = .ok (.iconst 1, 1) := by decide +kernel
theorem d_M_told_10 : decode prog_5_method_43_code 10 = .ok (.goto 18, 3) := by decide +kernel
theorem d_M_told_13 : decode prog_5_method_43_code 13 = .ok (.iload_n 2, 1) := by decide +kernel
theorem d_M_told_14 : decode prog_5_method_43_code 14 = .ok (.iconst 0, 1) := by decide +kernel
theorem d_M_told_15 : decode prog_5_method_43_code 15 = .ok (.bipush 7, 2) := by decide +kernel
theorem d_M_told_17 : decode prog_5_method_43_code 17 = .ok (.invokestatic 48, 3) := by decide +kernel
theorem d_M_told_20 : decode prog_5_method_43_code 20 = .ok (.ifCond .eq 7, 3) := by decide +kernel
theorem d_M_told_23 : decode prog_5_method_43_code 23 = .ok (.iconst 0, 1) := by decide +kernel
theorem d_M_told_24 : decode prog_5_method_43_code 24 = .ok (.goto 4, 3) := by decide +kernel
theorem d_M_told_27 : decode prog_5_method_43_code 27 = .ok (.iconst 2, 1) := by decide +kernel
theorem d_M_told_28 : decode prog_5_method_43_code 28 = .ok (.putfield 45, 3) := by decide +kernel
theorem d_M_told_31 : decode prog_5_method_43_code 31 = .ok (.aload_n 0, 1) := by decide +kernel
theorem d_M_told_32 : decode prog_5_method_43_code 32 = .ok (.getfield 45, 3) := by decide +kernel
theorem d_M_told_35 : decode prog_5_method_43_code 35 = .ok (.ifCond .le 5, 3) := by decide +kernel
theorem d_M_told_38 : decode prog_5_method_43_code 38 = .ok (.iconst 0, 1) := by decide +kernel
theorem d_M_told_39 : decode prog_5_method_43_code 39 = .ok (.ireturn, 1) := by decide +kernel
theorem d_M_told_40 : decode prog_5_method_43_code 40 = .ok (.iload_n 2, 1) := by decide +kernel
theorem d_M_told_41 : decode prog_5_method_43_code 41 = .ok (.tableswitch 89 0 6 #[43, 49, 55, 62, 69, 76, 82], 43) := by decide +kernel
theorem d_M_told_84 : decode prog_5_method_43_code 84 = .ok (.aload_n 0, 1) := by decide +kernel
theorem d_M_told_85 : decode prog_5_method_43_code 85 = .ok (.iload_n 1, 1) := by decide +kernel
theorem d_M_told_86 : decode prog_5_method_43_code 86 = .ok (.invokevirtual 60, 3) := by decide +kernel
theorem d_M_told_89 : decode prog_5_method_43_code 89 = .ok (.ireturn, 1) := by decide +kernel
theorem d_M_told_90 : decode prog_5_method_43_code 90 = .ok (.aload_n 0, 1) := by decide +kernel
theorem d_M_told_91 : decode prog_5_method_43_code 91 = .ok (.iload_n 1, 1) := by decide +kernel
theorem d_M_told_92 : decode prog_5_method_43_code 92 = .ok (.invokevirtual 56, 3) := by decide +kernel
theorem d_M_told_95 : decode prog_5_method_43_code 95 = .ok (.ireturn, 1) := by decide +kernel
theorem d_M_told_96 : decode prog_5_method_43_code 96 = .ok (.aload_n 0, 1) := by decide +kernel
theorem d_M_told_97 : decode prog_5_method_43_code 97 = .ok (.getfield 38, 3) := by decide +kernel
theorem d_M_told_100 : decode prog_5_method_43_code 100 = .ok (.iload_n 1, 1) := by decide +kernel
theorem d_M_told_101 : decode prog_5_method_43_code 101 = .ok (.iaload, 1) := by decide +kernel
theorem d_M_told_102 : decode prog_5_method_43_code 102 = .ok (.ireturn, 1) := by decide +kernel
theorem d_M_told_103 : decode prog_5_method_43_code 103 = .ok (.aload_n 0, 1) := by decide +kernel
theorem d_M_told_104 : decode prog_5_method_43_code 104 = .ok (.getfield 32, 3) := by decide +kernel
theorem d_M_told_107 : decode prog_5_method_43_code 107 = .ok (.iload_n 1, 1) := by decide +kernel
theorem d_M_told_108 : decode prog_5_method_43_code 108 = .ok (.iaload, 1) := by decide +kernel
theorem d_M_told_109 : decode prog_5_method_43_code 109 = .ok (.ireturn, 1) := by decide +kernel
theorem d_M_told_110 : decode prog_5_method_43_code 110 = .ok (.aload_n 0, 1) := by decide +kernel
theorem d_M_told_111 : decode prog_5_method_43_code 111 = .ok (.getfield 29, 3) := by decide +kernel
theorem d_M_told_114 : decode prog_5_method_43_code 114 = .ok (.iload_n 1, 1) := by decide +kernel
theorem d_M_told_115 : decode prog_5_method_43_code 115 = .ok (.iaload, 1) := by decide +kernel
theorem d_M_told_116 : decode prog_5_method_43_code 116 = .ok (.ireturn, 1) := by decide +kernel
theorem d_M_told_117 : decode prog_5_method_43_code 117 = .ok (.aload_n 0, 1) := by decide +kernel
theorem d_M_told_118 : decode prog_5_method_43_code 118 = .ok (.iload_n 1, 1) := by decide +kernel
theorem d_M_told_119 : decode prog_5_method_43_code 119 = .ok (.invokevirtual 70, 3) := by decide +kernel
theorem d_M_told_122 : decode prog_5_method_43_code 122 = .ok (.ireturn, 1) := by decide +kernel
theorem d_M_told_123 : decode prog_5_method_43_code 123 = .ok (.aload_n 0, 1) := by decide +kernel
theorem d_M_told_124 : decode prog_5_method_43_code 124 = .ok (.getfield 35, 3) := by decide +kernel
theorem d_M_told_127 : decode prog_5_method_43_code 127 = .ok (.iload_n 1, 1) := by decide +kernel
theorem d_M_told_128 : decode prog_5_method_43_code 128 = .ok (.iaload, 1) := by decide +kernel
theorem d_M_told_129 : decode prog_5_method_43_code 129 = .ok (.ireturn, 1) := by decide +kernel
theorem d_M_told_130 : decode prog_5_method_43_code 130 = .ok (.aload_n 0, 1) := by decide +kernel
theorem d_M_told_131 : decode prog_5_method_43_code 131 = .ok (.iload_n 1, 1) := by decide +kernel
theorem d_M_told_132 : decode prog_5_method_43_code 132 = .ok (.invokevirtual 131, 3) := by decide +kernel
theorem d_M_told_135 : decode prog_5_method_43_code 135 = .ok (.ireturn, 1) := by decide +kernel
theorem d_M_banksUnder_0 : decode prog_5_method_42_code 0 = .ok (.iconst 0, 1) := by decide +kernel
theorem d_M_banksUnder_1 : decode prog_5_method_42_code 1 = .ok (.istore_n 2, 1) := by decide +kernel
theorem d_M_banksUnder_2 : decode prog_5_method_42_code 2 = .ok (.iconst 0, 1) := by decide +kernel
theorem d_M_banksUnder_3 : decode prog_5_method_42_code 3 = .ok (.istore_n 3, 1) := by decide +kernel
theorem d_M_banksUnder_4 : decode prog_5_method_42_code 4 = .ok (.iload_n 3, 1) := by decide +kernel
theorem d_M_banksUnder_5 : decode prog_5_method_42_code 5 = .ok (.bipush 40, 2) := by decide +kernel
theorem d_M_banksUnder_7 : decode prog_5_method_42_code 7 = .ok (.if_icmp .ge 35, 3) := by decide +kernel
theorem d_M_banksUnder_10 : decode prog_5_method_42_code 10 = .ok (.iload_n 2, 1) := by decide +kernel
theorem d_M_banksUnder_11 : decode prog_5_method_42_code 11 = .ok (.aload_n 0, 1) := by decide +kernel
theorem d_M_banksUnder_12 : decode prog_5_method_42_code 12 = .ok (.getfield 25, 3) := by decide +kernel
theorem d_M_banksUnder_15 : decode prog_5_method_42_code 15 = .ok (.iload_n 3, 1) := by decide +kernel
theorem d_M_banksUnder_16 : decode prog_5_method_42_code 16 = .ok (.baload, 1) := by decide +kernel
theorem d_M_banksUnder_17 : decode prog_5_method_42_code 17 = .ok (.ifCond .eq 16, 3) := by decide +kernel
theorem d_M_banksUnder_20 : decode prog_5_method_42_code 20 = .ok (.aload_n 0, 1) := by decide +kernel
theorem d_M_banksUnder_21 : decode prog_5_method_42_code 21 = .ok (.iload_n 3, 1) := by decide +kernel
theorem d_M_banksUnder_22 : decode prog_5_method_42_code 22 = .ok (.iload_n 1, 1) := by decide +kernel
theorem d_M_banksUnder_23 : decode prog_5_method_42_code 23 = .ok (.invokevirtual 52, 3) := by decide +kernel
theorem d_M_banksUnder_26 : decode prog_5_method_42_code 26 = .ok (.ifCond .eq 7, 3) := by decide +kernel
theorem d_M_banksUnder_29 : decode prog_5_method_42_code 29 = .ok (.iconst 1, 1) := by decide +kernel
theorem d_M_banksUnder_30 : decode prog_5_method_42_code 30 = .ok (.goto 4, 3) := by decide +kernel
theorem d_M_banksUnder_33 : decode prog_5_method_42_code 33 = .ok (.iconst 0, 1) := by decide +kernel
theorem d_M_banksUnder_34 : decode prog_5_method_42_code 34 = .ok (.iadd, 1) := by decide +kernel
theorem d_M_banksUnder_35 : decode prog_5_method_42_code 35 = .ok (.istore_n 2, 1) := by decide +kernel
theorem d_M_banksUnder_36 : decode prog_5_method_42_code 36 = .ok (.iinc 3 1, 3) := by decide +kernel
theorem d_M_banksUnder_39 : decode prog_5_method_42_code 39 = .ok (.goto (-35), 3) := by decide +kernel
theorem d_M_banksUnder_42 : decode prog_5_method_42_code 42 = .ok (.iload_n 2, 1) := by decide +kernel
theorem d_M_banksUnder_43 : decode prog_5_method_42_code 43 = .ok (.ireturn, 1) := by decide +kernel
theorem d_M_page_0 : decode prog_5_method_44_code 0 = .ok (.aload_n 0, 1) := by decide +kernel
theorem d_M_page_1 : decode prog_5_method_44_code 1 = .ok (.aload_n 0, 1) := by decide +kernel
theorem d_M_page_2 : decode prog_5_method_44_code 2 = .ok (.iload_n 1, 1) := by decide +kernel
theorem d_M_page_3 : decode prog_5_method_44_code 3 = .ok (.invokevirtual 63, 3) := by decide +kernel
theorem d_M_page_6 : decode prog_5_method_44_code 6 = .ok (.ifCond .eq 22, 3) := by decide +kernel
theorem d_M_page_9 : decode prog_5_method_44_code 9 = .ok (.iload_n 2, 1) := by decide +kernel
theorem d_M_page_10 : decode prog_5_method_44_code 10 = .ok (.iconst 0, 1) := by decide +kernel
theorem d_M_page_11 : decode prog_5_method_44_code 11 = .ok (.aload_n 0, 1) := by decide +kernel
theorem d_M_page_12 : decode prog_5_method_44_code 12 = .ok (.iload_n 1, 1) := by decide +kernel
theorem d_M_page_13 : decode prog_5_method_44_code 13 = .ok (.invokevirtual 56, 3) := by decide +kernel
theorem d_M_page_16 : decode prog_5_method_44_code 16 = .ok (.iconst 1, 1) := by decide +kernel
theorem d_M_page_17 : decode prog_5_method_44_code 17 = .ok (.isub, 1) := by decide +kernel
theorem d_M_page_18 : decode prog_5_method_44_code 18 = .ok (.invokestatic 48, 3) := by decide +kernel
theorem d_M_page_21 : decode prog_5_method_44_code 21 = .ok (.ifCond .eq 7, 3) := by decide +kernel
theorem d_M_page_24 : decode prog_5_method_44_code 24 = .ok (.iconst 0, 1) := by decide +kernel
theorem d_M_page_25 : decode prog_5_method_44_code 25 = .ok (.goto 4, 3) := by decide +kernel
theorem d_M_page_28 : decode prog_5_method_44_code 28 = .ok (.iconst 1, 1) := by decide +kernel
theorem d_M_page_29 : decode prog_5_method_44_code 29 = .ok (.putfield 45, 3) := by decide +kernel
theorem d_M_page_32 : decode prog_5_method_44_code 32 = .ok (.aload_n 0, 1) := by decide +kernel
theorem d_M_page_33 : decode prog_5_method_44_code 33 = .ok (.getfield 45, 3) := by decide +kernel
theorem d_M_page_36 : decode prog_5_method_44_code 36 = .ok (.ifCond .gt 13, 3) := by decide +kernel
theorem d_M_page_39 : decode prog_5_method_44_code 39 = .ok (.aload_n 0, 1) := by decide +kernel
theorem d_M_page_40 : decode prog_5_method_44_code 40 = .ok (.getfield 35, 3) := by decide +kernel
theorem d_M_page_43 : decode prog_5_method_44_code 43 = .ok (.iload_n 1, 1) := by decide +kernel
theorem d_M_page_44 : decode prog_5_method_44_code 44 = .ok (.iaload, 1) := by decide +kernel
theorem d_M_page_45 : decode prog_5_method_44_code 45 = .ok (.iconst 2, 1) := by decide +kernel
theorem d_M_page_46 : decode prog_5_method_44_code 46 = .ok (.if_icmp .ne 5, 3) := by decide +kernel
theorem d_M_page_49 : decode prog_5_method_44_code 49 = .ok (.iconst 0, 1) := by decide +kernel
theorem d_M_page_50 : decode prog_5_method_44_code 50 = .ok (.ireturn, 1) := by decide +kernel
theorem d_M_page_51 : decode prog_5_method_44_code 51 = .ok (.aload_n 0, 1) := by decide +kernel
theorem d_M_page_52 : decode prog_5_method_44_code 52 = .ok (.iload_n 1, 1) := by decide +kernel
theorem d_M_page_53 : decode prog_5_method_44_code 53 = .ok (.iload_n 2, 1) := by decide +kernel
theorem d_M_page_54 : decode prog_5_method_44_code 54 = .ok (.invokevirtual 128, 3) := by decide +kernel
theorem d_M_page_57 : decode prog_5_method_44_code 57 = .ok (.istore_n 3, 1) := by decide +kernel
theorem d_M_page_58 : decode prog_5_method_44_code 58 = .ok (.aload_n 0, 1) := by decide +kernel
theorem d_M_page_59 : decode prog_5_method_44_code 59 = .ok (.getfield 13, 3) := by decide +kernel
theorem d_M_page_62 : decode prog_5_method_44_code 62 = .ok (.iload_n 3, 1) := by decide +kernel
theorem d_M_page_63 : decode prog_5_method_44_code 63 = .ok (.iaload, 1) := by decide +kernel
theorem d_M_page_64 : decode prog_5_method_44_code 64 = .ok (.iload_n 3, 1) := by decide +kernel
theorem d_M_page_65 : decode prog_5_method_44_code 65 = .ok (.invokestatic 96, 3) := by decide +kernel
theorem d_M_page_68 : decode prog_5_method_44_code 68 = .ok (.ireturn, 1) := by decide +kernel
theorem d_M_owner_0 : decode prog_5_method_45_code 0 = .ok (.aload_n 0, 1) := by decide +kernel
theorem d_M_owner_1 : decode prog_5_method_45_code 1 = .ok (.aload_n 0, 1) := by decide +kernel
theorem d_M_owner_2 : decode prog_5_method_45_code 2 = .ok (.iload_n 1, 1) := by decide +kernel
theorem d_M_owner_3 : decode prog_5_method_45_code 3 = .ok (.invokevirtual 106, 3) := by decide +kernel
theorem d_M_owner_6 : decode prog_5_method_45_code 6 = .ok (.ifCond .eq 7, 3) := by decide +kernel
theorem d_M_owner_9 : decode prog_5_method_45_code 9 = .ok (.iconst 0, 1) := by decide +kernel
theorem d_M_owner_10 : decode prog_5_method_45_code 10 = .ok (.goto 4, 3) := by decide +kernel
theorem d_M_owner_13 : decode prog_5_method_45_code 13 = .ok (.iconst 1, 1) := by decide +kernel
theorem d_M_owner_14 : decode prog_5_method_45_code 14 = .ok (.putfield 45, 3) := by decide +kernel
theorem d_M_owner_17 : decode prog_5_method_45_code 17 = .ok (.aload_n 0, 1) := by decide +kernel
theorem d_M_owner_18 : decode prog_5_method_45_code 18 = .ok (.getfield 45, 3) := by decide +kernel
theorem d_M_owner_21 : decode prog_5_method_45_code 21 = .ok (.ifCond .le 7, 3) := by decide +kernel
theorem d_M_owner_24 : decode prog_5_method_45_code 24 = .ok (.iconst 0, 1) := by decide +kernel
theorem d_M_owner_25 : decode prog_5_method_45_code 25 = .ok (.goto 12, 3) := by decide +kernel
theorem d_M_owner_28 : decode prog_5_method_45_code 28 = .ok (.aload_n 0, 1) := by decide +kernel
theorem d_M_owner_29 : decode prog_5_method_45_code 29 = .ok (.getfield 7, 3) := by decide +kernel
theorem d_M_owner_32 : decode prog_5_method_45_code 32 = .ok (.iload_n 1, 1) := by decide +kernel
theorem d_M_owner_33 : decode prog_5_method_45_code 33 = .ok (.invokestatic 103, 3) := by decide +kernel
theorem d_M_owner_36 : decode prog_5_method_45_code 36 = .ok (.iaload, 1) := by decide +kernel
theorem d_M_owner_37 : decode prog_5_method_45_code 37 = .ok (.ireturn, 1) := by decide +kernel
theorem d_M_isAlive_0 : decode prog_5_method_46_code 0 = .ok (.aload_n 0, 1) := by decide +kernel
theorem d_M_isAlive_1 : decode prog_5_method_46_code 1 = .ok (.iconst 0, 1) := by decide +kernel
theorem d_M_isAlive_2 : decode prog_5_method_46_code 2 = .ok (.putfield 45, 3) := by decide +kernel
theorem d_M_isAlive_5 : decode prog_5_method_46_code 5 = .ok (.aload_n 0, 1) := by decide +kernel
theorem d_M_isAlive_6 : decode prog_5_method_46_code 6 = .ok (.iload_n 1, 1) := by decide +kernel
theorem d_M_isAlive_7 : decode prog_5_method_46_code 7 = .ok (.invokevirtual 106, 3) := by decide +kernel
theorem d_M_isAlive_10 : decode prog_5_method_46_code 10 = .ok (.ireturn, 1) := by decide +kernel
theorem d_M_refused_0 : decode prog_5_method_47_code 0 = .ok (.aload_n 0, 1) := by decide +kernel
theorem d_M_refused_1 : decode prog_5_method_47_code 1 = .ok (.iconst 0, 1) := by decide +kernel
theorem d_M_refused_2 : decode prog_5_method_47_code 2 = .ok (.putfield 45, 3) := by decide +kernel
theorem d_M_refused_5 : decode prog_5_method_47_code 5 = .ok (.aload_n 0, 1) := by decide +kernel
theorem d_M_refused_6 : decode prog_5_method_47_code 6 = .ok (.getfield 41, 3) := by decide +kernel
theorem d_M_refused_9 : decode prog_5_method_47_code 9 = .ok (.ireturn, 1) := by decide +kernel
theorem d_M_count_0 : decode prog_5_method_48_code 0 = .ok (.aload_n 0, 1) := by decide +kernel
theorem d_M_count_1 : decode prog_5_method_48_code 1 = .ok (.iconst 0, 1) := by decide +kernel
theorem d_M_count_2 : decode prog_5_method_48_code 2 = .ok (.putfield 45, 3) := by decide +kernel
theorem d_M_count_5 : decode prog_5_method_48_code 5 = .ok (.iconst 0, 1) := by decide +kernel
theorem d_M_count_6 : decode prog_5_method_48_code 6 = .ok (.istore_n 2, 1) := by decide +kernel
theorem d_M_count_7 : decode prog_5_method_48_code 7 = .ok (.iconst 0, 1) := by decide +kernel
theorem d_M_count_8 : decode prog_5_method_48_code 8 = .ok (.istore_n 3, 1) := by decide +kernel
theorem d_M_count_9 : decode prog_5_method_48_code 9 = .ok (.iload_n 3, 1) := by decide +kernel
theorem d_M_count_10 : decode prog_5_method_48_code 10 = .ok (.sipush 192, 3) := by decide +kernel
theorem d_M_count_13 : decode prog_5_method_48_code 13 = .ok (.if_icmp .ge 83, 3) := by decide +kernel
theorem d_M_count_16 : decode prog_5_method_48_code 16 = .ok (.iload_n 1, 1) := by decide +kernel
theorem d_M_count_17 : decode prog_5_method_48_code 17 = .ok (.ifCond .ne 11, 3) := by decide +kernel
theorem d_M_count_20 : decode prog_5_method_48_code 20 = .ok (.aload_n 0, 1) := by decide +kernel
theorem d_M_count_21 : decode prog_5_method_48_code 21 = .ok (.iload_n 3, 1) := by decide +kernel
theorem d_M_count_22 : decode prog_5_method_48_code 22 = .ok (.invokevirtual 77, 3) := by decide +kernel
theorem d_M_count_25 : decode prog_5_method_48_code 25 = .ok (.goto 50, 3) := by decide +kernel
theorem d_M_count_28 : decode prog_5_method_48_code 28 = .ok (.iload_n 1, 1) := by decide +kernel
theorem d_M_count_29 : decode prog_5_method_48_code 29 = .ok (.iconst 1, 1) := by decide +kernel
theorem d_M_count_30 : decode prog_5_method_48_code 30 = .ok (.if_icmp .ne 31, 3) := by decide +kernel
theorem d_M_count_33 : decode prog_5_method_48_code 33 = .ok (.aload_n 0, 1) := by decide +kernel
theorem d_M_count_34 : decode prog_5_method_48_code 34 = .ok (.getfield 7, 3) := by decide +kernel
theorem d_M_count_37 : decode prog_5_method_48_code 37 = .ok (.iload_n 3, 1) := by decide +kernel
theorem d_M_count_38 : decode prog_5_method_48_code 38 = .ok (.iaload, 1) := by decide +kernel
theorem d_M_count_39 : decode prog_5_method_48_code 39 = .ok (.ifCond .ge 18, 3) := by decide +kernel
theorem d_M_count_42 : decode prog_5_method_48_code 42 = .ok (.aload_n 0, 1) := by decide +kernel
theorem d_M_count_43 : decode prog_5_method_48_code 43 = .ok (.getfield 13, 3) := by decide +kernel
theorem d_M_count_46 : decode prog_5_method_48_code 46 = .ok (.iload_n 3, 1) := by decide +kernel
theorem d_M_count_47 : decode prog_5_method_48_code 47 = .ok (.iaload, 1) := by decide +kernel
theorem d_M_count_48 : decode prog_5_method_48_code 48 = .ok (.bipush 7, 2) := by decide +kernel
theorem d_M_count_50 : decode prog_5_method_48_code 50 = .ok (.if_icmp .ne 7, 3) := by decide +kernel
theorem d_M_count_53 : decode prog_5_method_48_code 53 = .ok (.iconst 1, 1) := by decide +kernel
theorem d_M_count_54 : decode prog_5_method_48_code 54 = .ok (.goto 21, 3) := by decide +kernel
theorem d_M_count_57 : decode prog_5_method_48_code 57 = .ok (.iconst 0, 1) := by decide +kernel
theorem d_M_count_58 : decode prog_5_method_48_code 58 = .ok (.goto 17, 3) := by decide +kernel
theorem d_M_count_61 : decode prog_5_method_48_code 61 = .ok (.aload_n 0, 1) := by decide +kernel
theorem d_M_count_62 : decode prog_5_method_48_code 62 = .ok (.getfield 7, 3) := by decide +kernel
theorem d_M_count_65 : decode prog_5_method_48_code 65 = .ok (.iload_n 3, 1) := by decide +kernel
theorem d_M_count_66 : decode prog_5_method_48_code 66 = .ok (.iaload, 1) := by decide +kernel
theorem d_M_count_67 : decode prog_5_method_48_code 67 = .ok (.ifCond .lt 7, 3) := by decide +kernel
theorem d_M_count_70 : decode prog_5_method_48_code 70 = .ok (.iconst 1, 1) := by decide +kernel
theorem d_M_count_71 : decode prog_5_method_48_code 71 = .ok (.goto 4, 3) := by decide +kernel
theorem d_M_count_74 : decode prog_5_method_48_code 74 = .ok (.iconst 0, 1) := by decide +kernel
theorem d_M_count_75 : decode prog_5_method_48_code 75 = .ok (.istore 4, 2) := by decide +kernel
theorem d_M_count_77 : decode prog_5_method_48_code 77 = .ok (.iload_n 2, 1) := by decide +kernel
theorem d_M_count_78 : decode prog_5_method_48_code 78 = .ok (.iload 4, 2) := by decide +kernel
theorem d_M_count_80 : decode prog_5_method_48_code 80 = .ok (.ifCond .eq 7, 3) := by decide +kernel
theorem d_M_count_83 : decode prog_5_method_48_code 83 = .ok (.iconst 1, 1) := by decide +kernel
theorem d_M_count_84 : decode prog_5_method_48_code 84 = .ok (.goto 4, 3) := by decide +kernel
theorem d_M_count_87 : decode prog_5_method_48_code 87 = .ok (.iconst 0, 1) := by decide +kernel
theorem d_M_count_88 : decode prog_5_method_48_code 88 = .ok (.iadd, 1) := by decide +kernel
theorem d_M_count_89 : decode prog_5_method_48_code 89 = .ok (.istore_n 2, 1) := by decide +kernel
theorem d_M_count_90 : decode prog_5_method_48_code 90 = .ok (.iinc 3 1, 3) := by decide +kernel
theorem d_M_count_93 : decode prog_5_method_48_code 93 = .ok (.goto (-84), 3) := by decide +kernel
theorem d_M_count_96 : decode prog_5_method_48_code 96 = .ok (.iload_n 1, 1) := by decide +kernel
theorem d_M_count_97 : decode prog_5_method_48_code 97 = .ok (.iconst 3, 1) := by decide +kernel
theorem d_M_count_98 : decode prog_5_method_48_code 98 = .ok (.if_icmp .ne 11, 3) := by decide +kernel
theorem d_M_count_101 : decode prog_5_method_48_code 101 = .ok (.aload_n 0, 1) := by decide +kernel
theorem d_M_count_102 : decode prog_5_method_48_code 102 = .ok (.iconst 0, 1) := by decide +kernel
theorem d_M_count_103 : decode prog_5_method_48_code 103 = .ok (.invokevirtual 131, 3) := by decide +kernel
theorem d_M_count_106 : decode prog_5_method_48_code 106 = .ok (.goto 17, 3) := by decide +kernel
theorem d_M_count_109 : decode prog_5_method_48_code 109 = .ok (.iload_n 1, 1) := by decide +kernel
theorem d_M_count_110 : decode prog_5_method_48_code 110 = .ok (.iconst 0, 1) := by decide +kernel
theorem d_M_count_111 : decode prog_5_method_48_code 111 = .ok (.iconst 2, 1) := by decide +kernel
theorem d_M_count_112 : decode prog_5_method_48_code 112 = .ok (.invokestatic 48, 3) := by decide +kernel
theorem d_M_count_115 : decode prog_5_method_48_code 115 = .ok (.ifCond .eq 7, 3) := by decide +kernel
theorem d_M_count_118 : decode prog_5_method_48_code 118 = .ok (.iload_n 2, 1) := by decide +kernel
theorem d_M_count_119 : decode prog_5_method_48_code 119 = .ok (.goto 4, 3) := by decide +kernel
theorem d_M_count_122 : decode prog_5_method_48_code 122 = .ok (.iconst (-1), 1) := by decide +kernel
theorem d_M_count_123 : decode prog_5_method_48_code 123 = .ok (.ireturn, 1) := by decide +kernel
theorem d_M_astray_0 : decode prog_5_method_49_code 0 = .ok (.aload_n 0, 1) := by decide +kernel
theorem d_M_astray_1 : decode prog_5_method_49_code 1 = .ok (.iconst 0, 1) := by decide +kernel
theorem d_M_astray_2 : decode prog_5_method_49_code 2 = .ok (.putfield 45, 3) := by decide +kernel
theorem d_M_astray_5 : decode prog_5_method_49_code 5 = .ok (.iconst 0, 1) := by decide +kernel
theorem d_M_astray_6 : decode prog_5_method_49_code 6 = .ok (.ireturn, 1) := by decide +kernel
end
section
theorem d_S_init_0 : decode prog_2_method_1_code 0 = .ok (.aload_n 0, 1) := by decide +kernel
theorem d_S_init_1 : decode prog_2_method_1_code 1 = .ok (.invokespecial 3, 3) := by decide +kernel
theorem d_S_init_4 : decode prog_2_method_1_code 4 = .ok (.aload_n 0, 1) := by decide +kernel
theorem d_S_init_5 : decode prog_2_method_1_code 5 = .ok (.sipush 192, 3) := by decide +kernel
theorem d_S_init_8 : decode prog_2_method_1_code 8 = .ok (.newarray .int, 2) := by decide +kernel
theorem d_S_init_10 : decode prog_2_method_1_code 10 = .ok (.putfield 9, 3) := by decide +kernel
theorem d_S_init_13 : decode prog_2_method_1_code 13 = .ok (.aload_n 0, 1) := by decide +kernel
theorem d_S_init_14 : decode prog_2_method_1_code 14 = .ok (.sipush 192, 3) := by decide +kernel
theorem d_S_init_17 : decode prog_2_method_1_code 17 = .ok (.newarray .int, 2) := by decide +kernel
theorem d_S_init_19 : decode prog_2_method_1_code 19 = .ok (.putfield 15, 3) := by decide +kernel
theorem d_S_init_22 : decode prog_2_method_1_code 22 = .ok (.aload_n 0, 1) := by decide +kernel
theorem d_S_init_23 : decode prog_2_method_1_code 23 = .ok (.sipush 192, 3) := by decide +kernel
theorem d_S_init_26 : decode prog_2_method_1_code 26 = .ok (.newarray .int, 2) := by decide +kernel
theorem d_S_init_28 : decode prog_2_method_1_code 28 = .ok (.putfield 18, 3) := by decide +kernel
theorem d_S_init_31 : decode prog_2_method_1_code 31 = .ok (.aload_n 0, 1) := by decide +kernel
theorem d_S_init_32 : decode prog_2_method_1_code 32 = .ok (.sipush 768, 3) := by decide +kernel
theorem d_S_init_35 : decode prog_2_method_1_code 35 = .ok (.newarray .int, 2) := by decide +kernel
theorem d_S_init_37 : decode prog_2_method_1_code 37 = .ok (.putfield 21, 3) := by decide +kernel
theorem d_S_init_40 : decode prog_2_method_1_code 40 = .ok (.aload_n 0, 1) := by decide +kernel
theorem d_S_init_41 : decode prog_2_method_1_code 41 = .ok (.sipush 192, 3) := by decide +kernel
theorem d_S_init_44 : decode prog_2_method_1_code 44 = .ok (.newarray .int, 2) := by decide +kernel
theorem d_S_init_46 : decode prog_2_method_1_code 46 = .ok (.putfield 24, 3) := by decide +kernel
theorem d_S_init_49 : decode prog_2_method_1_code 49 = .ok (.aload_n 0, 1) := by decide +kernel
theorem d_S_init_50 : decode prog_2_method_1_code 50 = .ok (.sipush 192, 3) := by decide +kernel
theorem d_S_init_53 : decode prog_2_method_1_code 53 = .ok (.newarray .int, 2) := by decide +kernel
theorem d_S_init_55 : decode prog_2_method_1_code 55 = .ok (.putfield 27, 3) := by decide +kernel
theorem d_S_init_58 : decode prog_2_method_1_code 58 = .ok (.aload_n 0, 1) := by decide +kernel
theorem d_S_init_59 : decode prog_2_method_1_code 59 = .ok (.getfield 15, 3) := by decide +kernel
theorem d_S_init_62 : decode prog_2_method_1_code 62 = .ok (.iconst (-1), 1) := by decide +kernel
theorem d_S_init_63 : decode prog_2_method_1_code 63 = .ok (.invokestatic 30, 3) := by decide +kernel
theorem d_S_init_66 : decode prog_2_method_1_code 66 = .ok (.return_, 1) := by decide +kernel
theorem d_S_hasPage_0 : decode prog_2_method_4_code 0 = .ok (.iload_n 1, 1) := by decide +kernel
theorem d_S_hasPage_1 : decode prog_2_method_4_code 1 = .ok (.sipush 192, 3) := by decide +kernel
theorem d_S_hasPage_4 : decode prog_2_method_4_code 4 = .ok (.if_icmp .ge 25, 3) := by decide +kernel
theorem d_S_hasPage_7 : decode prog_2_method_4_code 7 = .ok (.aload_n 0, 1) := by decide +kernel
theorem d_S_hasPage_8 : decode prog_2_method_4_code 8 = .ok (.iload_n 1, 1) := by decide +kernel
theorem d_S_hasPage_9 : decode prog_2_method_4_code 9 = .ok (.invokevirtual 36, 3) := by decide +kernel
theorem d_S_hasPage_12 : decode prog_2_method_4_code 12 = .ok (.ifCond .eq 17, 3) := by decide +kernel
theorem d_S_hasPage_15 : decode prog_2_method_4_code 15 = .ok (.aload_n 0, 1) := by decide +kernel
theorem d_S_hasPage_16 : decode prog_2_method_4_code 16 = .ok (.getfield 9, 3) := by decide +kernel
theorem d_S_hasPage_19 : decode prog_2_method_4_code 19 = .ok (.iload_n 1, 1) := by decide +kernel
theorem d_S_hasPage_20 : decode prog_2_method_4_code 20 = .ok (.iaload, 1) := by decide +kernel
theorem d_S_hasPage_21 : decode prog_2_method_4_code 21 = .ok (.iload_n 2, 1) := by decide +kernel
theorem d_S_hasPage_22 : decode prog_2_method_4_code 22 = .ok (.if_icmp .ne 7, 3) := by decide +kernel
theorem d_S_hasPage_25 : decode prog_2_method_4_code 25 = .ok (.iconst 1, 1) := by decide +kernel
theorem d_S_hasPage_26 : decode prog_2_method_4_code 26 = .ok (.goto 4, 3) := by decide +kernel
theorem d_S_hasPage_29 : decode prog_2_method_4_code 29 = .ok (.iconst 0, 1) := by decide +kernel
theorem d_S_hasPage_30 : decode prog_2_method_4_code 30 = .ok (.ireturn, 1) := by decide +kernel
theorem d_S_isTaken_0 : decode prog_2_method_2_code 0 = .ok (.aload_n 0, 1) := by decide +kernel
theorem d_S_isTaken_1 : decode prog_2_method_2_code 1 = .ok (.getfield 15, 3) := by decide +kernel
theorem d_S_isTaken_4 : decode prog_2_method_2_code 4 = .ok (.iload_n 1, 1) := by decide +kernel
theorem d_S_isTaken_5 : decode prog_2_method_2_code 5 = .ok (.iaload, 1) := by decide +kernel
theorem d_S_isTaken_6 : decode prog_2_method_2_code 6 = .ok (.iconst (-1), 1) := by decide +kernel
theorem d_S_isTaken_7 : decode prog_2_method_2_code 7 = .ok (.if_icmp .eq 7, 3) := by decide +kernel
theorem d_S_isTaken_10 : decode prog_2_method_2_code 10 = .ok (.iconst 1, 1) := by decide +kernel
theorem d_S_isTaken_11 : decode prog_2_method_2_code 11 = .ok (.goto 4, 3) := by decide +kernel
theorem d_S_isTaken_14 : decode prog_2_method_2_code 14 = .ok (.iconst 0, 1) := by decide +kernel
theorem d_S_isTaken_15 : decode prog_2_method_2_code 15 = .ok (.ireturn, 1) := by decide +kernel
theorem d_S_ownerOf_0 : decode prog_2_method_6_code 0 = .ok (.aload_n 0, 1) := by decide +kernel
theorem d_S_ownerOf_1 : decode prog_2_method_6_code 1 = .ok (.getfield 15, 3) := by decide +kernel
theorem d_S_ownerOf_4 : decode prog_2_method_6_code 4 = .ok (.iload_n 1, 1) := by decide +kernel
theorem d_S_ownerOf_5 : decode prog_2_method_6_code 5 = .ok (.iaload, 1) := by decide +kernel
theorem d_S_ownerOf_6 : decode prog_2_method_6_code 6 = .ok (.ireturn, 1) := by decide +kernel
theorem d_S_freePlaces_0 : decode prog_2_method_11_code 0 = .ok (.iconst 0, 1) := by decide +kernel
theorem d_S_freePlaces_1 : decode prog_2_method_11_code 1 = .ok (.istore_n 1, 1) := by decide +kernel
theorem d_S_freePlaces_2 : decode prog_2_method_11_code 2 = .ok (.iconst 0, 1) := by decide +kernel
theorem d_S_freePlaces_3 : decode prog_2_method_11_code 3 = .ok (.istore_n 2, 1) := by decide +kernel
theorem d_S_freePlaces_4 : decode prog_2_method_11_code 4 = .ok (.iload_n 2, 1) := by decide +kernel
theorem d_S_freePlaces_5 : decode prog_2_method_11_code 5 = .ok (.sipush 192, 3) := by decide +kernel
theorem d_S_freePlaces_8 : decode prog_2_method_11_code 8 = .ok (.if_icmp .ge 20, 3) := by decide +kernel
theorem d_S_freePlaces_11 : decode prog_2_method_11_code 11 = .ok (.aload_n 0, 1) := by decide +kernel
theorem d_S_freePlaces_12 : decode prog_2_method_11_code 12 = .ok (.iload_n 2, 1) := by decide +kernel
theorem d_S_freePlaces_13 : decode prog_2_method_11_code 13 = .ok (.invokevirtual 44, 3) := by decide +kernel
theorem d_S_freePlaces_16 : decode prog_2_method_11_code 16 = .ok (.ifCond .eq 6, 3) := by decide +kernel
theorem d_S_freePlaces_19 : decode prog_2_method_11_code 19 = .ok (.iinc 1 1, 3) := by decide +kernel
theorem d_S_freePlaces_22 : decode prog_2_method_11_code 22 = .ok (.iinc 2 1, 3) := by decide +kernel
theorem d_S_freePlaces_25 : decode prog_2_method_11_code 25 = .ok (.goto (-21), 3) := by decide +kernel
theorem d_S_freePlaces_28 : decode prog_2_method_11_code 28 = .ok (.iload_n 1, 1) := by decide +kernel
theorem d_S_freePlaces_29 : decode prog_2_method_11_code 29 = .ok (.ireturn, 1) := by decide +kernel
theorem d_S_isFree_0 : decode prog_2_method_3_code 0 = .ok (.aload_n 0, 1) := by decide +kernel
theorem d_S_isFree_1 : decode prog_2_method_3_code 1 = .ok (.getfield 15, 3) := by decide +kernel
theorem d_S_isFree_4 : decode prog_2_method_3_code 4 = .ok (.iload_n 1, 1) := by decide +kernel
theorem d_S_isFree_5 : decode prog_2_method_3_code 5 = .ok (.iaload, 1) := by decide +kernel
theorem d_S_isFree_6 : decode prog_2_method_3_code 6 = .ok (.iconst (-1), 1) := by decide +kernel
theorem d_S_isFree_7 : decode prog_2_method_3_code 7 = .ok (.if_icmp .ne 18, 3) := by decide +kernel
theorem d_S_isFree_10 : decode prog_2_method_3_code 10 = .ok (.aload_n 0, 1) := by decide +kernel
theorem d_S_isFree_11 : decode prog_2_method_3_code 11 = .ok (.getfield 9, 3) := by decide +kernel
theorem d_S_isFree_14 : decode prog_2_method_3_code 14 = .ok (.iload_n 1, 1) := by decide +kernel
theorem d_S_isFree_15 : decode prog_2_method_3_code 15 = .ok (.iaload, 1) := by decide +kernel
theorem d_S_isFree_16 : decode prog_2_method_3_code 16 = .ok (.bipush 7, 2) := by decide +kernel
theorem d_S_isFree_18 : decode prog_2_method_3_code 18 = .ok (.if_icmp .ge 7, 3) := by decide +kernel
theorem d_S_isFree_21 : decode prog_2_method_3_code 21 = .ok (.iconst 1, 1) := by decide +kernel
theorem d_S_isFree_22 : decode prog_2_method_3_code 22 = .ok (.goto 4, 3) := by decide +kernel
theorem d_S_isFree_25 : decode prog_2_method_3_code 25 = .ok (.iconst 0, 1) := by decide +kernel
theorem d_S_isFree_26 : decode prog_2_method_3_code 26 = .ok (.ireturn, 1) := by decide +kernel
theorem d_S_retiredPlaces_0 : decode prog_2_method_12_code 0 = .ok (.sipush 192, 3) := by decide +kernel
theorem d_S_retiredPlaces_3 : decode prog_2_method_12_code 3 = .ok (.aload_n 0, 1) := by decide +kernel
theorem d_S_retiredPlaces_4 : decode prog_2_method_12_code 4 = .ok (.getfield 40, 3) := by decide +kernel
theorem d_S_retiredPlaces_7 : decode prog_2_method_12_code 7 = .ok (.isub, 1) := by decide +kernel
theorem d_S_retiredPlaces_8 : decode prog_2_method_12_code 8 = .ok (.aload_n 0, 1) := by decide +kernel
theorem d_S_retiredPlaces_9 : decode prog_2_method_12_code 9 = .ok (.invokevirtual 47, 3) := by decide +kernel
theorem d_S_retiredPlaces_12 : decode prog_2_method_12_code 12 = .ok (.isub, 1) := by decide +kernel
theorem d_S_retiredPlaces_13 : decode prog_2_method_12_code 13 = .ok (.ireturn, 1) := by decide +kernel
theorem d_S_pages_0 : decode prog_2_method_10_code 0 = .ok (.aload_n 0, 1) := by decide +kernel
theorem d_S_pages_1 : decode prog_2_method_10_code 1 = .ok (.getfield 40, 3) := by decide +kernel
theorem d_S_pages_4 : decode prog_2_method_10_code 4 = .ok (.ireturn, 1) := by decide +kernel
theorem d_S_ownedBy_0 : decode prog_2_method_20_code 0 = .ok (.iconst 0, 1) := by decide +kernel
theorem d_S_ownedBy_1 : decode prog_2_method_20_code 1 = .ok (.istore_n 2, 1) := by decide +kernel
theorem d_S_ownedBy_2 : decode prog_2_method_20_code 2 = .ok (.iconst 0, 1) := by decide +kernel
theorem d_S_ownedBy_3 : decode prog_2_method_20_code 3 = .ok (.istore_n 3, 1) := by decide +kernel
theorem d_S_ownedBy_4 : decode prog_2_method_20_code 4 = .ok (.iload_n 3, 1) := by decide +kernel
theorem d_S_ownedBy_5 : decode prog_2_method_20_code 5 = .ok (.sipush 192, 3) := by decide +kernel
theorem d_S_ownedBy_8 : decode prog_2_method_20_code 8 = .ok (.if_icmp .ge 22, 3) := by decide +kernel
theorem d_S_ownedBy_11 : decode prog_2_method_20_code 11 = .ok (.aload_n 0, 1) := by decide +kernel
theorem d_S_ownedBy_12 : decode prog_2_method_20_code 12 = .ok (.getfield 15, 3) := by decide +kernel
theorem d_S_ownedBy_15 : decode prog_2_method_20_code 15 = .ok (.iload_n 3, 1) := by decide +kernel
theorem d_S_ownedBy_16 : decode prog_2_method_20_code 16 = .ok (.iaload, 1) := by decide +kernel
theorem d_S_ownedBy_17 : decode prog_2_method_20_code 17 = .ok (.iload_n 1, 1) := by decide +kernel
theorem d_S_ownedBy_18 : decode prog_2_method_20_code 18 = .ok (.if_icmp .ne 6, 3) := by decide +kernel
theorem d_S_ownedBy_21 : decode prog_2_method_20_code 21 = .ok (.iinc 2 1, 3) := by decide +kernel
theorem d_S_ownedBy_24 : decode prog_2_method_20_code 24 = .ok (.iinc 3 1, 3) := by decide +kernel
theorem d_S_ownedBy_27 : decode prog_2_method_20_code 27 = .ok (.goto (-23), 3) := by decide +kernel
theorem d_S_ownedBy_30 : decode prog_2_method_20_code 30 = .ok (.iload_n 2, 1) := by decide +kernel
theorem d_S_ownedBy_31 : decode prog_2_method_20_code 31 = .ok (.ireturn, 1) := by decide +kernel
theorem d_S_countListings_0 : decode prog_2_method_22_code 0 = .ok (.aload_n 0, 1) := by decide +kernel
theorem d_S_countListings_1 : decode prog_2_method_22_code 1 = .ok (.getfield 27, 3) := by decide +kernel
theorem d_S_countListings_4 : decode prog_2_method_22_code 4 = .ok (.iconst 0, 1) := by decide +kernel
theorem d_S_countListings_5 : decode prog_2_method_22_code 5 = .ok (.invokestatic 30, 3) := by decide +kernel
theorem d_S_countListings_8 : decode prog_2_method_22_code 8 = .ok (.iconst 0, 1) := by decide +kernel
theorem d_S_countListings_9 : decode prog_2_method_22_code 9 = .ok (.istore_n 1, 1) := by decide +kernel
theorem d_S_countListings_10 : decode prog_2_method_22_code 10 = .ok (.iload_n 1, 1) := by decide +kernel
theorem d_S_countListings_11 : decode prog_2_method_22_code 11 = .ok (.aload_n 0, 1) := by decide +kernel
theorem d_S_countListings_12 : decode prog_2_method_22_code 12 = .ok (.getfield 40, 3) := by decide +kernel
theorem d_S_countListings_15 : decode prog_2_method_22_code 15 = .ok (.if_icmp .ge 24, 3) := by decide +kernel
theorem d_S_countListings_18 : decode prog_2_method_22_code 18 = .ok (.aload_n 0, 1) := by decide +kernel
theorem d_S_countListings_19 : decode prog_2_method_22_code 19 = .ok (.getfield 27, 3) := by decide +kernel
theorem d_S_countListings_22 : decode prog_2_method_22_code 22 = .ok (.aload_n 0, 1) := by decide +kernel
theorem d_S_countListings_23 : decode prog_2_method_22_code 23 = .ok (.getfield 24, 3) := by decide +kernel
theorem d_S_countListings_26 : decode prog_2_method_22_code 26 = .ok (.iload_n 1, 1) := by decide +kernel
theorem d_S_countListings_27 : decode prog_2_method_22_code 27 = .ok (.iaload, 1) := by decide +kernel
theorem d_S_countListings_28 : decode prog_2_method_22_code 28 = .ok (.dup2, 1) := by decide +kernel
theorem d_S_countListings_29 : decode prog_2_method_22_code 29 = .ok (.iaload, 1) := by decide +kernel
theorem d_S_countListings_30 : decode prog_2_method_22_code 30 = .ok (.iconst 1, 1) := by decide +kernel
theorem d_S_countListings_31 : decode prog_2_method_22_code 31 = .ok (.iadd, 1) := by decide +kernel
theorem d_S_countListings_32 : decode prog_2_method_22_code 32 = .ok (.iastore, 1) := by decide +kernel
theorem d_S_countListings_33 : decode prog_2_method_22_code 33 = .ok (.iinc 1 1, 3) := by decide +kernel
theorem d_S_countListings_36 : decode prog_2_method_22_code 36 = .ok (.goto (-26), 3) := by decide +kernel
theorem d_S_countListings_39 : decode prog_2_method_22_code 39 = .ok (.return_, 1) := by decide +kernel
theorem d_S_isListedWrongly_0 : decode prog_2_method_23_code 0 = .ok (.aload_n 0, 1) := by decide +kernel
theorem d_S_isListedWrongly_1 : decode prog_2_method_23_code 1 = .ok (.getfield 27, 3) := by decide +kernel
theorem d_S_isListedWrongly_4 : decode prog_2_method_23_code 4 = .ok (.iload_n 1, 1) := by decide +kernel
theorem d_S_isListedWrongly_5 : decode prog_2_method_23_code 5 = .ok (.iaload, 1) := by decide +kernel
theorem d_S_isListedWrongly_6 : decode prog_2_method_23_code 6 = .ok (.aload_n 0, 1) := by decide +kernel
theorem d_S_isListedWrongly_7 : decode prog_2_method_23_code 7 = .ok (.iload_n 1, 1) := by decide +kernel
theorem d_S_isListedWrongly_8 : decode prog_2_method_23_code 8 = .ok (.invokevirtual 36, 3) := by decide +kernel
theorem d_S_isListedWrongly_11 : decode prog_2_method_23_code 11 = .ok (.ifCond .eq 7, 3) := by decide +kernel
theorem d_S_isListedWrongly_14 : decode prog_2_method_23_code 14 = .ok (.iconst 1, 1) := by decide +kernel
theorem d_S_isListedWrongly_15 : decode prog_2_method_23_code 15 = .ok (.goto 4, 3) := by decide +kernel
theorem d_S_isListedWrongly_18 : decode prog_2_method_23_code 18 = .ok (.iconst 0, 1) := by decide +kernel
theorem d_S_isListedWrongly_19 : decode prog_2_method_23_code 19 = .ok (.if_icmp .eq 7, 3) := by decide +kernel
theorem d_S_isListedWrongly_22 : decode prog_2_method_23_code 22 = .ok (.iconst 1, 1) := by decide +kernel
theorem d_S_isListedWrongly_23 : decode prog_2_method_23_code 23 = .ok (.goto 4, 3) := by decide +kernel
theorem d_S_isListedWrongly_26 : decode prog_2_method_23_code 26 = .ok (.iconst 0, 1) := by decide +kernel
theorem d_S_isListedWrongly_27 : decode prog_2_method_23_code 27 = .ok (.ireturn, 1) := by decide +kernel
theorem d_S_leastFree_0 : decode prog_2_method_13_code 0 = .ok (.iconst 0, 1) := by decide +kernel
theorem d_S_leastFree_1 : decode prog_2_method_13_code 1 = .ok (.istore_n 2, 1) := by decide +kernel
theorem d_S_leastFree_2 : decode prog_2_method_13_code 2 = .ok (.iconst 0, 1) := by decide +kernel
theorem d_S_leastFree_3 : decode prog_2_method_13_code 3 = .ok (.istore_n 3, 1) := by decide +kernel
theorem d_S_leastFree_4 : decode prog_2_method_13_code 4 = .ok (.iload_n 3, 1) := by decide +kernel
theorem d_S_leastFree_5 : decode prog_2_method_13_code 5 = .ok (.sipush 192, 3) := by decide +kernel
theorem d_S_leastFree_8 : decode prog_2_method_13_code 8 = .ok (.if_icmp .ge 36, 3) := by decide +kernel
theorem d_S_leastFree_11 : decode prog_2_method_13_code 11 = .ok (.aload_n 0, 1) := by decide +kernel
theorem d_S_leastFree_12 : decode prog_2_method_13_code 12 = .ok (.iload_n 3, 1) := by decide +kernel
theorem d_S_leastFree_13 : decode prog_2_method_13_code 13 = .ok (.invokevirtual 44, 3) := by decide +kernel
theorem d_S_leastFree_16 : decode prog_2_method_13_code 16 = .ok (.ifCond .eq 9, 3) := by decide +kernel
theorem d_S_leastFree_19 : decode prog_2_method_13_code 19 = .ok (.iload_n 2, 1) := by decide +kernel
theorem d_S_leastFree_20 : decode prog_2_method_13_code 20 = .ok (.iconst 1, 1) := by decide +kernel
theorem d_S_leastFree_21 : decode prog_2_method_13_code 21 = .ok (.iadd, 1) := by decide +kernel
theorem d_S_leastFree_22 : decode prog_2_method_13_code 22 = .ok (.goto 4, 3) := by decide +kernel
theorem d_S_leastFree_25 : decode prog_2_method_13_code 25 = .ok (.iconst 0, 1) := by decide +kernel
theorem d_S_leastFree_26 : decode prog_2_method_13_code 26 = .ok (.istore_n 2, 1) := by decide +kernel
theorem d_S_leastFree_27 : decode prog_2_method_13_code 27 = .ok (.iload_n 2, 1) := by decide +kernel
theorem d_S_leastFree_28 : decode prog_2_method_13_code 28 = .ok (.iload_n 1, 1) := by decide +kernel
theorem d_S_leastFree_29 : decode prog_2_method_13_code 29 = .ok (.if_icmp .ne 9, 3) := by decide +kernel
theorem d_S_leastFree_32 : decode prog_2_method_13_code 32 = .ok (.iload_n 3, 1) := by decide +kernel
theorem d_S_leastFree_33 : decode prog_2_method_13_code 33 = .ok (.iload_n 1, 1) := by decide +kernel
theorem d_S_leastFree_34 : decode prog_2_method_13_code 34 = .ok (.isub, 1) := by decide +kernel
theorem d_S_leastFree_35 : decode prog_2_method_13_code 35 = .ok (.iconst 1, 1) := by decide +kernel
theorem d_S_leastFree_36 : decode prog_2_method_13_code 36 = .ok (.iadd, 1) := by decide +kernel
theorem d_S_leastFree_37 : decode prog_2_method_13_code 37 = .ok (.ireturn, 1) := by decide +kernel
theorem d_S_leastFree_38 : decode prog_2_method_13_code 38 = .ok (.iinc 3 1, 3) := by decide +kernel
theorem d_S_leastFree_41 : decode prog_2_method_13_code 41 = .ok (.goto (-37), 3) := by decide +kernel
theorem d_S_leastFree_44 : decode prog_2_method_13_code 44 = .ok (.iconst (-1), 1) := by decide +kernel
theorem d_S_leastFree_45 : decode prog_2_method_13_code 45 = .ok (.ireturn, 1) := by decide +kernel
theorem d_S_fill_0 : decode prog_2_method_14_code 0 = .ok (.aload_n 0, 1) := by decide +kernel
theorem d_S_fill_1 : decode prog_2_method_14_code 1 = .ok (.dup, 1) := by decide +kernel
theorem d_S_fill_2 : decode prog_2_method_14_code 2 = .ok (.getfield 51, 3) := by decide +kernel
theorem d_S_fill_5 : decode prog_2_method_14_code 5 = .ok (.iconst 1, 1) := by decide +kernel
theorem d_S_fill_6 : decode prog_2_method_14_code 6 = .ok (.iadd, 1) := by decide +kernel
theorem d_S_fill_7 : decode prog_2_method_14_code 7 = .ok (.putfield 51, 3) := by decide +kernel
theorem d_S_fill_10 : decode prog_2_method_14_code 10 = .ok (.iload_n 1, 1) := by decide +kernel
theorem d_S_fill_11 : decode prog_2_method_14_code 11 = .ok (.istore 4, 2) := by decide +kernel
theorem d_S_fill_13 : decode prog_2_method_14_code 13 = .ok (.iload 4, 2) := by decide +kernel
theorem d_S_fill_15 : decode prog_2_method_14_code 15 = .ok (.iload_n 1, 1) := by decide +kernel
theorem d_S_fill_16 : decode prog_2_method_14_code 16 = .ok (.iload_n 2, 1) := by decide +kernel
theorem d_S_fill_17 : decode prog_2_method_14_code 17 = .ok (.iadd, 1) := by decide +kernel
theorem d_S_fill_18 : decode prog_2_method_14_code 18 = .ok (.if_icmp .ge 44, 3) := by decide +kernel
theorem d_S_fill_21 : decode prog_2_method_14_code 21 = .ok (.aload_n 0, 1) := by decide +kernel
theorem d_S_fill_22 : decode prog_2_method_14_code 22 = .ok (.getfield 9, 3) := by decide +kernel
theorem d_S_fill_25 : decode prog_2_method_14_code 25 = .ok (.iload 4, 2) := by decide +kernel
theorem d_S_fill_27 : decode prog_2_method_14_code 27 = .ok (.dup2, 1) := by decide +kernel
theorem d_S_fill_28 : decode prog_2_method_14_code 28 = .ok (.iaload, 1) := by decide +kernel
theorem d_S_fill_29 : decode prog_2_method_14_code 29 = .ok (.iconst 1, 1) := by decide +kernel
theorem d_S_fill_30 : decode prog_2_method_14_code 30 = .ok (.iadd, 1) := by decide +kernel
theorem d_S_fill_31 : decode prog_2_method_14_code 31 = .ok (.iastore, 1) := by decide +kernel
theorem d_S_fill_32 : decode prog_2_method_14_code 32 = .ok (.aload_n 0, 1) := by decide +kernel
theorem d_S_fill_33 : decode prog_2_method_14_code 33 = .ok (.getfield 18, 3) := by decide +kernel
theorem d_S_fill_36 : decode prog_2_method_14_code 36 = .ok (.iload 4, 2) := by decide +kernel
theorem d_S_fill_38 : decode prog_2_method_14_code 38 = .ok (.aload_n 0, 1) := by decide +kernel
theorem d_S_fill_39 : decode prog_2_method_14_code 39 = .ok (.getfield 51, 3) := by decide +kernel
theorem d_S_fill_42 : decode prog_2_method_14_code 42 = .ok (.iastore, 1) := by decide +kernel
theorem d_S_fill_43 : decode prog_2_method_14_code 43 = .ok (.aload_n 0, 1) := by decide +kernel
theorem d_S_fill_44 : decode prog_2_method_14_code 44 = .ok (.iload 4, 2) := by decide +kernel
theorem d_S_fill_46 : decode prog_2_method_14_code 46 = .ok (.invokevirtual 54, 3) := by decide +kernel
theorem d_S_fill_49 : decode prog_2_method_14_code 49 = .ok (.aload_n 0, 1) := by decide +kernel
theorem d_S_fill_50 : decode prog_2_method_14_code 50 = .ok (.iload 4, 2) := by decide +kernel
theorem d_S_fill_52 : decode prog_2_method_14_code 52 = .ok (.iload_n 3, 1) := by decide +kernel
theorem d_S_fill_53 : decode prog_2_method_14_code 53 = .ok (.invokevirtual 58, 3) := by decide +kernel
theorem d_S_fill_56 : decode prog_2_method_14_code 56 = .ok (.iinc 4 1, 3) := by decide +kernel
theorem d_S_fill_59 : decode prog_2_method_14_code 59 = .ok (.goto (-46), 3) := by decide +kernel
theorem d_S_fill_62 : decode prog_2_method_14_code 62 = .ok (.return_, 1) := by decide +kernel
theorem d_S_clearWords_0 : decode prog_2_method_15_code 0 = .ok (.iconst 0, 1) := by decide +kernel
theorem d_S_clearWords_1 : decode prog_2_method_15_code 1 = .ok (.istore_n 2, 1) := by decide +kernel
theorem d_S_clearWords_2 : decode prog_2_method_15_code 2 = .ok (.iload_n 2, 1) := by decide +kernel
theorem d_S_clearWords_3 : decode prog_2_method_15_code 3 = .ok (.iconst 4, 1) := by decide +kernel
theorem d_S_clearWords_4 : decode prog_2_method_15_code 4 = .ok (.if_icmp .ge 20, 3) := by decide +kernel
theorem d_S_clearWords_7 : decode prog_2_method_15_code 7 = .ok (.aload_n 0, 1) := by decide +kernel
theorem d_S_clearWords_8 : decode prog_2_method_15_code 8 = .ok (.getfield 21, 3) := by decide +kernel
theorem d_S_clearWords_11 : decode prog_2_method_15_code 11 = .ok (.iload_n 1, 1) := by decide +kernel
theorem d_S_clearWords_12 : decode prog_2_method_15_code 12 = .ok (.iconst 4, 1) := by decide +kernel
theorem d_S_clearWords_13 : decode prog_2_method_15_code 13 = .ok (.imul, 1) := by decide +kernel
theorem d_S_clearWords_14 : decode prog_2_method_15_code 14 = .ok (.iload_n 2, 1) := by decide +kernel
theorem d_S_clearWords_15 : decode prog_2_method_15_code 15 = .ok (.iadd, 1) := by decide +kernel
theorem d_S_clearWords_16 : decode prog_2_method_15_code 16 = .ok (.iconst 0, 1) := by decide +kernel
theorem d_S_clearWords_17 : decode prog_2_method_15_code 17 = .ok (.iastore, 1) := by decide +kernel
theorem d_S_clearWords_18 : decode prog_2_method_15_code 18 = .ok (.iinc 2 1, 3) := by decide +kernel
theorem d_S_clearWords_21 : decode prog_2_method_15_code 21 = .ok (.goto (-19), 3) := by decide +kernel
theorem d_S_clearWords_24 : decode prog_2_method_15_code 24 = .ok (.return_, 1) := by decide +kernel
theorem d_S_give_0 : decode prog_2_method_16_code 0 = .ok (.aload_n 0, 1) := by decide +kernel
theorem d_S_give_1 : decode prog_2_method_16_code 1 = .ok (.getfield 15, 3) := by decide +kernel
theorem d_S_give_4 : decode prog_2_method_16_code 4 = .ok (.iload_n 1, 1) := by decide +kernel
theorem d_S_give_5 : decode prog_2_method_16_code 5 = .ok (.iload_n 2, 1) := by decide +kernel
theorem d_S_give_6 : decode prog_2_method_16_code 6 = .ok (.iastore, 1) := by decide +kernel
theorem d_S_give_7 : decode prog_2_method_16_code 7 = .ok (.aload_n 0, 1) := by decide +kernel
theorem d_S_give_8 : decode prog_2_method_16_code 8 = .ok (.getfield 24, 3) := by decide +kernel
theorem d_S_give_11 : decode prog_2_method_16_code 11 = .ok (.aload_n 0, 1) := by decide +kernel
theorem d_S_give_12 : decode prog_2_method_16_code 12 = .ok (.getfield 40, 3) := by decide +kernel
theorem d_S_give_15 : decode prog_2_method_16_code 15 = .ok (.iload_n 1, 1) := by decide +kernel
theorem d_S_give_16 : decode prog_2_method_16_code 16 = .ok (.iastore, 1) := by decide +kernel
theorem d_S_give_17 : decode prog_2_method_16_code 17 = .ok (.aload_n 0, 1) := by decide +kernel
theorem d_S_give_18 : decode prog_2_method_16_code 18 = .ok (.dup, 1) := by decide +kernel
theorem d_S_give_19 : decode prog_2_method_16_code 19 = .ok (.getfield 40, 3) := by decide +kernel
theorem d_S_give_22 : decode prog_2_method_16_code 22 = .ok (.iconst 1, 1) := by decide +kernel
theorem d_S_give_23 : decode prog_2_method_16_code 23 = .ok (.iadd, 1) := by decide +kernel
theorem d_S_give_24 : decode prog_2_method_16_code 24 = .ok (.putfield 40, 3) := by decide +kernel
theorem d_S_give_27 : decode prog_2_method_16_code 27 = .ok (.return_, 1) := by decide +kernel
theorem d_S_strongKey_0 : decode prog_2_method_7_code 0 = .ok (.sipush 1024, 3) := by decide +kernel
theorem d_S_strongKey_3 : decode prog_2_method_7_code 3 = .ok (.aload_n 0, 1) := by decide +kernel
theorem d_S_strongKey_4 : decode prog_2_method_7_code 4 = .ok (.getfield 9, 3) := by decide +kernel
theorem d_S_strongKey_7 : decode prog_2_method_7_code 7 = .ok (.iload_n 1, 1) := by decide +kernel
theorem d_S_strongKey_8 : decode prog_2_method_7_code 8 = .ok (.iaload, 1) := by decide +kernel
theorem d_S_strongKey_9 : decode prog_2_method_7_code 9 = .ok (.imul, 1) := by decide +kernel
theorem d_S_strongKey_10 : decode prog_2_method_7_code 10 = .ok (.iconst 2, 1) := by decide +kernel
theorem d_S_strongKey_11 : decode prog_2_method_7_code 11 = .ok (.iload_n 1, 1) := by decide +kernel
theorem d_S_strongKey_12 : decode prog_2_method_7_code 12 = .ok (.imul, 1) := by decide +kernel
theorem d_S_strongKey_13 : decode prog_2_method_7_code 13 = .ok (.iadd, 1) := by decide +kernel
theorem d_S_strongKey_14 : decode prog_2_method_7_code 14 = .ok (.ireturn, 1) := by decide +kernel
theorem d_S_isSameRun_0 : decode prog_2_method_5_code 0 = .ok (.iload_n 2, 1) := by decide +kernel
theorem d_S_isSameRun_1 : decode prog_2_method_5_code 1 = .ok (.sipush 192, 3) := by decide +kernel
theorem d_S_isSameRun_4 : decode prog_2_method_5_code 4 = .ok (.if_icmp .ge 30, 3) := by decide +kernel
theorem d_S_isSameRun_7 : decode prog_2_method_5_code 7 = .ok (.aload_n 0, 1) := by decide +kernel
theorem d_S_isSameRun_8 : decode prog_2_method_5_code 8 = .ok (.iload_n 2, 1) := by decide +kernel
theorem d_S_isSameRun_9 : decode prog_2_method_5_code 9 = .ok (.invokevirtual 36, 3) := by decide +kernel
theorem d_S_isSameRun_12 : decode prog_2_method_5_code 12 = .ok (.ifCond .eq 22, 3) := by decide +kernel
theorem d_S_isSameRun_15 : decode prog_2_method_5_code 15 = .ok (.aload_n 0, 1) := by decide +kernel
theorem d_S_isSameRun_16 : decode prog_2_method_5_code 16 = .ok (.getfield 18, 3) := by decide +kernel
theorem d_S_isSameRun_19 : decode prog_2_method_5_code 19 = .ok (.iload_n 2, 1) := by decide +kernel
theorem d_S_isSameRun_20 : decode prog_2_method_5_code 20 = .ok (.iaload, 1) := by decide +kernel
theorem d_S_isSameRun_21 : decode prog_2_method_5_code 21 = .ok (.aload_n 0, 1) := by decide +kernel
theorem d_S_isSameRun_22 : decode prog_2_method_5_code 22 = .ok (.getfield 18, 3) := by decide +kernel
theorem d_S_isSameRun_25 : decode prog_2_method_5_code 25 = .ok (.iload_n 1, 1) := by decide +kernel
theorem d_S_isSameRun_26 : decode prog_2_method_5_code 26 = .ok (.iaload, 1) := by decide +kernel
theorem d_S_isSameRun_27 : decode prog_2_method_5_code 27 = .ok (.if_icmp .ne 7, 3) := by decide +kernel
theorem d_S_isSameRun_30 : decode prog_2_method_5_code 30 = .ok (.iconst 1, 1) := by decide +kernel
theorem d_S_isSameRun_31 : decode prog_2_method_5_code 31 = .ok (.goto 4, 3) := by decide +kernel
theorem d_S_isSameRun_34 : decode prog_2_method_5_code 34 = .ok (.iconst 0, 1) := by decide +kernel
theorem d_S_isSameRun_35 : decode prog_2_method_5_code 35 = .ok (.ireturn, 1) := by decide +kernel
theorem d_S_vacate_0 : decode prog_2_method_17_code 0 = .ok (.aload_n 0, 1) := by decide +kernel
theorem d_S_vacate_1 : decode prog_2_method_17_code 1 = .ok (.getfield 15, 3) := by decide +kernel
theorem d_S_vacate_4 : decode prog_2_method_17_code 4 = .ok (.iload_n 1, 1) := by decide +kernel
theorem d_S_vacate_5 : decode prog_2_method_17_code 5 = .ok (.iconst (-1), 1) := by decide +kernel
theorem d_S_vacate_6 : decode prog_2_method_17_code 6 = .ok (.iastore, 1) := by decide +kernel
theorem d_S_vacate_7 : decode prog_2_method_17_code 7 = .ok (.return_, 1) := by decide +kernel
theorem d_S_closeGaps_0 : decode prog_2_method_18_code 0 = .ok (.iconst 0, 1) := by decide +kernel
theorem d_S_closeGaps_1 : decode prog_2_method_18_code 1 = .ok (.istore_n 1, 1) := by decide +kernel
theorem d_S_closeGaps_2 : decode prog_2_method_18_code 2 = .ok (.iconst 0, 1) := by decide +kernel
theorem d_S_closeGaps_3 : decode prog_2_method_18_code 3 = .ok (.istore_n 2, 1) := by decide +kernel
theorem d_S_closeGaps_4 : decode prog_2_method_18_code 4 = .ok (.iload_n 2, 1) := by decide +kernel
theorem d_S_closeGaps_5 : decode prog_2_method_18_code 5 = .ok (.aload_n 0, 1) := by decide +kernel
theorem d_S_closeGaps_6 : decode prog_2_method_18_code 6 = .ok (.getfield 40, 3) := by decide +kernel
theorem d_S_closeGaps_9 : decode prog_2_method_18_code 9 = .ok (.if_icmp .ge 37, 3) := by decide +kernel
theorem d_S_closeGaps_12 : decode prog_2_method_18_code 12 = .ok (.aload_n 0, 1) := by decide +kernel
theorem d_S_closeGaps_13 : decode prog_2_method_18_code 13 = .ok (.aload_n 0, 1) := by decide +kernel
theorem d_S_closeGaps_14 : decode prog_2_method_18_code 14 = .ok (.getfield 24, 3) := by decide +kernel
theorem d_S_closeGaps_17 : decode prog_2_method_18_code 17 = .ok (.iload_n 2, 1) := by decide +kernel
theorem d_S_closeGaps_18 : decode prog_2_method_18_code 18 = .ok (.iaload, 1) := by decide +kernel
theorem d_S_closeGaps_19 : decode prog_2_method_18_code 19 = .ok (.invokevirtual 36, 3) := by decide +kernel
theorem d_S_closeGaps_22 : decode prog_2_method_18_code 22 = .ok (.ifCond .eq 18, 3) := by decide +kernel
theorem d_S_closeGaps_25 : decode prog_2_method_18_code 25 = .ok (.aload_n 0, 1) := by decide +kernel
theorem d_S_closeGaps_26 : decode prog_2_method_18_code 26 = .ok (.getfield 24, 3) := by decide +kernel
theorem d_S_closeGaps_29 : decode prog_2_method_18_code 29 = .ok (.iload_n 1, 1) := by decide +kernel
theorem d_S_closeGaps_30 : decode prog_2_method_18_code 30 = .ok (.aload_n 0, 1) := by decide +kernel
theorem d_S_closeGaps_31 : decode prog_2_method_18_code 31 = .ok (.getfield 24, 3) := by decide +kernel
theorem d_S_closeGaps_34 : decode prog_2_method_18_code 34 = .ok (.iload_n 2, 1) := by decide +kernel
theorem d_S_closeGaps_35 : decode prog_2_method_18_code 35 = .ok (.iaload, 1) := by decide +kernel
theorem d_S_closeGaps_36 : decode prog_2_method_18_code 36 = .ok (.iastore, 1) := by decide +kernel
theorem d_S_closeGaps_37 : decode prog_2_method_18_code 37 = .ok (.iinc 1 1, 3) := by decide +kernel
theorem d_S_closeGaps_40 : decode prog_2_method_18_code 40 = .ok (.iinc 2 1, 3) := by decide +kernel
theorem d_S_closeGaps_43 : decode prog_2_method_18_code 43 = .ok (.goto (-39), 3) := by decide +kernel
theorem d_S_closeGaps_46 : decode prog_2_method_18_code 46 = .ok (.aload_n 0, 1) := by decide +kernel
theorem d_S_closeGaps_47 : decode prog_2_method_18_code 47 = .ok (.iload_n 1, 1) := by decide +kernel
theorem d_S_closeGaps_48 : decode prog_2_method_18_code 48 = .ok (.putfield 40, 3) := by decide +kernel
theorem d_S_closeGaps_51 : decode prog_2_method_18_code 51 = .ok (.return_, 1) := by decide +kernel
theorem d_S_wordAt_0 : decode prog_2_method_8_code 0 = .ok (.aload_n 0, 1) := by decide +kernel
theorem d_S_wordAt_1 : decode prog_2_method_8_code 1 = .ok (.getfield 21, 3) := by decide +kernel
theorem d_S_wordAt_4 : decode prog_2_method_8_code 4 = .ok (.iload_n 1, 1) := by decide +kernel
theorem d_S_wordAt_5 : decode prog_2_method_8_code 5 = .ok (.iconst 4, 1) := by decide +kernel
theorem d_S_wordAt_6 : decode prog_2_method_8_code 6 = .ok (.imul, 1) := by decide +kernel
theorem d_S_wordAt_7 : decode prog_2_method_8_code 7 = .ok (.iload_n 2, 1) := by decide +kernel
theorem d_S_wordAt_8 : decode prog_2_method_8_code 8 = .ok (.iadd, 1) := by decide +kernel
theorem d_S_wordAt_9 : decode prog_2_method_8_code 9 = .ok (.iaload, 1) := by decide +kernel
theorem d_S_wordAt_10 : decode prog_2_method_8_code 10 = .ok (.ireturn, 1) := by decide +kernel
theorem d_S_replaceWord_0 : decode prog_2_method_9_code 0 = .ok (.aload_n 0, 1) := by decide +kernel
theorem d_S_replaceWord_1 : decode prog_2_method_9_code 1 = .ok (.getfield 21, 3) := by decide +kernel
theorem d_S_replaceWord_4 : decode prog_2_method_9_code 4 = .ok (.iload_n 1, 1) := by decide +kernel
theorem d_S_replaceWord_5 : decode prog_2_method_9_code 5 = .ok (.iconst 4, 1) := by decide +kernel
theorem d_S_replaceWord_6 : decode prog_2_method_9_code 6 = .ok (.imul, 1) := by decide +kernel
theorem d_S_replaceWord_7 : decode prog_2_method_9_code 7 = .ok (.iload_n 2, 1) := by decide +kernel
theorem d_S_replaceWord_8 : decode prog_2_method_9_code 8 = .ok (.iadd, 1) := by decide +kernel
theorem d_S_replaceWord_9 : decode prog_2_method_9_code 9 = .ok (.iaload, 1) := by decide +kernel
theorem d_S_replaceWord_10 : decode prog_2_method_9_code 10 = .ok (.istore 4, 2) := by decide +kernel
theorem d_S_replaceWord_12 : decode prog_2_method_9_code 12 = .ok (.aload_n 0, 1) := by decide +kernel
theorem d_S_replaceWord_13 : decode prog_2_method_9_code 13 = .ok (.getfield 21, 3) := by decide +kernel
theorem d_S_replaceWord_16 : decode prog_2_method_9_code 16 = .ok (.iload_n 1, 1) := by decide +kernel
theorem d_S_replaceWord_17 : decode prog_2_method_9_code 17 = .ok (.iconst 4, 1) := by decide +kernel
theorem d_S_replaceWord_18 : decode prog_2_method_9_code 18 = .ok (.imul, 1) := by decide +kernel
theorem d_S_replaceWord_19 : decode prog_2_method_9_code 19 = .ok (.iload_n 2, 1) := by decide +kernel
theorem d_S_replaceWord_20 : decode prog_2_method_9_code 20 = .ok (.iadd, 1) := by decide +kernel
theorem d_S_replaceWord_21 : decode prog_2_method_9_code 21 = .ok (.iload_n 3, 1) := by decide +kernel
theorem d_S_replaceWord_22 : decode prog_2_method_9_code 22 = .ok (.iastore, 1) := by decide +kernel
theorem d_S_replaceWord_23 : decode prog_2_method_9_code 23 = .ok (.iload 4, 2) := by decide +kernel
theorem d_S_replaceWord_25 : decode prog_2_method_9_code 25 = .ok (.ireturn, 1) := by decide +kernel
theorem d_S_giveAll_0 : decode prog_2_method_19_code 0 = .ok (.iconst 0, 1) := by decide +kernel
theorem d_S_giveAll_1 : decode prog_2_method_19_code 1 = .ok (.istore_n 3, 1) := by decide +kernel
theorem d_S_giveAll_2 : decode prog_2_method_19_code 2 = .ok (.iconst 0, 1) := by decide +kernel
theorem d_S_giveAll_3 : decode prog_2_method_19_code 3 = .ok (.istore 4, 2) := by decide +kernel
theorem d_S_giveAll_5 : decode prog_2_method_19_code 5 = .ok (.iconst 0, 1) := by decide +kernel
theorem d_S_giveAll_6 : decode prog_2_method_19_code 6 = .ok (.istore 5, 2) := by decide +kernel
theorem d_S_giveAll_8 : decode prog_2_method_19_code 8 = .ok (.iload 5, 2) := by decide +kernel
theorem d_S_giveAll_10 : decode prog_2_method_19_code 10 = .ok (.aload_n 0, 1) := by decide +kernel
theorem d_S_giveAll_11 : decode prog_2_method_19_code 11 = .ok (.getfield 40, 3) := by decide +kernel
theorem d_S_giveAll_14 : decode prog_2_method_19_code 14 = .ok (.if_icmp .ge 63, 3) := by decide +kernel
theorem d_S_giveAll_17 : decode prog_2_method_19_code 17 = .ok (.aload_n 0, 1) := by decide +kernel
theorem d_S_giveAll_18 : decode prog_2_method_19_code 18 = .ok (.getfield 24, 3) := by decide +kernel
theorem d_S_giveAll_21 : decode prog_2_method_19_code 21 = .ok (.iload 5, 2) := by decide +kernel
theorem d_S_giveAll_23 : decode prog_2_method_19_code 23 = .ok (.iaload, 1) := by decide +kernel
theorem d_S_giveAll_24 : decode prog_2_method_19_code 24 = .ok (.istore 6, 2) := by decide +kernel
theorem d_S_giveAll_26 : decode prog_2_method_19_code 26 = .ok (.aload_n 0, 1) := by decide +kernel
theorem d_S_giveAll_27 : decode prog_2_method_19_code 27 = .ok (.getfield 15, 3) := by decide +kernel
theorem d_S_giveAll_30 : decode prog_2_method_19_code 30 = .ok (.iload 6, 2) := by decide +kernel
theorem d_S_giveAll_32 : decode prog_2_method_19_code 32 = .ok (.iaload, 1) := by decide +kernel
theorem d_S_giveAll_33 : decode prog_2_method_19_code 33 = .ok (.iload_n 1, 1) := by decide +kernel
theorem d_S_giveAll_34 : decode prog_2_method_19_code 34 = .ok (.if_icmp .ne 26, 3) := by decide +kernel
theorem d_S_giveAll_37 : decode prog_2_method_19_code 37 = .ok (.aload_n 0, 1) := by decide +kernel
theorem d_S_giveAll_38 : decode prog_2_method_19_code 38 = .ok (.getfield 15, 3) := by decide +kernel
theorem d_S_giveAll_41 : decode prog_2_method_19_code 41 = .ok (.iload 6, 2) := by decide +kernel
theorem d_S_giveAll_43 : decode prog_2_method_19_code 43 = .ok (.iload_n 2, 1) := by decide +kernel
theorem d_S_giveAll_44 : decode prog_2_method_19_code 44 = .ok (.iastore, 1) := by decide +kernel
theorem d_S_giveAll_45 : decode prog_2_method_19_code 45 = .ok (.aload_n 0, 1) := by decide +kernel
theorem d_S_giveAll_46 : decode prog_2_method_19_code 46 = .ok (.getfield 27, 3) := by decide +kernel
theorem d_S_giveAll_49 : decode prog_2_method_19_code 49 = .ok (.iload 4, 2) := by decide +kernel
theorem d_S_giveAll_51 : decode prog_2_method_19_code 51 = .ok (.iload 6, 2) := by decide +kernel
theorem d_S_giveAll_53 : decode prog_2_method_19_code 53 = .ok (.iastore, 1) := by decide +kernel
theorem d_S_giveAll_54 : decode prog_2_method_19_code 54 = .ok (.iinc 4 1, 3) := by decide +kernel
theorem d_S_giveAll_57 : decode prog_2_method_19_code 57 = .ok (.goto 14, 3) := by decide +kernel
theorem d_S_giveAll_60 : decode prog_2_method_19_code 60 = .ok (.aload_n 0, 1) := by decide +kernel
theorem d_S_giveAll_61 : decode prog_2_method_19_code 61 = .ok (.getfield 24, 3) := by decide +kernel
theorem d_S_giveAll_64 : decode prog_2_method_19_code 64 = .ok (.iload_n 3, 1) := by decide +kernel
theorem d_S_giveAll_65 : decode prog_2_method_19_code 65 = .ok (.iload 6, 2) := by decide +kernel
theorem d_S_giveAll_67 : decode prog_2_method_19_code 67 = .ok (.iastore, 1) := by decide +kernel
theorem d_S_giveAll_68 : decode prog_2_method_19_code 68 = .ok (.iinc 3 1, 3) := by decide +kernel
theorem d_S_giveAll_71 : decode prog_2_method_19_code 71 = .ok (.iinc 5 1, 3) := by decide +kernel
theorem d_S_giveAll_74 : decode prog_2_method_19_code 74 = .ok (.goto (-66), 3) := by decide +kernel
theorem d_S_giveAll_77 : decode prog_2_method_19_code 77 = .ok (.aload_n 0, 1) := by decide +kernel
theorem d_S_giveAll_78 : decode prog_2_method_19_code 78 = .ok (.getfield 27, 3) := by decide +kernel
theorem d_S_giveAll_81 : decode prog_2_method_19_code 81 = .ok (.iconst 0, 1) := by decide +kernel
theorem d_S_giveAll_82 : decode prog_2_method_19_code 82 = .ok (.aload_n 0, 1) := by decide +kernel
theorem d_S_giveAll_83 : decode prog_2_method_19_code 83 = .ok (.getfield 24, 3) := by decide +kernel
theorem d_S_giveAll_86 : decode prog_2_method_19_code 86 = .ok (.iload_n 3, 1) := by decide +kernel
theorem d_S_giveAll_87 : decode prog_2_method_19_code 87 = .ok (.iload 4, 2) := by decide +kernel
theorem d_S_giveAll_89 : decode prog_2_method_19_code 89 = .ok (.invokestatic 62, 3) := by decide +kernel
theorem d_S_giveAll_92 : decode prog_2_method_19_code 92 = .ok (.return_, 1) := by decide +kernel
theorem d_S_placeOfOwned_0 : decode prog_2_method_21_code 0 = .ok (.iconst 0, 1) := by decide +kernel
theorem d_S_placeOfOwned_1 : decode prog_2_method_21_code 1 = .ok (.istore_n 3, 1) := by decide +kernel
theorem d_S_placeOfOwned_2 : decode prog_2_method_21_code 2 = .ok (.iconst 0, 1) := by decide +kernel
theorem d_S_placeOfOwned_3 : decode prog_2_method_21_code 3 = .ok (.istore 4, 2) := by decide +kernel
theorem d_S_placeOfOwned_5 : decode prog_2_method_21_code 5 = .ok (.iload 4, 2) := by decide +kernel
theorem d_S_placeOfOwned_7 : decode prog_2_method_21_code 7 = .ok (.aload_n 0, 1) := by decide +kernel
theorem d_S_placeOfOwned_8 : decode prog_2_method_21_code 8 = .ok (.getfield 40, 3) := by decide +kernel
theorem d_S_placeOfOwned_11 : decode prog_2_method_21_code 11 = .ok (.if_icmp .ge 41, 3) := by decide +kernel
theorem d_S_placeOfOwned_14 : decode prog_2_method_21_code 14 = .ok (.aload_n 0, 1) := by decide +kernel
theorem d_S_placeOfOwned_15 : decode prog_2_method_21_code 15 = .ok (.getfield 15, 3) := by decide +kernel
theorem d_S_placeOfOwned_18 : decode prog_2_method_21_code 18 = .ok (.aload_n 0, 1) := by decide +kernel
theorem d_S_placeOfOwned_19 : decode prog_2_method_21_code 19 = .ok (.getfield 24, 3) := by decide +kernel
theorem d_S_placeOfOwned_22 : decode prog_2_method_21_code 22 = .ok (.iload 4, 2) := by decide +kernel
theorem d_S_placeOfOwned_24 : decode prog_2_method_21_code 24 = .ok (.iaload, 1) := by decide +kernel
theorem d_S_placeOfOwned_25 : decode prog_2_method_21_code 25 = .ok (.iaload, 1) := by decide +kernel
theorem d_S_placeOfOwned_26 : decode prog_2_method_21_code 26 = .ok (.iload_n 1, 1) := by decide +kernel
theorem d_S_placeOfOwned_27 : decode prog_2_method_21_code 27 = .ok (.if_icmp .ne 19, 3) := by decide +kernel
theorem d_S_placeOfOwned_30 : decode prog_2_method_21_code 30 = .ok (.iload_n 3, 1) := by decide +kernel
theorem d_S_placeOfOwned_31 : decode prog_2_method_21_code 31 = .ok (.iload_n 2, 1) := by decide +kernel
theorem d_S_placeOfOwned_32 : decode prog_2_method_21_code 32 = .ok (.if_icmp .ne 11, 3) := by decide +kernel
theorem d_S_placeOfOwned_35 : decode prog_2_method_21_code 35 = .ok (.aload_n 0, 1) := by decide +kernel
theorem d_S_placeOfOwned_36 : decode prog_2_method_21_code 36 = .ok (.getfield 24, 3) := by decide +kernel
theorem d_S_placeOfOwned_39 : decode prog_2_method_21_code 39 = .ok (.iload 4, 2) := by decide +kernel
theorem d_S_placeOfOwned_41 : decode prog_2_method_21_code 41 = .ok (.iaload, 1) := by decide +kernel
theorem d_S_placeOfOwned_42 : decode prog_2_method_21_code 42 = .ok (.ireturn, 1) := by decide +kernel
theorem d_S_placeOfOwned_43 : decode prog_2_method_21_code 43 = .ok (.iinc 3 1, 3) := by decide +kernel
theorem d_S_placeOfOwned_46 : decode prog_2_method_21_code 46 = .ok (.iinc 4 1, 3) := by decide +kernel
theorem d_S_placeOfOwned_49 : decode prog_2_method_21_code 49 = .ok (.goto (-44), 3) := by decide +kernel
theorem d_S_placeOfOwned_52 : decode prog_2_method_21_code 52 = .ok (.iconst (-1), 1) := by decide +kernel
theorem d_S_placeOfOwned_53 : decode prog_2_method_21_code 53 = .ok (.ireturn, 1) := by decide +kernel
end
section
theorem d_T_init_0 : decode prog_3_method_1_code 0 = .ok (.aload_n 0, 1) := by decide +kernel
theorem d_T_init_1 : decode prog_3_method_1_code 1 = .ok (.invokespecial 3, 3) := by decide +kernel
theorem d_T_init_4 : decode prog_3_method_1_code 4 = .ok (.aload_n 0, 1) := by decide +kernel
theorem d_T_init_5 : decode prog_3_method_1_code 5 = .ok (.bipush 40, 2) := by decide +kernel
theorem d_T_init_7 : decode prog_3_method_1_code 7 = .ok (.newarray .int, 2) := by decide +kernel
theorem d_T_init_9 : decode prog_3_method_1_code 9 = .ok (.putfield 9, 3) := by decide +kernel
theorem d_T_init_12 : decode prog_3_method_1_code 12 = .ok (.aload_n 0, 1) := by decide +kernel
theorem d_T_init_13 : decode prog_3_method_1_code 13 = .ok (.bipush 40, 2) := by decide +kernel
theorem d_T_init_15 : decode prog_3_method_1_code 15 = .ok (.newarray .int, 2) := by decide +kernel
theorem d_T_init_17 : decode prog_3_method_1_code 17 = .ok (.putfield 15, 3) := by decide +kernel
theorem d_T_init_20 : decode prog_3_method_1_code 20 = .ok (.aload_n 0, 1) := by decide +kernel
theorem d_T_init_21 : decode prog_3_method_1_code 21 = .ok (.bipush 40, 2) := by decide +kernel
theorem d_T_init_23 : decode prog_3_method_1_code 23 = .ok (.newarray .int, 2) := by decide +kernel
theorem d_T_init_25 : decode prog_3_method_1_code 25 = .ok (.putfield 18, 3) := by decide +kernel
theorem d_T_init_28 : decode prog_3_method_1_code 28 = .ok (.aload_n 0, 1) := by decide +kernel
theorem d_T_init_29 : decode prog_3_method_1_code 29 = .ok (.bipush 40, 2) := by decide +kernel
theorem d_T_init_31 : decode prog_3_method_1_code 31 = .ok (.newarray .int, 2) := by decide +kernel
theorem d_T_init_33 : decode prog_3_method_1_code 33 = .ok (.putfield 21, 3) := by decide +kernel
theorem d_T_init_36 : decode prog_3_method_1_code 36 = .ok (.aload_n 0, 1) := by decide +kernel
theorem d_T_init_37 : decode prog_3_method_1_code 37 = .ok (.bipush 40, 2) := by decide +kernel
theorem d_T_init_39 : decode prog_3_method_1_code 39 = .ok (.newarray .int, 2) := by decide +kernel
theorem d_T_init_41 : decode prog_3_method_1_code 41 = .ok (.putfield 24, 3) := by decide +kernel
theorem d_T_init_44 : decode prog_3_method_1_code 44 = .ok (.aload_n 0, 1) := by decide +kernel
theorem d_T_init_45 : decode prog_3_method_1_code 45 = .ok (.getfield 9, 3) := by decide +kernel
theorem d_T_init_48 : decode prog_3_method_1_code 48 = .ok (.iconst 3, 1) := by decide +kernel
theorem d_T_init_49 : decode prog_3_method_1_code 49 = .ok (.invokestatic 27, 3) := by decide +kernel
theorem d_T_init_52 : decode prog_3_method_1_code 52 = .ok (.aload_n 0, 1) := by decide +kernel
theorem d_T_init_53 : decode prog_3_method_1_code 53 = .ok (.getfield 9, 3) := by decide +kernel
theorem d_T_init_56 : decode prog_3_method_1_code 56 = .ok (.iconst 0, 1) := by decide +kernel
theorem d_T_init_57 : decode prog_3_method_1_code 57 = .ok (.iconst 0, 1) := by decide +kernel
theorem d_T_init_58 : decode prog_3_method_1_code 58 = .ok (.iastore, 1) := by decide +kernel
theorem d_T_init_59 : decode prog_3_method_1_code 59 = .ok (.aload_n 0, 1) := by decide +kernel
theorem d_T_init_60 : decode prog_3_method_1_code 60 = .ok (.getfield 15, 3) := by decide +kernel
theorem d_T_init_63 : decode prog_3_method_1_code 63 = .ok (.iconst 0, 1) := by decide +kernel
theorem d_T_init_64 : decode prog_3_method_1_code 64 = .ok (.iconst (-1), 1) := by decide +kernel
theorem d_T_init_65 : decode prog_3_method_1_code 65 = .ok (.iastore, 1) := by decide +kernel
theorem d_T_init_66 : decode prog_3_method_1_code 66 = .ok (.aload_n 0, 1) := by decide +kernel
theorem d_T_init_67 : decode prog_3_method_1_code 67 = .ok (.getfield 18, 3) := by decide +kernel
theorem d_T_init_70 : decode prog_3_method_1_code 70 = .ok (.iconst 0, 1) := by decide +kernel
theorem d_T_init_71 : decode prog_3_method_1_code 71 = .ok (.sipush 192, 3) := by decide +kernel
theorem d_T_init_74 : decode prog_3_method_1_code 74 = .ok (.iastore, 1) := by decide +kernel
theorem d_T_init_75 : decode prog_3_method_1_code 75 = .ok (.return_, 1) := by decide +kernel
theorem d_T_isDying_0 : decode prog_3_method_3_code 0 = .ok (.aload_n 0, 1) := by decide +kernel
theorem d_T_isDying_1 : decode prog_3_method_3_code 1 = .ok (.getfield 9, 3) := by decide +kernel
theorem d_T_isDying_4 : decode prog_3_method_3_code 4 = .ok (.iload_n 1, 1) := by decide +kernel
theorem d_T_isDying_5 : decode prog_3_method_3_code 5 = .ok (.iaload, 1) := by decide +kernel
theorem d_T_isDying_6 : decode prog_3_method_3_code 6 = .ok (.iconst 2, 1) := by decide +kernel
theorem d_T_isDying_7 : decode prog_3_method_3_code 7 = .ok (.if_icmp .ne 7, 3) := by decide +kernel
theorem d_T_isDying_10 : decode prog_3_method_3_code 10 = .ok (.iconst 1, 1) := by decide +kernel
theorem d_T_isDying_11 : decode prog_3_method_3_code 11 = .ok (.goto 4, 3) := by decide +kernel
theorem d_T_isDying_14 : decode prog_3_method_3_code 14 = .ok (.iconst 0, 1) := by decide +kernel
theorem d_T_isDying_15 : decode prog_3_method_3_code 15 = .ok (.ireturn, 1) := by decide +kernel
theorem d_T_subtreeSize_0 : decode prog_3_method_13_code 0 = .ok (.iconst 0, 1) := by decide +kernel
theorem d_T_subtreeSize_1 : decode prog_3_method_13_code 1 = .ok (.istore_n 2, 1) := by decide +kernel
theorem d_T_subtreeSize_2 : decode prog_3_method_13_code 2 = .ok (.iconst 0, 1) := by decide +kernel
theorem d_T_subtreeSize_3 : decode prog_3_method_13_code 3 = .ok (.istore_n 3, 1) := by decide +kernel
theorem d_T_subtreeSize_4 : decode prog_3_method_13_code 4 = .ok (.iload_n 3, 1) := by decide +kernel
theorem d_T_subtreeSize_5 : decode prog_3_method_13_code 5 = .ok (.bipush 40, 2) := by decide +kernel
theorem d_T_subtreeSize_7 : decode prog_3_method_13_code 7 = .ok (.if_icmp .ge 29, 3) := by decide +kernel
theorem d_T_subtreeSize_10 : decode prog_3_method_13_code 10 = .ok (.aload_n 0, 1) := by decide +kernel
theorem d_T_subtreeSize_11 : decode prog_3_method_13_code 11 = .ok (.iload_n 3, 1) := by decide +kernel
theorem d_T_subtreeSize_12 : decode prog_3_method_13_code 12 = .ok (.invokevirtual 33, 3) := by decide +kernel
theorem d_T_subtreeSize_15 : decode prog_3_method_13_code 15 = .ok (.ifCond .eq 15, 3) := by decide +kernel
theorem d_T_subtreeSize_18 : decode prog_3_method_13_code 18 = .ok (.aload_n 0, 1) := by decide +kernel
theorem d_T_subtreeSize_19 : decode prog_3_method_13_code 19 = .ok (.iload_n 3, 1) := by decide +kernel
theorem d_T_subtreeSize_20 : decode prog_3_method_13_code 20 = .ok (.iload_n 1, 1) := by decide +kernel
theorem d_T_subtreeSize_21 : decode prog_3_method_13_code 21 = .ok (.invokevirtual 37, 3) := by decide +kernel
theorem d_T_subtreeSize_24 : decode prog_3_method_13_code 24 = .ok (.ifCond .eq 6, 3) := by decide +kernel
theorem d_T_subtreeSize_27 : decode prog_3_method_13_code 27 = .ok (.iinc 2 1, 3) := by decide +kernel
theorem d_T_subtreeSize_30 : decode prog_3_method_13_code 30 = .ok (.iinc 3 1, 3) := by decide +kernel
theorem d_T_subtreeSize_33 : decode prog_3_method_13_code 33 = .ok (.goto (-29), 3) := by decide +kernel
theorem d_T_subtreeSize_36 : decode prog_3_method_13_code 36 = .ok (.iload_n 2, 1) := by decide +kernel
theorem d_T_subtreeSize_37 : decode prog_3_method_13_code 37 = .ok (.ireturn, 1) := by decide +kernel
theorem d_T_isBank_0 : decode prog_3_method_2_code 0 = .ok (.iload_n 1, 1) := by decide +kernel
theorem d_T_isBank_1 : decode prog_3_method_2_code 1 = .ok (.ifCond .lt 23, 3) := by decide +kernel
theorem d_T_isBank_4 : decode prog_3_method_2_code 4 = .ok (.iload_n 1, 1) := by decide +kernel
theorem d_T_isBank_5 : decode prog_3_method_2_code 5 = .ok (.bipush 40, 2) := by decide +kernel
theorem d_T_isBank_7 : decode prog_3_method_2_code 7 = .ok (.if_icmp .ge 17, 3) := by decide +kernel
theorem d_T_isBank_10 : decode prog_3_method_2_code 10 = .ok (.aload_n 0, 1) := by decide +kernel
theorem d_T_isBank_11 : decode prog_3_method_2_code 11 = .ok (.getfield 9, 3) := by decide +kernel
theorem d_T_isBank_14 : decode prog_3_method_2_code 14 = .ok (.iload_n 1, 1) := by decide +kernel
theorem d_T_isBank_15 : decode prog_3_method_2_code 15 = .ok (.iaload, 1) := by decide +kernel
theorem d_T_isBank_16 : decode prog_3_method_2_code 16 = .ok (.iconst 3, 1) := by decide +kernel
theorem d_T_isBank_17 : decode prog_3_method_2_code 17 = .ok (.if_icmp .eq 7, 3) := by decide +kernel
theorem d_T_isBank_20 : decode prog_3_method_2_code 20 = .ok (.iconst 1, 1) := by decide +kernel
theorem d_T_isBank_21 : decode prog_3_method_2_code 21 = .ok (.goto 4, 3) := by decide +kernel
theorem d_T_isBank_24 : decode prog_3_method_2_code 24 = .ok (.iconst 0, 1) := by decide +kernel
theorem d_T_isBank_25 : decode prog_3_method_2_code 25 = .ok (.ireturn, 1) := by decide +kernel
theorem d_T_isWithin_0 : decode prog_3_method_12_code 0 = .ok (.iload_n 1, 1) := by decide +kernel
theorem d_T_isWithin_1 : decode prog_3_method_12_code 1 = .ok (.istore_n 3, 1) := by decide +kernel
theorem d_T_isWithin_2 : decode prog_3_method_12_code 2 = .ok (.iconst 0, 1) := by decide +kernel
theorem d_T_isWithin_3 : decode prog_3_method_12_code 3 = .ok (.istore 4, 2) := by decide +kernel
theorem d_T_isWithin_5 : decode prog_3_method_12_code 5 = .ok (.iload 4, 2) := by decide +kernel
theorem d_T_isWithin_7 : decode prog_3_method_12_code 7 = .ok (.bipush 6, 2) := by decide +kernel
theorem d_T_isWithin_9 : decode prog_3_method_12_code 9 = .ok (.if_icmp .gt 28, 3) := by decide +kernel
theorem d_T_isWithin_12 : decode prog_3_method_12_code 12 = .ok (.iload_n 3, 1) := by decide +kernel
theorem d_T_isWithin_13 : decode prog_3_method_12_code 13 = .ok (.iconst (-1), 1) := by decide +kernel
theorem d_T_isWithin_14 : decode prog_3_method_12_code 14 = .ok (.if_icmp .eq 23, 3) := by decide +kernel
theorem d_T_isWithin_17 : decode prog_3_method_12_code 17 = .ok (.iload_n 3, 1) := by decide +kernel
theorem d_T_isWithin_18 : decode prog_3_method_12_code 18 = .ok (.iload_n 2, 1) := by decide +kernel
theorem d_T_isWithin_19 : decode prog_3_method_12_code 19 = .ok (.if_icmp .ne 5, 3) := by decide +kernel
theorem d_T_isWithin_22 : decode prog_3_method_12_code 22 = .ok (.iconst 1, 1) := by decide +kernel
theorem d_T_isWithin_23 : decode prog_3_method_12_code 23 = .ok (.ireturn, 1) := by decide +kernel
theorem d_T_isWithin_24 : decode prog_3_method_12_code 24 = .ok (.aload_n 0, 1) := by decide +kernel
theorem d_T_isWithin_25 : decode prog_3_method_12_code 25 = .ok (.getfield 15, 3) := by decide +kernel
theorem d_T_isWithin_28 : decode prog_3_method_12_code 28 = .ok (.iload_n 3, 1) := by decide +kernel
theorem d_T_isWithin_29 : decode prog_3_method_12_code 29 = .ok (.iaload, 1) := by decide +kernel
theorem d_T_isWithin_30 : decode prog_3_method_12_code 30 = .ok (.istore_n 3, 1) := by decide +kernel
theorem d_T_isWithin_31 : decode prog_3_method_12_code 31 = .ok (.iinc 4 1, 3) := by decide +kernel
theorem d_T_isWithin_34 : decode prog_3_method_12_code 34 = .ok (.goto (-29), 3) := by decide +kernel
theorem d_T_isWithin_37 : decode prog_3_method_12_code 37 = .ok (.iconst 0, 1) := by decide +kernel
theorem d_T_isWithin_38 : decode prog_3_method_12_code 38 = .ok (.ireturn, 1) := by decide +kernel
theorem d_T_isStray_0 : decode prog_3_method_22_code 0 = .ok (.iload_n 2, 1) := by decide +kernel
theorem d_T_isStray_1 : decode prog_3_method_22_code 1 = .ok (.aload_n 0, 1) := by decide +kernel
theorem d_T_isStray_2 : decode prog_3_method_22_code 2 = .ok (.getfield 21, 3) := by decide +kernel
theorem d_T_isStray_5 : decode prog_3_method_22_code 5 = .ok (.iload_n 1, 1) := by decide +kernel
theorem d_T_isStray_6 : decode prog_3_method_22_code 6 = .ok (.iaload, 1) := by decide +kernel
theorem d_T_isStray_7 : decode prog_3_method_22_code 7 = .ok (.iadd, 1) := by decide +kernel
theorem d_T_isStray_8 : decode prog_3_method_22_code 8 = .ok (.istore_n 3, 1) := by decide +kernel
theorem d_T_isStray_9 : decode prog_3_method_22_code 9 = .ok (.iconst 0, 1) := by decide +kernel
theorem d_T_isStray_10 : decode prog_3_method_22_code 10 = .ok (.istore 4, 2) := by decide +kernel
theorem d_T_isStray_12 : decode prog_3_method_22_code 12 = .ok (.iload 4, 2) := by decide +kernel
theorem d_T_isStray_14 : decode prog_3_method_22_code 14 = .ok (.bipush 40, 2) := by decide +kernel
theorem d_T_isStray_16 : decode prog_3_method_22_code 16 = .ok (.if_icmp .ge 39, 3) := by decide +kernel
theorem d_T_isStray_19 : decode prog_3_method_22_code 19 = .ok (.aload_n 0, 1) := by decide +kernel
theorem d_T_isStray_20 : decode prog_3_method_22_code 20 = .ok (.iload 4, 2) := by decide +kernel
theorem d_T_isStray_22 : decode prog_3_method_22_code 22 = .ok (.invokevirtual 33, 3) := by decide +kernel
theorem d_T_isStray_25 : decode prog_3_method_22_code 25 = .ok (.ifCond .eq 24, 3) := by decide +kernel
theorem d_T_isStray_28 : decode prog_3_method_22_code 28 = .ok (.aload_n 0, 1) := by decide +kernel
theorem d_T_isStray_29 : decode prog_3_method_22_code 29 = .ok (.getfield 15, 3) := by decide +kernel
theorem d_T_isStray_32 : decode prog_3_method_22_code 32 = .ok (.iload 4, 2) := by decide +kernel
theorem d_T_isStray_34 : decode prog_3_method_22_code 34 = .ok (.iaload, 1) := by decide +kernel
theorem d_T_isStray_35 : decode prog_3_method_22_code 35 = .ok (.iload_n 1, 1) := by decide +kernel
theorem d_T_isStray_36 : decode prog_3_method_22_code 36 = .ok (.if_icmp .ne 13, 3) := by decide +kernel
theorem d_T_isStray_39 : decode prog_3_method_22_code 39 = .ok (.iload_n 3, 1) := by decide +kernel
theorem d_T_isStray_40 : decode prog_3_method_22_code 40 = .ok (.aload_n 0, 1) := by decide +kernel
theorem d_T_isStray_41 : decode prog_3_method_22_code 41 = .ok (.getfield 24, 3) := by decide +kernel
theorem d_T_isStray_44 : decode prog_3_method_22_code 44 = .ok (.iload 4, 2) := by decide +kernel
theorem d_T_isStray_46 : decode prog_3_method_22_code 46 = .ok (.iaload, 1) := by decide +kernel
theorem d_T_isStray_47 : decode prog_3_method_22_code 47 = .ok (.iadd, 1) := by decide +kernel
theorem d_T_isStray_48 : decode prog_3_method_22_code 48 = .ok (.istore_n 3, 1) := by decide +kernel
theorem d_T_isStray_49 : decode prog_3_method_22_code 49 = .ok (.iinc 4 1, 3) := by decide +kernel
theorem d_T_isStray_52 : decode prog_3_method_22_code 52 = .ok (.goto (-40), 3) := by decide +kernel
theorem d_T_isStray_55 : decode prog_3_method_22_code 55 = .ok (.iload_n 3, 1) := by decide +kernel
theorem d_T_isStray_56 : decode prog_3_method_22_code 56 = .ok (.aload_n 0, 1) := by decide +kernel
theorem d_T_isStray_57 : decode prog_3_method_22_code 57 = .ok (.getfield 24, 3) := by decide +kernel
theorem d_T_isStray_60 : decode prog_3_method_22_code 60 = .ok (.iload_n 1, 1) := by decide +kernel
theorem d_T_isStray_61 : decode prog_3_method_22_code 61 = .ok (.iaload, 1) := by decide +kernel
theorem d_T_isStray_62 : decode prog_3_method_22_code 62 = .ok (.if_icmp .ne 27, 3) := by decide +kernel
theorem d_T_isStray_65 : decode prog_3_method_22_code 65 = .ok (.aload_n 0, 1) := by decide +kernel
theorem d_T_isStray_66 : decode prog_3_method_22_code 66 = .ok (.getfield 24, 3) := by decide +kernel
theorem d_T_isStray_69 : decode prog_3_method_22_code 69 = .ok (.iload_n 1, 1) := by decide +kernel
theorem d_T_isStray_70 : decode prog_3_method_22_code 70 = .ok (.iaload, 1) := by decide +kernel
theorem d_T_isStray_71 : decode prog_3_method_22_code 71 = .ok (.aload_n 0, 1) := by decide +kernel
theorem d_T_isStray_72 : decode prog_3_method_22_code 72 = .ok (.getfield 18, 3) := by decide +kernel
theorem d_T_isStray_75 : decode prog_3_method_22_code 75 = .ok (.iload_n 1, 1) := by decide +kernel
theorem d_T_isStray_76 : decode prog_3_method_22_code 76 = .ok (.iaload, 1) := by decide +kernel
theorem d_T_isStray_77 : decode prog_3_method_22_code 77 = .ok (.if_icmp .gt 12, 3) := by decide +kernel
theorem d_T_isStray_80 : decode prog_3_method_22_code 80 = .ok (.aload_n 0, 1) := by decide +kernel
theorem d_T_isStray_81 : decode prog_3_method_22_code 81 = .ok (.iload_n 1, 1) := by decide +kernel
theorem d_T_isStray_82 : decode prog_3_method_22_code 82 = .ok (.iconst 0, 1) := by decide +kernel
theorem d_T_isStray_83 : decode prog_3_method_22_code 83 = .ok (.invokevirtual 37, 3) := by decide +kernel
theorem d_T_isStray_86 : decode prog_3_method_22_code 86 = .ok (.ifCond .ne 7, 3) := by decide +kernel
theorem d_T_isStray_89 : decode prog_3_method_22_code 89 = .ok (.iconst 1, 1) := by decide +kernel
theorem d_T_isStray_90 : decode prog_3_method_22_code 90 = .ok (.goto 4, 3) := by decide +kernel
theorem d_T_isStray_93 : decode prog_3_method_22_code 93 = .ok (.iconst 0, 1) := by decide +kernel
theorem d_T_isStray_94 : decode prog_3_method_22_code 94 = .ok (.ireturn, 1) := by decide +kernel
theorem d_T_stateOf_0 : decode prog_3_method_4_code 0 = .ok (.aload_n 0, 1) := by decide +kernel
theorem d_T_stateOf_1 : decode prog_3_method_4_code 1 = .ok (.getfield 9, 3) := by decide +kernel
theorem d_T_stateOf_4 : decode prog_3_method_4_code 4 = .ok (.iload_n 1, 1) := by decide +kernel
theorem d_T_stateOf_5 : decode prog_3_method_4_code 5 = .ok (.iaload, 1) := by decide +kernel
theorem d_T_stateOf_6 : decode prog_3_method_4_code 6 = .ok (.ireturn, 1) := by decide +kernel
theorem d_T_leastUnusedNumber_0 : decode prog_3_method_9_code 0 = .ok (.iconst 1, 1) := by decide +kernel
theorem d_T_leastUnusedNumber_1 : decode prog_3_method_9_code 1 = .ok (.istore_n 1, 1) := by decide +kernel
theorem d_T_leastUnusedNumber_2 : decode prog_3_method_9_code 2 = .ok (.iload_n 1, 1) := by decide +kernel
theorem d_T_leastUnusedNumber_3 : decode prog_3_method_9_code 3 = .ok (.bipush 40, 2) := by decide +kernel
theorem d_T_leastUnusedNumber_5 : decode prog_3_method_9_code 5 = .ok (.if_icmp .ge 21, 3) := by decide +kernel
theorem d_T_leastUnusedNumber_8 : decode prog_3_method_9_code 8 = .ok (.aload_n 0, 1) := by decide +kernel
theorem d_T_leastUnusedNumber_9 : decode prog_3_method_9_code 9 = .ok (.getfield 9, 3) := by decide +kernel
theorem d_T_leastUnusedNumber_12 : decode prog_3_method_9_code 12 = .ok (.iload_n 1, 1) := by decide +kernel
theorem d_T_leastUnusedNumber_13 : decode prog_3_method_9_code 13 = .ok (.iaload, 1) := by decide +kernel
theorem d_T_leastUnusedNumber_14 : decode prog_3_method_9_code 14 = .ok (.iconst 3, 1) := by decide +kernel
theorem d_T_leastUnusedNumber_15 : decode prog_3_method_9_code 15 = .ok (.if_icmp .ne 5, 3) := by decide +kernel
theorem d_T_leastUnusedNumber_18 : decode prog_3_method_9_code 18 = .ok (.iload_n 1, 1) := by decide +kernel
theorem d_T_leastUnusedNumber_19 : decode prog_3_method_9_code 19 = .ok (.ireturn, 1) := by decide +kernel
theorem d_T_leastUnusedNumber_20 : decode prog_3_method_9_code 20 = .ok (.iinc 1 1, 3) := by decide +kernel
theorem d_T_leastUnusedNumber_23 : decode prog_3_method_9_code 23 = .ok (.goto (-21), 3) := by decide +kernel
theorem d_T_leastUnusedNumber_26 : decode prog_3_method_9_code 26 = .ok (.iconst (-1), 1) := by decide +kernel
theorem d_T_leastUnusedNumber_27 : decode prog_3_method_9_code 27 = .ok (.ireturn, 1) := by decide +kernel
theorem d_T_depthOf_0 : decode prog_3_method_11_code 0 = .ok (.iconst 0, 1) := by decide +kernel
theorem d_T_depthOf_1 : decode prog_3_method_11_code 1 = .ok (.istore_n 2, 1) := by decide +kernel
theorem d_T_depthOf_2 : decode prog_3_method_11_code 2 = .ok (.aload_n 0, 1) := by decide +kernel
theorem d_T_depthOf_3 : decode prog_3_method_11_code 3 = .ok (.getfield 15, 3) := by decide +kernel
theorem d_T_depthOf_6 : decode prog_3_method_11_code 6 = .ok (.iload_n 1, 1) := by decide +kernel
theorem d_T_depthOf_7 : decode prog_3_method_11_code 7 = .ok (.iaload, 1) := by decide +kernel
theorem d_T_depthOf_8 : decode prog_3_method_11_code 8 = .ok (.istore_n 3, 1) := by decide +kernel
theorem d_T_depthOf_9 : decode prog_3_method_11_code 9 = .ok (.iload_n 3, 1) := by decide +kernel
theorem d_T_depthOf_10 : decode prog_3_method_11_code 10 = .ok (.iconst (-1), 1) := by decide +kernel
theorem d_T_depthOf_11 : decode prog_3_method_11_code 11 = .ok (.if_icmp .eq 22, 3) := by decide +kernel
theorem d_T_depthOf_14 : decode prog_3_method_11_code 14 = .ok (.iload_n 2, 1) := by decide +kernel
theorem d_T_depthOf_15 : decode prog_3_method_11_code 15 = .ok (.bipush 6, 2) := by decide +kernel
theorem d_T_depthOf_17 : decode prog_3_method_11_code 17 = .ok (.if_icmp .gt 16, 3) := by decide +kernel
theorem d_T_depthOf_20 : decode prog_3_method_11_code 20 = .ok (.iinc 2 1, 3) := by decide +kernel
theorem d_T_depthOf_23 : decode prog_3_method_11_code 23 = .ok (.aload_n 0, 1) := by decide +kernel
theorem d_T_depthOf_24 : decode prog_3_method_11_code 24 = .ok (.getfield 15, 3) := by decide +kernel
theorem d_T_depthOf_27 : decode prog_3_method_11_code 27 = .ok (.iload_n 3, 1) := by decide +kernel
theorem d_T_depthOf_28 : decode prog_3_method_11_code 28 = .ok (.iaload, 1) := by decide +kernel
theorem d_T_depthOf_29 : decode prog_3_method_11_code 29 = .ok (.istore_n 3, 1) := by decide +kernel
theorem d_T_depthOf_30 : decode prog_3_method_11_code 30 = .ok (.goto (-21), 3) := by decide +kernel
theorem d_T_depthOf_33 : decode prog_3_method_11_code 33 = .ok (.iload_n 2, 1) := by decide +kernel
theorem d_T_depthOf_34 : decode prog_3_method_11_code 34 = .ok (.ireturn, 1) := by decide +kernel
theorem d_T_open_0 : decode prog_3_method_10_code 0 = .ok (.aload_n 0, 1) := by decide +kernel
theorem d_T_open_1 : decode prog_3_method_10_code 1 = .ok (.getfield 9, 3) := by decide +kernel
theorem d_T_open_4 : decode prog_3_method_10_code 4 = .ok (.iload_n 1, 1) := by decide +kernel
theorem d_T_open_5 : decode prog_3_method_10_code 5 = .ok (.iconst 0, 1) := by decide +kernel
theorem d_T_open_6 : decode prog_3_method_10_code 6 = .ok (.iastore, 1) := by decide +kernel
theorem d_T_open_7 : decode prog_3_method_10_code 7 = .ok (.aload_n 0, 1) := by decide +kernel
theorem d_T_open_8 : decode prog_3_method_10_code 8 = .ok (.getfield 15, 3) := by decide +kernel
theorem d_T_open_11 : decode prog_3_method_10_code 11 = .ok (.iload_n 1, 1) := by decide +kernel
theorem d_T_open_12 : decode prog_3_method_10_code 12 = .ok (.iload_n 2, 1) := by decide +kernel
theorem d_T_open_13 : decode prog_3_method_10_code 13 = .ok (.iastore, 1) := by decide +kernel
theorem d_T_open_14 : decode prog_3_method_10_code 14 = .ok (.aload_n 0, 1) := by decide +kernel
theorem d_T_open_15 : decode prog_3_method_10_code 15 = .ok (.getfield 18, 3) := by decide +kernel
theorem d_T_open_18 : decode prog_3_method_10_code 18 = .ok (.iload_n 1, 1) := by decide +kernel
theorem d_T_open_19 : decode prog_3_method_10_code 19 = .ok (.iload_n 3, 1) := by decide +kernel
theorem d_T_open_20 : decode prog_3_method_10_code 20 = .ok (.iastore, 1) := by decide +kernel
theorem d_T_open_21 : decode prog_3_method_10_code 21 = .ok (.aload_n 0, 1) := by decide +kernel
theorem d_T_open_22 : decode prog_3_method_10_code 22 = .ok (.getfield 21, 3) := by decide +kernel
theorem d_T_open_25 : decode prog_3_method_10_code 25 = .ok (.iload_n 1, 1) := by decide +kernel
theorem d_T_open_26 : decode prog_3_method_10_code 26 = .ok (.iconst 0, 1) := by decide +kernel
theorem d_T_open_27 : decode prog_3_method_10_code 27 = .ok (.iastore, 1) := by decide +kernel
theorem d_T_open_28 : decode prog_3_method_10_code 28 = .ok (.aload_n 0, 1) := by decide +kernel
theorem d_T_open_29 : decode prog_3_method_10_code 29 = .ok (.getfield 24, 3) := by decide +kernel
theorem d_T_open_32 : decode prog_3_method_10_code 32 = .ok (.iload_n 1, 1) := by decide +kernel
theorem d_T_open_33 : decode prog_3_method_10_code 33 = .ok (.iconst 0, 1) := by decide +kernel
theorem d_T_open_34 : decode prog_3_method_10_code 34 = .ok (.iastore, 1) := by decide +kernel
theorem d_T_open_35 : decode prog_3_method_10_code 35 = .ok (.return_, 1) := by decide +kernel
theorem d_T_reservedBy_0 : decode prog_3_method_7_code 0 = .ok (.aload_n 0, 1) := by decide +kernel
theorem d_T_reservedBy_1 : decode prog_3_method_7_code 1 = .ok (.getfield 21, 3) := by decide +kernel
theorem d_T_reservedBy_4 : decode prog_3_method_7_code 4 = .ok (.iload_n 1, 1) := by decide +kernel
theorem d_T_reservedBy_5 : decode prog_3_method_7_code 5 = .ok (.iaload, 1) := by decide +kernel
theorem d_T_reservedBy_6 : decode prog_3_method_7_code 6 = .ok (.ireturn, 1) := by decide +kernel
theorem d_T_refuserOf_0 : decode prog_3_method_14_code 0 = .ok (.iload_n 1, 1) := by decide +kernel
theorem d_T_refuserOf_1 : decode prog_3_method_14_code 1 = .ok (.istore_n 3, 1) := by decide +kernel
theorem d_T_refuserOf_2 : decode prog_3_method_14_code 2 = .ok (.iconst 0, 1) := by decide +kernel
theorem d_T_refuserOf_3 : decode prog_3_method_14_code 3 = .ok (.istore 4, 2) := by decide +kernel
theorem d_T_refuserOf_5 : decode prog_3_method_14_code 5 = .ok (.iload 4, 2) := by decide +kernel
theorem d_T_refuserOf_7 : decode prog_3_method_14_code 7 = .ok (.bipush 6, 2) := by decide +kernel
theorem d_T_refuserOf_9 : decode prog_3_method_14_code 9 = .ok (.if_icmp .gt 40, 3) := by decide +kernel
theorem d_T_refuserOf_12 : decode prog_3_method_14_code 12 = .ok (.iload_n 3, 1) := by decide +kernel
theorem d_T_refuserOf_13 : decode prog_3_method_14_code 13 = .ok (.iconst (-1), 1) := by decide +kernel
theorem d_T_refuserOf_14 : decode prog_3_method_14_code 14 = .ok (.if_icmp .eq 35, 3) := by decide +kernel
theorem d_T_refuserOf_17 : decode prog_3_method_14_code 17 = .ok (.aload_n 0, 1) := by decide +kernel
theorem d_T_refuserOf_18 : decode prog_3_method_14_code 18 = .ok (.getfield 24, 3) := by decide +kernel
theorem d_T_refuserOf_21 : decode prog_3_method_14_code 21 = .ok (.iload_n 3, 1) := by decide +kernel
theorem d_T_refuserOf_22 : decode prog_3_method_14_code 22 = .ok (.iaload, 1) := by decide +kernel
theorem d_T_refuserOf_23 : decode prog_3_method_14_code 23 = .ok (.iload_n 2, 1) := by decide +kernel
theorem d_T_refuserOf_24 : decode prog_3_method_14_code 24 = .ok (.iadd, 1) := by decide +kernel
theorem d_T_refuserOf_25 : decode prog_3_method_14_code 25 = .ok (.aload_n 0, 1) := by decide +kernel
theorem d_T_refuserOf_26 : decode prog_3_method_14_code 26 = .ok (.getfield 18, 3) := by decide +kernel
theorem d_T_refuserOf_29 : decode prog_3_method_14_code 29 = .ok (.iload_n 3, 1) := by decide +kernel
theorem d_T_refuserOf_30 : decode prog_3_method_14_code 30 = .ok (.iaload, 1) := by decide +kernel
theorem d_T_refuserOf_31 : decode prog_3_method_14_code 31 = .ok (.if_icmp .le 5, 3) := by decide +kernel
theorem d_T_refuserOf_34 : decode prog_3_method_14_code 34 = .ok (.iload_n 3, 1) := by decide +kernel
theorem d_T_refuserOf_35 : decode prog_3_method_14_code 35 = .ok (.ireturn, 1) := by decide +kernel
theorem d_T_refuserOf_36 : decode prog_3_method_14_code 36 = .ok (.aload_n 0, 1) := by decide +kernel
theorem d_T_refuserOf_37 : decode prog_3_method_14_code 37 = .ok (.getfield 15, 3) := by decide +kernel
theorem d_T_refuserOf_40 : decode prog_3_method_14_code 40 = .ok (.iload_n 3, 1) := by decide +kernel
theorem d_T_refuserOf_41 : decode prog_3_method_14_code 41 = .ok (.iaload, 1) := by decide +kernel
theorem d_T_refuserOf_42 : decode prog_3_method_14_code 42 = .ok (.istore_n 3, 1) := by decide +kernel
theorem d_T_refuserOf_43 : decode prog_3_method_14_code 43 = .ok (.iinc 4 1, 3) := by decide +kernel
theorem d_T_refuserOf_46 : decode prog_3_method_14_code 46 = .ok (.goto (-41), 3) := by decide +kernel
theorem d_T_refuserOf_49 : decode prog_3_method_14_code 49 = .ok (.iconst (-1), 1) := by decide +kernel
theorem d_T_refuserOf_50 : decode prog_3_method_14_code 50 = .ok (.ireturn, 1) := by decide +kernel
theorem d_T_addReserved_0 : decode prog_3_method_16_code 0 = .ok (.aload_n 0, 1) := by decide +kernel
theorem d_T_addReserved_1 : decode prog_3_method_16_code 1 = .ok (.getfield 21, 3) := by decide +kernel
theorem d_T_addReserved_4 : decode prog_3_method_16_code 4 = .ok (.iload_n 1, 1) := by decide +kernel
theorem d_T_addReserved_5 : decode prog_3_method_16_code 5 = .ok (.dup2, 1) := by decide +kernel
theorem d_T_addReserved_6 : decode prog_3_method_16_code 6 = .ok (.iaload, 1) := by decide +kernel
theorem d_T_addReserved_7 : decode prog_3_method_16_code 7 = .ok (.iload_n 2, 1) := by decide +kernel
theorem d_T_addReserved_8 : decode prog_3_method_16_code 8 = .ok (.iadd, 1) := by decide +kernel
theorem d_T_addReserved_9 : decode prog_3_method_16_code 9 = .ok (.iastore, 1) := by decide +kernel
theorem d_T_addReserved_10 : decode prog_3_method_16_code 10 = .ok (.return_, 1) := by decide +kernel
theorem d_T_addUse_0 : decode prog_3_method_15_code 0 = .ok (.iload_n 1, 1) := by decide +kernel
theorem d_T_addUse_1 : decode prog_3_method_15_code 1 = .ok (.istore_n 3, 1) := by decide +kernel
theorem d_T_addUse_2 : decode prog_3_method_15_code 2 = .ok (.iconst 0, 1) := by decide +kernel
theorem d_T_addUse_3 : decode prog_3_method_15_code 3 = .ok (.istore 4, 2) := by decide +kernel
theorem d_T_addUse_5 : decode prog_3_method_15_code 5 = .ok (.iload 4, 2) := by decide +kernel
theorem d_T_addUse_7 : decode prog_3_method_15_code 7 = .ok (.bipush 6, 2) := by decide +kernel
theorem d_T_addUse_9 : decode prog_3_method_15_code 9 = .ok (.if_icmp .gt 31, 3) := by decide +kernel
theorem d_T_addUse_12 : decode prog_3_method_15_code 12 = .ok (.iload_n 3, 1) := by decide +kernel
theorem d_T_addUse_13 : decode prog_3_method_15_code 13 = .ok (.iconst (-1), 1) := by decide +kernel
theorem d_T_addUse_14 : decode prog_3_method_15_code 14 = .ok (.if_icmp .eq 26, 3) := by decide +kernel
theorem d_T_addUse_17 : decode prog_3_method_15_code 17 = .ok (.aload_n 0, 1) := by decide +kernel
theorem d_T_addUse_18 : decode prog_3_method_15_code 18 = .ok (.getfield 24, 3) := by decide +kernel
theorem d_T_addUse_21 : decode prog_3_method_15_code 21 = .ok (.iload_n 3, 1) := by decide +kernel
theorem d_T_addUse_22 : decode prog_3_method_15_code 22 = .ok (.dup2, 1) := by decide +kernel
theorem d_T_addUse_23 : decode prog_3_method_15_code 23 = .ok (.iaload, 1) := by decide +kernel
theorem d_T_addUse_24 : decode prog_3_method_15_code 24 = .ok (.iload_n 2, 1) := by decide +kernel
theorem d_T_addUse_25 : decode prog_3_method_15_code 25 = .ok (.iadd, 1) := by decide +kernel
theorem d_T_addUse_26 : decode prog_3_method_15_code 26 = .ok (.iastore, 1) := by decide +kernel
theorem d_T_addUse_27 : decode prog_3_method_15_code 27 = .ok (.aload_n 0, 1) := by decide +kernel
theorem d_T_addUse_28 : decode prog_3_method_15_code 28 = .ok (.getfield 15, 3) := by decide +kernel
theorem d_T_addUse_31 : decode prog_3_method_15_code 31 = .ok (.iload_n 3, 1) := by decide +kernel
theorem d_T_addUse_32 : decode prog_3_method_15_code 32 = .ok (.iaload, 1) := by decide +kernel
theorem d_T_addUse_33 : decode prog_3_method_15_code 33 = .ok (.istore_n 3, 1) := by decide +kernel
theorem d_T_addUse_34 : decode prog_3_method_15_code 34 = .ok (.iinc 4 1, 3) := by decide +kernel
theorem d_T_addUse_37 : decode prog_3_method_15_code 37 = .ok (.goto (-32), 3) := by decide +kernel
theorem d_T_addUse_40 : decode prog_3_method_15_code 40 = .ok (.return_, 1) := by decide +kernel
theorem d_T_useOf_0 : decode prog_3_method_8_code 0 = .ok (.aload_n 0, 1) := by decide +kernel
theorem d_T_useOf_1 : decode prog_3_method_8_code 1 = .ok (.getfield 24, 3) := by decide +kernel
theorem d_T_useOf_4 : decode prog_3_method_8_code 4 = .ok (.iload_n 1, 1) := by decide +kernel
theorem d_T_useOf_5 : decode prog_3_method_8_code 5 = .ok (.iaload, 1) := by decide +kernel
theorem d_T_useOf_6 : decode prog_3_method_8_code 6 = .ok (.ireturn, 1) := by decide +kernel
theorem d_T_replaceLimit_0 : decode prog_3_method_17_code 0 = .ok (.aload_n 0, 1) := by decide +kernel
theorem d_T_replaceLimit_1 : decode prog_3_method_17_code 1 = .ok (.getfield 18, 3) := by decide +kernel
theorem d_T_replaceLimit_4 : decode prog_3_method_17_code 4 = .ok (.iload_n 1, 1) := by decide +kernel
theorem d_T_replaceLimit_5 : decode prog_3_method_17_code 5 = .ok (.iaload, 1) := by decide +kernel
theorem d_T_replaceLimit_6 : decode prog_3_method_17_code 6 = .ok (.istore_n 3, 1) := by decide +kernel
theorem d_T_replaceLimit_7 : decode prog_3_method_17_code 7 = .ok (.aload_n 0, 1) := by decide +kernel
theorem d_T_replaceLimit_8 : decode prog_3_method_17_code 8 = .ok (.getfield 18, 3) := by decide +kernel
theorem d_T_replaceLimit_11 : decode prog_3_method_17_code 11 = .ok (.iload_n 1, 1) := by decide +kernel
theorem d_T_replaceLimit_12 : decode prog_3_method_17_code 12 = .ok (.iload_n 2, 1) := by decide +kernel
theorem d_T_replaceLimit_13 : decode prog_3_method_17_code 13 = .ok (.iastore, 1) := by decide +kernel
theorem d_T_replaceLimit_14 : decode prog_3_method_17_code 14 = .ok (.iload_n 3, 1) := by decide +kernel
theorem d_T_replaceLimit_15 : decode prog_3_method_17_code 15 = .ok (.ireturn, 1) := by decide +kernel
theorem d_T_replaceState_0 : decode prog_3_method_18_code 0 = .ok (.aload_n 0, 1) := by decide +kernel
theorem d_T_replaceState_1 : decode prog_3_method_18_code 1 = .ok (.getfield 9, 3) := by decide +kernel
theorem d_T_replaceState_4 : decode prog_3_method_18_code 4 = .ok (.iload_n 1, 1) := by decide +kernel
theorem d_T_replaceState_5 : decode prog_3_method_18_code 5 = .ok (.iaload, 1) := by decide +kernel
theorem d_T_replaceState_6 : decode prog_3_method_18_code 6 = .ok (.istore_n 3, 1) := by decide +kernel
theorem d_T_replaceState_7 : decode prog_3_method_18_code 7 = .ok (.aload_n 0, 1) := by decide +kernel
theorem d_T_replaceState_8 : decode prog_3_method_18_code 8 = .ok (.getfield 9, 3) := by decide +kernel
theorem d_T_replaceState_11 : decode prog_3_method_18_code 11 = .ok (.iload_n 1, 1) := by decide +kernel
theorem d_T_replaceState_12 : decode prog_3_method_18_code 12 = .ok (.iload_n 2, 1) := by decide +kernel
theorem d_T_replaceState_13 : decode prog_3_method_18_code 13 = .ok (.iastore, 1) := by decide +kernel
theorem d_T_replaceState_14 : decode prog_3_method_18_code 14 = .ok (.iload_n 3, 1) := by decide +kernel
theorem d_T_replaceState_15 : decode prog_3_method_18_code 15 = .ok (.ireturn, 1) := by decide +kernel
theorem d_T_condemn_0 : decode prog_3_method_19_code 0 = .ok (.iconst 0, 1) := by decide +kernel
theorem d_T_condemn_1 : decode prog_3_method_19_code 1 = .ok (.istore_n 2, 1) := by decide +kernel
theorem d_T_condemn_2 : decode prog_3_method_19_code 2 = .ok (.iload_n 2, 1) := by decide +kernel
theorem d_T_condemn_3 : decode prog_3_method_19_code 3 = .ok (.bipush 40, 2) := by decide +kernel
theorem d_T_condemn_5 : decode prog_3_method_19_code 5 = .ok (.if_icmp .ge 52, 3) := by decide +kernel
theorem d_T_condemn_8 : decode prog_3_method_19_code 8 = .ok (.aload_n 0, 1) := by decide +kernel
theorem d_T_condemn_9 : decode prog_3_method_19_code 9 = .ok (.iload_n 2, 1) := by decide +kernel
theorem d_T_condemn_10 : decode prog_3_method_19_code 10 = .ok (.invokevirtual 33, 3) := by decide +kernel
theorem d_T_condemn_13 : decode prog_3_method_19_code 13 = .ok (.ifCond .eq 38, 3) := by decide +kernel
theorem d_T_condemn_16 : decode prog_3_method_19_code 16 = .ok (.aload_n 0, 1) := by decide +kernel
theorem d_T_condemn_17 : decode prog_3_method_19_code 17 = .ok (.iload_n 2, 1) := by decide +kernel
theorem d_T_condemn_18 : decode prog_3_method_19_code 18 = .ok (.iload_n 1, 1) := by decide +kernel
theorem d_T_condemn_19 : decode prog_3_method_19_code 19 = .ok (.invokevirtual 37, 3) := by decide +kernel
theorem d_T_condemn_22 : decode prog_3_method_19_code 22 = .ok (.ifCond .eq 29, 3) := by decide +kernel
theorem d_T_condemn_25 : decode prog_3_method_19_code 25 = .ok (.aload_n 0, 1) := by decide +kernel
theorem d_T_condemn_26 : decode prog_3_method_19_code 26 = .ok (.getfield 9, 3) := by decide +kernel
theorem d_T_condemn_29 : decode prog_3_method_19_code 29 = .ok (.iload_n 2, 1) := by decide +kernel
theorem d_T_condemn_30 : decode prog_3_method_19_code 30 = .ok (.iconst 2, 1) := by decide +kernel
theorem d_T_condemn_31 : decode prog_3_method_19_code 31 = .ok (.iastore, 1) := by decide +kernel
theorem d_T_condemn_32 : decode prog_3_method_19_code 32 = .ok (.aload_n 0, 1) := by decide +kernel
theorem d_T_condemn_33 : decode prog_3_method_19_code 33 = .ok (.iload_n 2, 1) := by decide +kernel
theorem d_T_condemn_34 : decode prog_3_method_19_code 34 = .ok (.aload_n 0, 1) := by decide +kernel
theorem d_T_condemn_35 : decode prog_3_method_19_code 35 = .ok (.getfield 21, 3) := by decide +kernel
theorem d_T_condemn_38 : decode prog_3_method_19_code 38 = .ok (.iload_n 2, 1) := by decide +kernel
theorem d_T_condemn_39 : decode prog_3_method_19_code 39 = .ok (.iaload, 1) := by decide +kernel
theorem d_T_condemn_40 : decode prog_3_method_19_code 40 = .ok (.ineg, 1) := by decide +kernel
theorem d_T_condemn_41 : decode prog_3_method_19_code 41 = .ok (.invokevirtual 41, 3) := by decide +kernel
theorem d_T_condemn_44 : decode prog_3_method_19_code 44 = .ok (.aload_n 0, 1) := by decide +kernel
theorem d_T_condemn_45 : decode prog_3_method_19_code 45 = .ok (.getfield 21, 3) := by decide +kernel
theorem d_T_condemn_48 : decode prog_3_method_19_code 48 = .ok (.iload_n 2, 1) := by decide +kernel
theorem d_T_condemn_49 : decode prog_3_method_19_code 49 = .ok (.iconst 0, 1) := by decide +kernel
theorem d_T_condemn_50 : decode prog_3_method_19_code 50 = .ok (.iastore, 1) := by decide +kernel
theorem d_T_condemn_51 : decode prog_3_method_19_code 51 = .ok (.iinc 2 1, 3) := by decide +kernel
theorem d_T_condemn_54 : decode prog_3_method_19_code 54 = .ok (.goto (-52), 3) := by decide +kernel
theorem d_T_condemn_57 : decode prog_3_method_19_code 57 = .ok (.return_, 1) := by decide +kernel
theorem d_T_closeEmptyDying_0 : decode prog_3_method_20_code 0 = .ok (.iconst 0, 1) := by decide +kernel
theorem d_T_closeEmptyDying_1 : decode prog_3_method_20_code 1 = .ok (.istore_n 1, 1) := by decide +kernel
theorem d_T_closeEmptyDying_2 : decode prog_3_method_20_code 2 = .ok (.iload_n 1, 1) := by decide +kernel
theorem d_T_closeEmptyDying_3 : decode prog_3_method_20_code 3 = .ok (.bipush 40, 2) := by decide +kernel
theorem d_T_closeEmptyDying_5 : decode prog_3_method_20_code 5 = .ok (.if_icmp .ge 33, 3) := by decide +kernel
theorem d_T_closeEmptyDying_8 : decode prog_3_method_20_code 8 = .ok (.aload_n 0, 1) := by decide +kernel
theorem d_T_closeEmptyDying_9 : decode prog_3_method_20_code 9 = .ok (.iload_n 1, 1) := by decide +kernel
theorem d_T_closeEmptyDying_10 : decode prog_3_method_20_code 10 = .ok (.invokevirtual 45, 3) := by decide +kernel
theorem d_T_closeEmptyDying_13 : decode prog_3_method_20_code 13 = .ok (.ifCond .eq 19, 3) := by decide +kernel
theorem d_T_closeEmptyDying_16 : decode prog_3_method_20_code 16 = .ok (.aload_n 0, 1) := by decide +kernel
theorem d_T_closeEmptyDying_17 : decode prog_3_method_20_code 17 = .ok (.getfield 24, 3) := by decide +kernel
theorem d_T_closeEmptyDying_20 : decode prog_3_method_20_code 20 = .ok (.iload_n 1, 1) := by decide +kernel
theorem d_T_closeEmptyDying_21 : decode prog_3_method_20_code 21 = .ok (.iaload, 1) := by decide +kernel
theorem d_T_closeEmptyDying_22 : decode prog_3_method_20_code 22 = .ok (.ifCond .ne 10, 3) := by decide +kernel
theorem d_T_closeEmptyDying_25 : decode prog_3_method_20_code 25 = .ok (.aload_n 0, 1) := by decide +kernel
theorem d_T_closeEmptyDying_26 : decode prog_3_method_20_code 26 = .ok (.getfield 9, 3) := by decide +kernel
theorem d_T_closeEmptyDying_29 : decode prog_3_method_20_code 29 = .ok (.iload_n 1, 1) := by decide +kernel
theorem d_T_closeEmptyDying_30 : decode prog_3_method_20_code 30 = .ok (.iconst 3, 1) := by decide +kernel
theorem d_T_closeEmptyDying_31 : decode prog_3_method_20_code 31 = .ok (.iastore, 1) := by decide +kernel
theorem d_T_closeEmptyDying_32 : decode prog_3_method_20_code 32 = .ok (.iinc 1 1, 3) := by decide +kernel
theorem d_T_closeEmptyDying_35 : decode prog_3_method_20_code 35 = .ok (.goto (-33), 3) := by decide +kernel
theorem d_T_closeEmptyDying_38 : decode prog_3_method_20_code 38 = .ok (.return_, 1) := by decide +kernel
theorem d_T_parentOf_0 : decode prog_3_method_5_code 0 = .ok (.aload_n 0, 1) := by decide +kernel
theorem d_T_parentOf_1 : decode prog_3_method_5_code 1 = .ok (.getfield 15, 3) := by decide +kernel
theorem d_T_parentOf_4 : decode prog_3_method_5_code 4 = .ok (.iload_n 1, 1) := by decide +kernel
theorem d_T_parentOf_5 : decode prog_3_method_5_code 5 = .ok (.iaload, 1) := by decide +kernel
theorem d_T_parentOf_6 : decode prog_3_method_5_code 6 = .ok (.ireturn, 1) := by decide +kernel
theorem d_T_mergeIntoParent_0 : decode prog_3_method_21_code 0 = .ok (.aload_n 0, 1) := by decide +kernel
theorem d_T_mergeIntoParent_1 : decode prog_3_method_21_code 1 = .ok (.getfield 15, 3) := by decide +kernel
theorem d_T_mergeIntoParent_4 : decode prog_3_method_21_code 4 = .ok (.iload_n 1, 1) := by decide +kernel
theorem d_T_mergeIntoParent_5 : decode prog_3_method_21_code 5 = .ok (.iaload, 1) := by decide +kernel
theorem d_T_mergeIntoParent_6 : decode prog_3_method_21_code 6 = .ok (.istore_n 2, 1) := by decide +kernel
theorem d_T_mergeIntoParent_7 : decode prog_3_method_21_code 7 = .ok (.aload_n 0, 1) := by decide +kernel
theorem d_T_mergeIntoParent_8 : decode prog_3_method_21_code 8 = .ok (.getfield 21, 3) := by decide +kernel
theorem d_T_mergeIntoParent_11 : decode prog_3_method_21_code 11 = .ok (.iload_n 2, 1) := by decide +kernel
theorem d_T_mergeIntoParent_12 : decode prog_3_method_21_code 12 = .ok (.dup2, 1) := by decide +kernel
theorem d_T_mergeIntoParent_13 : decode prog_3_method_21_code 13 = .ok (.iaload, 1) := by decide +kernel
theorem d_T_mergeIntoParent_14 : decode prog_3_method_21_code 14 = .ok (.aload_n 0, 1) := by decide +kernel
theorem d_T_mergeIntoParent_15 : decode prog_3_method_21_code 15 = .ok (.getfield 21, 3) := by decide +kernel
theorem d_T_mergeIntoParent_18 : decode prog_3_method_21_code 18 = .ok (.iload_n 1, 1) := by decide +kernel
theorem d_T_mergeIntoParent_19 : decode prog_3_method_21_code 19 = .ok (.iaload, 1) := by decide +kernel
theorem d_T_mergeIntoParent_20 : decode prog_3_method_21_code 20 = .ok (.iadd, 1) := by decide +kernel
theorem d_T_mergeIntoParent_21 : decode prog_3_method_21_code 21 = .ok (.iastore, 1) := by decide +kernel
theorem d_T_mergeIntoParent_22 : decode prog_3_method_21_code 22 = .ok (.aload_n 0, 1) := by decide +kernel
theorem d_T_mergeIntoParent_23 : decode prog_3_method_21_code 23 = .ok (.getfield 9, 3) := by decide +kernel
theorem d_T_mergeIntoParent_26 : decode prog_3_method_21_code 26 = .ok (.iload_n 1, 1) := by decide +kernel
theorem d_T_mergeIntoParent_27 : decode prog_3_method_21_code 27 = .ok (.iconst 3, 1) := by decide +kernel
theorem d_T_mergeIntoParent_28 : decode prog_3_method_21_code 28 = .ok (.iastore, 1) := by decide +kernel
theorem d_T_mergeIntoParent_29 : decode prog_3_method_21_code 29 = .ok (.iconst 0, 1) := by decide +kernel
theorem d_T_mergeIntoParent_30 : decode prog_3_method_21_code 30 = .ok (.istore_n 3, 1) := by decide +kernel
theorem d_T_mergeIntoParent_31 : decode prog_3_method_21_code 31 = .ok (.iload_n 3, 1) := by decide +kernel
theorem d_T_mergeIntoParent_32 : decode prog_3_method_21_code 32 = .ok (.bipush 40, 2) := by decide +kernel
theorem d_T_mergeIntoParent_34 : decode prog_3_method_21_code 34 = .ok (.if_icmp .ge 34, 3) := by decide +kernel
theorem d_T_mergeIntoParent_37 : decode prog_3_method_21_code 37 = .ok (.aload_n 0, 1) := by decide +kernel
theorem d_T_mergeIntoParent_38 : decode prog_3_method_21_code 38 = .ok (.iload_n 3, 1) := by decide +kernel
theorem d_T_mergeIntoParent_39 : decode prog_3_method_21_code 39 = .ok (.invokevirtual 33, 3) := by decide +kernel
theorem d_T_mergeIntoParent_42 : decode prog_3_method_21_code 42 = .ok (.ifCond .eq 20, 3) := by decide +kernel
theorem d_T_mergeIntoParent_45 : decode prog_3_method_21_code 45 = .ok (.aload_n 0, 1) := by decide +kernel
theorem d_T_mergeIntoParent_46 : decode prog_3_method_21_code 46 = .ok (.getfield 15, 3) := by decide +kernel
theorem d_T_mergeIntoParent_49 : decode prog_3_method_21_code 49 = .ok (.iload_n 3, 1) := by decide +kernel
theorem d_T_mergeIntoParent_50 : decode prog_3_method_21_code 50 = .ok (.iaload, 1) := by decide +kernel
theorem d_T_mergeIntoParent_51 : decode prog_3_method_21_code 51 = .ok (.iload_n 1, 1) := by decide +kernel
theorem d_T_mergeIntoParent_52 : decode prog_3_method_21_code 52 = .ok (.if_icmp .ne 10, 3) := by decide +kernel
theorem d_T_mergeIntoParent_55 : decode prog_3_method_21_code 55 = .ok (.aload_n 0, 1) := by decide +kernel
theorem d_T_mergeIntoParent_56 : decode prog_3_method_21_code 56 = .ok (.getfield 15, 3) := by decide +kernel
theorem d_T_mergeIntoParent_59 : decode prog_3_method_21_code 59 = .ok (.iload_n 3, 1) := by decide +kernel
theorem d_T_mergeIntoParent_60 : decode prog_3_method_21_code 60 = .ok (.iload_n 2, 1) := by decide +kernel
theorem d_T_mergeIntoParent_61 : decode prog_3_method_21_code 61 = .ok (.iastore, 1) := by decide +kernel
theorem d_T_mergeIntoParent_62 : decode prog_3_method_21_code 62 = .ok (.iinc 3 1, 3) := by decide +kernel
theorem d_T_mergeIntoParent_65 : decode prog_3_method_21_code 65 = .ok (.goto (-34), 3) := by decide +kernel
theorem d_T_mergeIntoParent_68 : decode prog_3_method_21_code 68 = .ok (.return_, 1) := by decide +kernel
theorem d_T_limitOf_0 : decode prog_3_method_6_code 0 = .ok (.aload_n 0, 1) := by decide +kernel
theorem d_T_limitOf_1 : decode prog_3_method_6_code 1 = .ok (.getfield 18, 3) := by decide +kernel
theorem d_T_limitOf_4 : decode prog_3_method_6_code 4 = .ok (.iload_n 1, 1) := by decide +kernel
theorem d_T_limitOf_5 : decode prog_3_method_6_code 5 = .ok (.iaload, 1) := by decide +kernel
theorem d_T_limitOf_6 : decode prog_3_method_6_code 6 = .ok (.ireturn, 1) := by decide +kernel
end
section
/-! rules as the walks take them -/
abbrev xm (σ : xS) : xWd := (26, 23, σ)
def bz (b : Bool) : Int32 := if b then 1 else 0
abbrev xn (x : Int32) : Nat := x.toNatClampNeg
theorem narrow_bz (b : Bool) : narrow .boolean (.int (bz b)) = .int (bz b) := by cases b <;> rfl
theorem xo1 : Int32.ofInt 1 = 1 := by decide
theorem xom1 : Int32.ofInt (-1) = -1 := by decide
theorem xle {a b : Nat} (h : Nat.ble a b = true) : a ≤ b := Nat.le_of_ble_eq_true h
theorem xnlt {a b : Nat} (h : Nat.ble b a = true) : ¬ a < b := Nat.not_lt.mpr (Nat.le_of_ble_eq_true h)
theorem pl_B : plainFor (xy i_B_bank) = true := by decide +kernel
/-- it returns v and leaves the world w' -/
def xok (v : Option Value) (w' : xWd) : xO → xWd → Prop := fun o w => o = .inl v ∧ w = w'
/-- where c holds it throws C and leaves the world wC, else it returns v and leaves wv -/
def xtry (c : Prop) (C : String) (wC : xWd) (v : Option Value) (wv : xWd) : xO → xWd → Prop := fun o w => (c → o = .inr C ∧ w = wC) ∧ (¬ c → o = .inl v ∧ w = wv)
section XConv
variable {E : xE} {mi mj : xMI} {d kc ks pc d' : Nat} {Post Post' : xO → xWd → Prop} {L st as st0 : List Value} {w w' : xWd}
theorem XC.ofF (hpl : plainFor (xy mi) = true) (hcd : xCd mi) (hca0 : (as.all fun v => v.category == 1) = true) (hn : as.length ≤ xnL mi) (h : XR E mi d kc ks Post 0 as [] w) : XC E mi d kc ks as w Post := by
  have hca : ∀ v ∈ as, v.category = 1 := fun v hv => by simpa using List.all_eq_true.mp hca0 v hv
  refine MetFree.of_bodySF (code := xcc mi) (maxLocals := xnL mi) (ret := xrt mi) hpl ?_ ?_
  · intro A s m hp hnm
    obtain ⟨mk, meth, c, b1, b2, b3, b4, b5, b6, b7, -, -⟩ := hcd.spec (atoms_spec (ws := xTs) hp)
    cases hnm.symm.trans b1
    exact ⟨meth, c, b2, b3, b4, b5, b6, b7⟩
  · intro p e s m args below meth c s₁ B hml hP _
    obtain ⟨rfl, hH, hC⟩ := hP
    have hts := atoms_spec (ws := xTs) B.pre
    have hh0 : s₁.heap = s.heap := by rw [B.state]; rfl
    obtain ⟨mk, meth', c', b1, b2, b3, b4, b5, b6, b7, b8, -⟩ := hcd.spec hts
    cases B.named.symm.trans b1
    cases B.method.symm.trans b2
    have hc' : meth.code = some c := (Stand.of_body B).code
    cases hc'.symm.trans b3
    have hB : xB0 E mi d p (xrm d kc ks) s m as.toArray meth c := ⟨B.exec, b4, b5, findClass_of_methodNamed B.named, hts, b6, b7, (name_of_methodNamed B.named B.method).1, b8, hC, Nat.le_refl _, Nat.le_refl _⟩
    have hW := h p e (xrm d kc ks) s m as.toArray below meth c hB s.heap [] 0 0 _ (xL.entry hca hn) hH va_S.rf (by simp [xrm]) (by simp [xrm])
    obtain ⟨t, a1, o, b1, b2, b3⟩ := hW s₁ hh0 (Stand.of_body B)
    rw [lg_entry_eq]
    exact ⟨t, o, a1, b1, b2, by simpa using b3⟩
theorem XC.mono (h : XC E mi d kc ks as w Post) (hp : ∀ o w', Post o w' → Post' o w') : XC E mi d kc ks as w Post' := by
  intro p e ha hc hk s m args below hf happ hP hK
  obtain ⟨n, o, h1, h2, h3, h4⟩ := h p e ha hc hk s m args below hf happ hP hK
  refine ⟨n, o, h1, h2, h3, ?_⟩
  cases o with
  | returned v =>
    obtain ⟨⟨w', a, b⟩, c⟩ := h4
    exact ⟨⟨w', hp _ _ a, b⟩, c⟩
  | threw x =>
    obtain ⟨⟨w', C, a, b⟩, c⟩ := h4
    exact ⟨⟨w', C, hp _ _ a, b⟩, c⟩
theorem XR.mono (h : XR E mi d kc ks Post' pc L st w) (hp : ∀ o w', Post' o w' → Post o w') : XR E mi d kc ks Post pc L st w := by
  intro p e R s m args below meth c hB H locs cells slots ls hl hH hS h1 h2
  refine xW.imp (fun t ht => ?_) (h p e R s m args below meth c hB H locs cells slots ls hl hH hS h1 h2)
  obtain ⟨o, q1, q2, q3⟩ := ht
  refine ⟨o, q1, q2, ?_⟩
  cases o with
  | returned v =>
    obtain ⟨⟨w', a, b⟩, c⟩ := q3
    exact ⟨⟨w', hp _ _ a, b⟩, c⟩
  | threw x =>
    obtain ⟨⟨w', C, a, b⟩, c⟩ := q3
    exact ⟨⟨w', C, hp _ _ a, b⟩, c⟩
theorem XR.iincN {i n : Nat} {L' : List Value} (hd : decode (xcc mi) pc = .ok (.iinc i 1, 3)) (hi : L[i]? = some (.int (nI n))) (hj : i < xnL mi) (hl : xst L i (.int (nI (n + 1))) = L') (k : XR E mi d kc ks Post (pc + 3) L' st w) : XR E mi d kc ks Post pc L st w :=
  XR.iinc hd hi (by rw [xo1, nI_1]) hj hl k
theorem XR.iinc1 {i : Nat} {x : Int32} {L' : List Value} (hd : decode (xcc mi) pc = .ok (.iinc i 1, 3)) (hi : L[i]? = some (.int x)) (hj : i < xnL mi) (hl : xst L i (.int (x + 1)) = L') (k : XR E mi d kc ks Post (pc + 3) L' st w) : XR E mi d kc ks Post pc L st w :=
  XR.iinc hd hi (by rw [xo1]) hj hl k
theorem XR.iincm {i : Nat} {x : Int32} {L' : List Value} (hd : decode (xcc mi) pc = .ok (.iinc i (-1), 3)) (hi : L[i]? = some (.int x)) (hj : i < xnL mi) (hl : xst L i (.int (x - 1)) = L') (k : XR E mi d kc ks Post (pc + 3) L' st w) : XR E mi d kc ks Post pc L st w :=
  XR.iinc hd hi (by rw [xom1, Int32.sub_eq_add_neg]) hj hl k
theorem XR.ialoadN {q n i : Nat} (hd : decode (xcc mi) pc = .ok (.iaload, 1)) (hq : q < w.1) (he : ∀ f, xen E w.2.1 q f = .inl (xcI E, n, .inl f)) (hx : i < n) (hn : n < 2 ^ 31) (k : XR E mi d kc ks Post (pc + 1) L (.int (w.2.2 q i) :: st) w) : XR E mi d kc ks Post pc L (.int (nI i) :: .ref (xB E + q) :: st) w :=
  XR.iaload hd hq he (vp_in_nI hx hn) (by rw [nI_clamp (by omega)]; exact k)
theorem XR.baloadN {q n i : Nat} (hd : decode (xcc mi) pc = .ok (.baload, 1)) (hq : q < w.1) (he : ∀ f, xen E w.2.1 q f = .inl (xcZ E, n, .inl f)) (hx : i < n) (hn : n < 2 ^ 31) (k : XR E mi d kc ks Post (pc + 1) L (.int (w.2.2 q i) :: st) w) : XR E mi d kc ks Post pc L (.int (nI i) :: .ref (xB E + q) :: st) w :=
  XR.baload hd hq he (vp_in_nI hx hn) (by rw [nI_clamp (by omega)]; exact k)
theorem XR.iastoreN {n r q a i : Nat} {σ : xS} {x : Int32} (hd : decode (xcc mi) pc = .ok (.iastore, 1)) (hq : q < n) (he : ∀ f, xen E r q f = .inl (xcI E, a, .inl f)) (hx : i < a) (ha : a < 2 ^ 31) (k : XR E mi d kc ks Post (pc + 1) L st (n, r, xu σ q i x)) : XR E mi d kc ks Post pc L (.int x :: .int (nI i) :: .ref (xB E + q) :: st) (n, r, σ) :=
  XR.iastore hd hq he (vp_in_nI hx ha) (by rw [nI_clamp (by omega)]; exact k)
theorem XR.bastoreN {n r q a i : Nat} {σ : xS} {x : Int32} (hd : decode (xcc mi) pc = .ok (.bastore, 1)) (hq : q < n) (he : ∀ f, xen E r q f = .inl (xcZ E, a, .inl f)) (hx : i < a) (ha : a < 2 ^ 31) (hn : narrow .boolean (.int x) = .int x) (k : XR E mi d kc ks Post (pc + 1) L st (n, r, xu σ q i x)) : XR E mi d kc ks Post pc L (.int x :: .int (nI i) :: .ref (xB E + q) :: st) (n, r, σ) :=
  XR.bastore hd hq he (vp_in_nI hx ha) hn (by rw [nI_clamp (by omega)]; exact k)
theorem XR.getref {q ci fk index N o q2 : Nat} {C : String} {T : u_T} {fs : List Value} (hd : decode (xcc mi) pc = .ok (.getfield index, 3)) (hq : q < w.1) (he : xen E w.2.1 q (w.2.2 q) = .inr (ci, fs)) (hc : vwCl[ci]? = some (C, T, N)) (hin : ∀ x ∈ u_ws C T N, x ∈ xTs) (hk : fk < N) (hl : Cond.fieldLink (xy mi).cls index (T fk).1 (T fk).2.1 (T fk).2.2.1 ∈ xTs) (hv : fs[fk]? = some (xob E w.2.1 o q2)) (ho : o < w.2.1)
    (k : XR E mi d kc ks Post (pc + 3) L (.ref (xB E + q2) :: st) w) : XR E mi d kc ks Post pc L (.ref (xB E + q) :: st) w := by
  refine XR.getfield hd hq he hc hin hk hl (v := .ref (xB E + q2)) ?_ k
  rw [hv]
  simp only [xob, if_pos ho]
theorem XR.getint {q ci fk index N : Nat} {C : String} {T : u_T} {fs : List Value} {x : Int32} (hd : decode (xcc mi) pc = .ok (.getfield index, 3)) (hq : q < w.1) (he : xen E w.2.1 q (w.2.2 q) = .inr (ci, fs)) (hc : vwCl[ci]? = some (C, T, N)) (hin : ∀ x ∈ u_ws C T N, x ∈ xTs) (hk : fk < N) (hl : Cond.fieldLink (xy mi).cls index (T fk).1 (T fk).2.1 (T fk).2.2.1 ∈ xTs) (hv : fs[fk]? = some (.int x))
    (k : XR E mi d kc ks Post (pc + 3) L (.int x :: st) w) : XR E mi d kc ks Post pc L (.ref (xB E + q) :: st) w := XR.getfield hd hq he hc hin hk hl hv k
theorem XR.zreturn {b : Bool} (hd : decode (xcc mi) pc = .ok (.ireturn, 1)) (hty : xrt mi = some .boolean) (hP : Post (.inl (some (.int (bz b)))) w) : XR E mi d kc ks Post pc L [.int (bz b)] w := XR.ireturn hd hty (narrow_bz b) hP
theorem XR.zret0 (hd : decode (xcc mi) pc = .ok (.ireturn, 1)) (hty : xrt mi = some .boolean) (hP : Post (.inl (some (.int 0))) w) : XR E mi d kc ks Post pc L [.int 0] w := XR.ireturn hd hty (narrow_bz false) hP
theorem XR.zret1 (hd : decode (xcc mi) pc = .ok (.ireturn, 1)) (hty : xrt mi = some .boolean) (hP : Post (.inl (some (.int 1))) w) : XR E mi d kc ks Post pc L [.int 1] w := XR.ireturn hd hty (narrow_bz true) hP
theorem XR.xreturn {x : Int32} (hd : decode (xcc mi) pc = .ok (.ireturn, 1)) (hty : xrt mi = some .int) (hP : Post (.inl (some (.int x))) w) : XR E mi d kc ks Post pc L [.int x] w := XR.ireturn hd hty rfl hP
/-- a call of an object's method that returns -/
theorem XR.cV {index q ci N : Nat} {C : String} {Tu : u_T} {fs : List Value} {v : Option Value} (hd : decode (xcc mi) pc = .ok (.invokevirtual index, 3)) (hl : Cond.methodLink (xy mi).cls index (xy mj) ∈ xTs) (hk : xKV mj C as.length) (hM : XC E mj d' 0 0 (.ref (xB E + q) :: as) w (xok v w'))
    (hst0 : st0 = as.reverse ++ .ref (xB E + q) :: st) (hq : q < w.1) (he : xen E w.2.1 q (w.2.2 q) = .inr (ci, fs)) (hc : vwCl[ci]? = some (C, Tu, N)) (hdd : d' + 1 ≤ d) (hst : (st.map fun v => v.category).sum + xnL mj ≤ 17)
    (k : XR E mi d kc ks Post (pc + 3) L (v.toList ++ st) w') : XR E mi d kc ks Post pc L st0 w :=
  XR.callV hd hl hk.1 hk.2.1 hk.2.2.1 hk.2.2.2.1 hk.2.2.2.2.1 rfl hq he hc hk.2.2.2.2.2 hst0 hM hdd hst (Nat.zero_le _) (Nat.zero_le _) (fun u w1 h => by obtain ⟨h1, rfl⟩ := h; cases h1; exact k) (fun C w1 h => by obtain ⟨h1, -⟩ := h; cases h1)
theorem XR.cS {index : Nat} {v : Option Value} (hd : decode (xcc mi) pc = .ok (.invokestatic index, 3)) (hl : Cond.methodLink (xy mi).cls index (xy mj) ∈ xTs) (hk : xKS mj as.length) (hM : XC E mj d' 0 0 as w (xok v w'))
    (hst0 : st0 = as.reverse ++ st) (hdd : d' + 1 ≤ d) (hst : (st.map fun v => v.category).sum + xnL mj ≤ 17)
    (k : XR E mi d kc ks Post (pc + 3) L (v.toList ++ st) w') : XR E mi d kc ks Post pc L st0 w :=
  XR.callS hd hl hk.1 hk.2.1 hk.2.2.1 hk.2.2.2.1 hk.2.2.2.2 hst0 hM hdd hst (Nat.zero_le _) (Nat.zero_le _) (fun u w1 h => by obtain ⟨h1, rfl⟩ := h; cases h1; exact k) (fun C w1 h => by obtain ⟨h1, -⟩ := h; cases h1)
/-- .. that may throw: the caller has no handlers -/
theorem XR.cVt {index q ci N : Nat} {C X : String} {Tu : u_T} {fs : List Value} {v : Option Value} {cnd : Prop} {wC : xWd} (hd : decode (xcc mi) pc = .ok (.invokevirtual index, 3)) (hl : Cond.methodLink (xy mi).cls index (xy mj) ∈ xTs) (hk : xKV mj C as.length) (hM : XC E mj d' 0 0 (.ref (xB E + q) :: as) w (xtry cnd X wC v w'))
    (hst0 : st0 = as.reverse ++ .ref (xB E + q) :: st) (hq : q < w.1) (he : xen E w.2.1 q (w.2.2 q) = .inr (ci, fs)) (hc : vwCl[ci]? = some (C, Tu, N)) (hdd : d' + 1 ≤ d) (hst : (st.map fun v => v.category).sum + xnL mj ≤ 17) (hno : xhs mi = [])
    (kt : cnd → Post (.inr X) wC) (k : ¬ cnd → XR E mi d kc ks Post (pc + 3) L (v.toList ++ st) w') : XR E mi d kc ks Post pc L st0 w := by
  by_cases hcn : cnd
  · exact XR.callV hd hl hk.1 hk.2.1 hk.2.2.1 hk.2.2.2.1 hk.2.2.2.2.1 rfl hq he hc hk.2.2.2.2.2 hst0 hM hdd hst (Nat.zero_le _) (Nat.zero_le _) (fun u w1 h => by obtain ⟨h1, -⟩ := h.1 hcn; cases h1)
      (fun C w1 h => by obtain ⟨h1, rfl⟩ := h.1 hcn; cases h1; exact XT.leave (by rw [hno]; intro x hx; cases hx) (kt hcn))
  · exact XR.callV hd hl hk.1 hk.2.1 hk.2.2.1 hk.2.2.2.1 hk.2.2.2.2.1 rfl hq he hc hk.2.2.2.2.2 hst0 hM hdd hst (Nat.zero_le _) (Nat.zero_le _) (fun u w1 h => by obtain ⟨h1, rfl⟩ := h.2 hcn; cases h1; exact k hcn)
      (fun C w1 h => by obtain ⟨h1, -⟩ := h.2 hcn; cases h1)
theorem XR.cSt {index : Nat} {X : String} {v : Option Value} {cnd : Prop} {wC : xWd} (hd : decode (xcc mi) pc = .ok (.invokestatic index, 3)) (hl : Cond.methodLink (xy mi).cls index (xy mj) ∈ xTs) (hk : xKS mj as.length) (hM : XC E mj d' 0 0 as w (xtry cnd X wC v w'))
    (hst0 : st0 = as.reverse ++ st) (hdd : d' + 1 ≤ d) (hst : (st.map fun v => v.category).sum + xnL mj ≤ 17) (hno : xhs mi = [])
    (kt : cnd → Post (.inr X) wC) (k : ¬ cnd → XR E mi d kc ks Post (pc + 3) L (v.toList ++ st) w') : XR E mi d kc ks Post pc L st0 w := by
  by_cases hcn : cnd
  · exact XR.callS hd hl hk.1 hk.2.1 hk.2.2.1 hk.2.2.2.1 hk.2.2.2.2 hst0 hM hdd hst (Nat.zero_le _) (Nat.zero_le _) (fun u w1 h => by obtain ⟨h1, -⟩ := h.1 hcn; cases h1)
      (fun C w1 h => by obtain ⟨h1, rfl⟩ := h.1 hcn; cases h1; exact XT.leave (by rw [hno]; intro x hx; cases hx) (kt hcn))
  · exact XR.callS hd hl hk.1 hk.2.1 hk.2.2.1 hk.2.2.2.1 hk.2.2.2.2 hst0 hM hdd hst (Nat.zero_le _) (Nat.zero_le _) (fun u w1 h => by obtain ⟨h1, rfl⟩ := h.2 hcn; cases h1; exact k hcn)
      (fun C w1 h => by obtain ⟨h1, -⟩ := h.2 hcn; cases h1)
/-- a call whose end is told by a predicate, and which returns -/
theorem XR.cVp {index q ci N : Nat} {C : String} {Tu : u_T} {fs : List Value} (hd : decode (xcc mi) pc = .ok (.invokevirtual index, 3)) (hl : Cond.methodLink (xy mi).cls index (xy mj) ∈ xTs) (hk : xKV mj C as.length) {P : Option Value → xWd → Prop} (hM : XC E mj d' 0 0 (.ref (xB E + q) :: as) w (fun o w1 => ∃ v, o = .inl v ∧ P v w1))
    (hst0 : st0 = as.reverse ++ .ref (xB E + q) :: st) (hq : q < w.1) (he : xen E w.2.1 q (w.2.2 q) = .inr (ci, fs)) (hc : vwCl[ci]? = some (C, Tu, N)) (hdd : d' + 1 ≤ d) (hst : (st.map fun v => v.category).sum + xnL mj ≤ 17)
    (k : ∀ v w1, P v w1 → XR E mi d kc ks Post (pc + 3) L (v.toList ++ st) w1) : XR E mi d kc ks Post pc L st0 w :=
  XR.callV hd hl hk.1 hk.2.1 hk.2.2.1 hk.2.2.2.1 hk.2.2.2.2.1 rfl hq he hc hk.2.2.2.2.2 hst0 hM hdd hst (Nat.zero_le _) (Nat.zero_le _) (fun u w1 h => by obtain ⟨v, h1, h2⟩ := h; cases h1; exact k _ _ h2) (fun C w1 h => by obtain ⟨v, h1, -⟩ := h; cases h1)
end XConv
end
section
/-! the words of a throw -/
abbrev xnames : List String := ["java/lang/RuntimeException", "java/lang/Exception"]
theorem xnames_fit : ∀ n ∈ xnames, Bundle.fit n = true := by decide +kernel
theorem xthw {l : List Cond} (h : l.all (fun a => (decide (a ∈ lw_tbl) && xgb a) || decide (a ∈ xTw)) = true) : ∀ a ∈ l, a ∈ xTs ∨ a ∈ xTw := fun a ha => by
  have := List.all_eq_true.mp h a ha
  simp only [Bool.or_eq_true, Bool.and_eq_true, decide_eq_true_eq] at this
  rcases this with ⟨h1, h2⟩ | h1
  · exact Or.inl (List.mem_filter.mpr ⟨List.mem_append_left _ h1, h2⟩)
  · exact Or.inr h1
set_option maxRecDepth 100000 in
theorem ta_IndexOutOfBoundsException : ∀ a ∈ Bundle.ownAtoms0 "PageBanks" 230 "java/lang/IndexOutOfBoundsException" xnames, a ∈ xTs ∨ a ∈ xTw := xthw (by decide +kernel)
set_option maxRecDepth 100000 in
theorem ta_IllegalArgumentException : ∀ a ∈ Bundle.ownAtoms0 "PageBanks" 171 "java/lang/IllegalArgumentException" xnames, a ∈ xTs ∨ a ∈ xTw := xthw (by decide +kernel)
set_option maxRecDepth 100000 in
theorem ta_IllegalStateException : ∀ a ∈ Bundle.ownAtoms0 "PageBanks" 233 "java/lang/IllegalStateException" xnames, a ∈ xTs ∨ a ∈ xTw := xthw (by decide +kernel)
set_option maxRecDepth 100000 in
theorem ta_UnsupportedOperationException : ∀ a ∈ Bundle.ownAtoms0 "PageBanks" 221 "java/lang/UnsupportedOperationException" xnames, a ∈ xTs ∨ a ∈ xTw := xthw (by decide +kernel)
set_option maxRecDepth 100000 in
theorem ta_NoSuchElementException : ∀ a ∈ Bundle.ownAtoms0 "PageBanks" 227 "java/util/NoSuchElementException" xnames, a ∈ xTs ∨ a ∈ xTw := xthw (by decide +kernel)
theorem fit_IndexOutOfBoundsException : Bundle.fit "java/lang/IndexOutOfBoundsException" = true := by decide +kernel
theorem fit_IllegalArgumentException : Bundle.fit "java/lang/IllegalArgumentException" = true := by decide +kernel
theorem fit_IllegalStateException : Bundle.fit "java/lang/IllegalStateException" = true := by decide +kernel
theorem fit_UnsupportedOperationException : Bundle.fit "java/lang/UnsupportedOperationException" = true := by decide +kernel
theorem fit_NoSuchElementException : Bundle.fit "java/util/NoSuchElementException" = true := by decide +kernel
end
section
/-! numbers of the walks -/
theorem xok_0 {b : Bool} {w : xWd} (h : b = false) : xok (some (.int (bz b))) w (.inl (some (.int 0))) w := by subst h; exact ⟨rfl, rfl⟩
theorem xok_1 {b : Bool} {w : xWd} (h : b = true) : xok (some (.int (bz b))) w (.inl (some (.int 1))) w := by subst h; exact ⟨rfl, rfl⟩
theorem vp_in_lt {x N : Int32} {n : Nat} (h1 : ¬ x < 0) (h2 : ¬ N ≤ x) (hN : N.toInt = n) : vp_in x n := by
  rw [vp_in_iff]
  rw [Int32.lt_iff_toInt_lt] at h1
  rw [Int32.le_iff_toInt_le] at h2
  have h0 : (0 : Int32).toInt = 0 := by decide
  omega
/-! the static tests of the class -/
section XSmall
variable {E : xE} {σ : xS}
theorem c_B_requireIndex {x : Int32} : XC E i_B_requireIndex 6 0 0 [.int x] (xm σ) (xtry (x = 0) "java/lang/IndexOutOfBoundsException" (xm σ) none (xm σ)) := by
  refine XC.ofF (by decide +kernel) cd_B_requireIndex rfl (xle rfl) ?_
  refine XR.iload_n d_B_requireIndex_0 rfl ?_
  refine XR.if_ne d_B_requireIndex_1 (tgt := 12) (by decide) (fun h1 => ?_) (fun h1 => ?_)
  · refine XR.return_ d_B_requireIndex_12 rfl ?_
    exact ⟨fun h => absurd h h1, fun _ => ⟨rfl, rfl⟩⟩
  refine XR.throw (names := xnames) d_B_requireIndex_4 d_B_requireIndex_7 d_B_requireIndex_8 d_B_requireIndex_11 c_B_228 in_java_lang_IndexOutOfBoundsException it_java_lang_IndexOutOfBoundsException fit_IndexOutOfBoundsException xnames_fit ta_IndexOutOfBoundsException (xnlt rfl) (fun _ hx => absurd hx List.not_mem_nil) (xle rfl) (xle rfl) ?_
  exact ⟨fun _ => ⟨rfl, rfl⟩, fun h => absurd h1 h⟩
theorem c_B_requireArgument {x : Int32} : XC E i_B_requireArgument 6 0 0 [.int x] (xm σ) (xtry (x = 0) "java/lang/IllegalArgumentException" (xm σ) none (xm σ)) := by
  refine XC.ofF (by decide +kernel) cd_B_requireArgument rfl (xle rfl) ?_
  refine XR.iload_n d_B_requireArgument_0 rfl ?_
  refine XR.if_ne d_B_requireArgument_1 (tgt := 12) (by decide) (fun h1 => ?_) (fun h1 => ?_)
  · refine XR.return_ d_B_requireArgument_12 rfl ?_
    exact ⟨fun h => absurd h h1, fun _ => ⟨rfl, rfl⟩⟩
  refine XR.throw (names := xnames) d_B_requireArgument_4 d_B_requireArgument_7 d_B_requireArgument_8 d_B_requireArgument_11 c_B_169 in_java_lang_IllegalArgumentException it_java_lang_IllegalArgumentException fit_IllegalArgumentException xnames_fit ta_IllegalArgumentException (xnlt rfl) (fun _ hx => absurd hx List.not_mem_nil) (xle rfl) (xle rfl) ?_
  exact ⟨fun _ => ⟨rfl, rfl⟩, fun h => absurd h1 h⟩
theorem c_B_requireState {x : Int32} : XC E i_B_requireState 6 0 0 [.int x] (xm σ) (xtry (x = 0) "java/lang/IllegalStateException" (xm σ) none (xm σ)) := by
  refine XC.ofF (by decide +kernel) cd_B_requireState rfl (xle rfl) ?_
  refine XR.iload_n d_B_requireState_0 rfl ?_
  refine XR.if_ne d_B_requireState_1 (tgt := 12) (by decide) (fun h1 => ?_) (fun h1 => ?_)
  · refine XR.return_ d_B_requireState_12 rfl ?_
    exact ⟨fun h => absurd h h1, fun _ => ⟨rfl, rfl⟩⟩
  refine XR.throw (names := xnames) d_B_requireState_4 d_B_requireState_7 d_B_requireState_8 d_B_requireState_11 c_B_231 in_java_lang_IllegalStateException it_java_lang_IllegalStateException fit_IllegalStateException xnames_fit ta_IllegalStateException (xnlt rfl) (fun _ hx => absurd hx List.not_mem_nil) (xle rfl) (xle rfl) ?_
  exact ⟨fun _ => ⟨rfl, rfl⟩, fun h => absurd h1 h⟩
def bUp (x : Int32) : Bool := !decide (x < 0) && !decide (192 < x)
theorem c_B_isUpToAllPages {x : Int32} : XC E i_B_isUpToAllPages 1 0 0 [.int x] (xm σ) (xok (some (.int (bz (bUp x)))) (xm σ)) := by
  refine XC.ofF (by decide +kernel) cd_B_isUpToAllPages rfl (xle rfl) ?_
  refine XR.iload_n d_B_isUpToAllPages_0 rfl ?_
  refine XR.if_lt d_B_isUpToAllPages_1 (tgt := 15) (by decide) (fun h1 => ?_) (fun h1 => ?_)
  · refine XR.iconst d_B_isUpToAllPages_15 (v := 0) (by decide) ?_
    refine XR.zret0 d_B_isUpToAllPages_16 rfl ?_
    exact xok_0 (by simp_all [bUp])
  refine XR.iload_n d_B_isUpToAllPages_4 rfl ?_
  refine XR.sipush d_B_isUpToAllPages_5 (v := 192) (by decide) ?_
  refine XR.icmp_gt d_B_isUpToAllPages_8 (tgt := 15) (by decide) (fun h8 => ?_) (fun h8 => ?_)
  · refine XR.iconst d_B_isUpToAllPages_15 (v := 0) (by decide) ?_
    refine XR.zret0 d_B_isUpToAllPages_16 rfl ?_
    exact xok_0 (by simp_all [bUp])
  refine XR.iconst d_B_isUpToAllPages_11 (v := 1) (by decide) ?_
  refine XR.goto d_B_isUpToAllPages_12 (tgt := 16) (by decide) ?_
  refine XR.zret1 d_B_isUpToAllPages_16 rfl ?_
  exact xok_1 (by simp_all [bUp])
def bWord (x : Int32) : Bool := !decide (x < 0) && !decide (4 ≤ x)
theorem c_B_isWord {x : Int32} : XC E i_B_isWord 1 0 0 [.int x] (xm σ) (xok (some (.int (bz (bWord x)))) (xm σ)) := by
  refine XC.ofF (by decide +kernel) cd_B_isWord rfl (xle rfl) ?_
  refine XR.iload_n d_B_isWord_0 rfl ?_
  refine XR.if_lt d_B_isWord_1 (tgt := 13) (by decide) (fun h1 => ?_) (fun h1 => ?_)
  · refine XR.iconst d_B_isWord_13 (v := 0) (by decide) ?_
    refine XR.zret0 d_B_isWord_14 rfl ?_
    exact xok_0 (by simp_all [bWord])
  refine XR.iload_n d_B_isWord_4 rfl ?_
  refine XR.iconst d_B_isWord_5 (v := 4) (by decide) ?_
  refine XR.icmp_ge d_B_isWord_6 (tgt := 13) (by decide) (fun h6 => ?_) (fun h6 => ?_)
  · refine XR.iconst d_B_isWord_13 (v := 0) (by decide) ?_
    refine XR.zret0 d_B_isWord_14 rfl ?_
    exact xok_0 (by simp_all [bWord])
  refine XR.iconst d_B_isWord_9 (v := 1) (by decide) ?_
  refine XR.goto d_B_isWord_10 (tgt := 14) (by decide) ?_
  refine XR.zret1 d_B_isWord_14 rfl ?_
  exact xok_1 (by simp_all [bWord])
def bStrong (x : Int32) : Bool := x &&& 1 == 0
theorem c_B_isStrong {x : Int32} : XC E i_B_isStrong 1 0 0 [.int x] (xm σ) (xok (some (.int (bz (bStrong x)))) (xm σ)) := by
  refine XC.ofF (by decide +kernel) cd_B_isStrong rfl (xle rfl) ?_
  refine XR.iload_n d_B_isStrong_0 rfl ?_
  refine XR.iconst d_B_isStrong_1 (v := 1) (by decide) ?_
  refine XR.iand d_B_isStrong_2 ?_
  refine XR.if_ne d_B_isStrong_3 (tgt := 10) (by decide) (fun h3 => ?_) (fun h3 => ?_)
  · refine XR.iconst d_B_isStrong_10 (v := 0) (by decide) ?_
    refine XR.zret0 d_B_isStrong_11 rfl ?_
    exact xok_0 (by simp_all [bStrong])
  refine XR.iconst d_B_isStrong_6 (v := 1) (by decide) ?_
  refine XR.goto d_B_isStrong_7 (tgt := 11) (by decide) ?_
  refine XR.zret1 d_B_isStrong_11 rfl ?_
  exact xok_1 (by simp_all [bStrong])
theorem c_J_min {x y : Int32} : XC E i_J_min 1 0 0 [.int x, .int y] (xm σ) (xok (some (.int (if y < x then y else x))) (xm σ)) := by
  refine XC.ofF (by decide +kernel) cd_J_min rfl (xle rfl) ?_
  refine XR.iload_n d_J_min_0 rfl ?_
  refine XR.iload_n d_J_min_1 rfl ?_
  refine XR.icmp_gt d_J_min_2 (tgt := 9) (by decide) (fun h2 => ?_) (fun h2 => ?_)
  · refine XR.iload_n d_J_min_9 rfl ?_
    refine XR.xreturn d_J_min_10 rfl ?_
    first | exact ⟨by rw [if_pos h2], rfl⟩ | exact ⟨by rw [if_neg h2], rfl⟩
  refine XR.iload_n d_J_min_5 rfl ?_
  refine XR.goto d_J_min_6 (tgt := 10) (by decide) ?_
  refine XR.xreturn d_J_min_10 rfl ?_
  first | exact ⟨by rw [if_pos h2], rfl⟩ | exact ⟨by rw [if_neg h2], rfl⟩
end XSmall
end
section
/-! the tree of banks: what its methods do -/
def xcn (p : Nat → Bool) : Nat → Nat
  | 0 => 0
  | n + 1 => xcn p n + (if p n then 1 else 0)
theorem xcn_le (p : Nat → Bool) : ∀ n : Nat, xcn p n ≤ n
  | 0 => Nat.le_refl _
  | n + 1 => by have := xcn_le p n; simp only [xcn]; split <;> omega
theorem bz_z (b : Bool) : (bz b = 0) = (b = false) := by cases b <;> decide
theorem vp_in_xn {x : Int32} {n : Nat} (h : vp_in x n) : xn x < n := by
  obtain ⟨h1, h2⟩ := vp_in_iff.mp h
  show x.toInt.toNat < n
  omega
theorem nn_le {i n : Nat} (h : i < n) (hn : n < 2 ^ 31) : ¬ nI n ≤ nI i := nI_ge h hn
theorem xu_same (σ : xS) (q i : Nat) (v : Int32) : xu σ q i v q i = v := by simp [xu, xup]
theorem xu_other {σ : xS} {q i k : Nat} {v : Int32} (h : k ≠ q) : xu σ q i v k = σ k := by simp [xu, xup, h]
theorem xu_at {σ : xS} {q i j : Nat} {v : Int32} : xu σ q i v q j = if j = i then v else σ q j := by simp [xu, xup]
def tBk (σ : xS) (x : Int32) : Bool := !decide (x < 0) && !decide (40 ≤ x) && !(σ 2 (xn x) == 3)
def tDy (σ : xS) (x : Int32) : Bool := σ 2 (xn x) == 2
def tLunF (σ : xS) : Nat → Nat → Int32
  | 0, _ => -1
  | f + 1, i => if σ 2 i = 3 then nI i else tLunF σ f (i + 1)
def tLun (σ : xS) : Int32 := tLunF σ 39 1
def tDepF (σ : xS) : Nat → Int32 → Nat → Nat
  | 0, _, k => k
  | f + 1, a, k => if a = -1 then k else tDepF σ f (σ 3 (xn a)) (k + 1)
def tDep (σ : xS) (x : Int32) : Nat := tDepF σ 7 (σ 3 (xn x)) 0
def tWiF (σ : xS) (top : Int32) : Nat → Int32 → Bool
  | 0, _ => false
  | f + 1, a => if a = -1 then false else if a = top then true else tWiF σ top f (σ 3 (xn a))
def tWi (σ : xS) (x top : Int32) : Bool := tWiF σ top 7 x
def tSz (σ : xS) (top : Int32) : Nat := xcn (fun b => tBk σ (nI b) && tWi σ (nI b) top) 40
def tRfF (σ : xS) (n : Int32) : Nat → Int32 → Int32
  | 0, _ => -1
  | f + 1, a => if a = -1 then -1 else if σ 6 (xn a) + n ≤ σ 4 (xn a) then tRfF σ n f (σ 3 (xn a)) else a
def tRf (σ : xS) (x n : Int32) : Int32 := tRfF σ n 7 x
def tAuF (n : Int32) : Nat → Int32 → xS → xS
  | 0, _, σ => σ
  | f + 1, a, σ => if a = -1 then σ else tAuF n f (σ 3 (xn a)) (xu σ 6 (xn a) (σ 6 (xn a) + n))
def tAu (σ : xS) (x n : Int32) : xS := tAuF n 7 x σ
def tOpen (σ : xS) (x above limit : Int32) : xS := xu (xu (xu (xu (xu σ 2 (xn x) 0) 3 (xn x) above) 4 (xn x) limit) 5 (xn x) 0) 6 (xn x) 0
/-- every parent is none or a bank's number -/
def pOK (σ : xS) : Prop := ∀ b, b < 40 → σ 3 b = -1 ∨ vp_in (σ 3 b) 40
section XTree
variable {E : xE} {σ : xS} {x top n : Int32}
theorem c_T_isBank : XC E i_T_isBank 1 0 0 [.ref (xB E + 1), .int x] (xm σ) (xok (some (.int (bz (tBk σ x)))) (xm σ)) := by
  refine XC.ofF (by decide +kernel) cd_T_isBank rfl (xle rfl) ?_
  refine XR.iload_n d_T_isBank_0 rfl ?_
  refine XR.if_lt d_T_isBank_1 (tgt := 24) (by decide) (fun h1 => ?_) (fun h1 => ?_)
  · refine XR.iconst d_T_isBank_24 (v := 0) (by decide) ?_
    refine XR.zret0 d_T_isBank_25 rfl ?_
    exact xok_0 (by simp_all [tBk])
  refine XR.iload_n d_T_isBank_4 rfl ?_
  refine XR.bipush d_T_isBank_5 (v := 40) (by decide) ?_
  refine XR.icmp_ge d_T_isBank_7 (tgt := 24) (by decide) (fun h7 => ?_) (fun h7 => ?_)
  · refine XR.iconst d_T_isBank_24 (v := 0) (by decide) ?_
    refine XR.zret0 d_T_isBank_25 rfl ?_
    exact xok_0 (by simp_all [tBk])
  refine XR.aload_n d_T_isBank_10 rfl ?_
  refine XR.getref d_T_isBank_11 (xle rfl) rfl rfl uin_T (fk := 0) (xle rfl) f_T_9 rfl (xle rfl) ?_
  refine XR.iload_n d_T_isBank_14 rfl ?_
  refine XR.iaload d_T_isBank_15 (xle rfl) (fun _ => rfl) (vp_in_lt h1 h7 (by decide)) ?_
  refine XR.iconst d_T_isBank_16 (v := 3) (by decide) ?_
  refine XR.icmp_eq d_T_isBank_17 (tgt := 24) (by decide) (fun h17 => ?_) (fun h17 => ?_)
  · refine XR.iconst d_T_isBank_24 (v := 0) (by decide) ?_
    refine XR.zret0 d_T_isBank_25 rfl ?_
    exact xok_0 (by simp_all [tBk])
  refine XR.iconst d_T_isBank_20 (v := 1) (by decide) ?_
  refine XR.goto d_T_isBank_21 (tgt := 25) (by decide) ?_
  refine XR.zret1 d_T_isBank_25 rfl ?_
  exact xok_1 (by simp_all [tBk])
theorem c_T_isDying (hx : vp_in x 40) : XC E i_T_isDying 1 0 0 [.ref (xB E + 1), .int x] (xm σ) (xok (some (.int (bz (tDy σ x)))) (xm σ)) := by
  refine XC.ofF (by decide +kernel) cd_T_isDying rfl (xle rfl) ?_
  refine XR.aload_n d_T_isDying_0 rfl ?_
  refine XR.getref d_T_isDying_1 (xle rfl) rfl rfl uin_T (fk := 0) (xle rfl) f_T_9 rfl (xle rfl) ?_
  refine XR.iload_n d_T_isDying_4 rfl ?_
  refine XR.iaload d_T_isDying_5 (xle rfl) (fun _ => rfl) hx ?_
  refine XR.iconst d_T_isDying_6 (v := 2) (by decide) ?_
  refine XR.icmp_ne d_T_isDying_7 (tgt := 14) (by decide) (fun h7 => ?_) (fun h7 => ?_)
  · refine XR.iconst d_T_isDying_14 (v := 0) (by decide) ?_
    refine XR.zret0 d_T_isDying_15 rfl ?_
    exact xok_0 (by simp_all [tDy])
  refine XR.iconst d_T_isDying_10 (v := 1) (by decide) ?_
  refine XR.goto d_T_isDying_11 (tgt := 15) (by decide) ?_
  refine XR.zret1 d_T_isDying_15 rfl ?_
  exact xok_1 (by simp_all [tDy])
theorem c_T_stateOf (hx : vp_in x 40) : XC E i_T_stateOf 1 0 0 [.ref (xB E + 1), .int x] (xm σ) (xok (some (.int (σ 2 (xn x)))) (xm σ)) := by
  refine XC.ofF (by decide +kernel) cd_T_stateOf rfl (xle rfl) ?_
  refine XR.aload_n d_T_stateOf_0 rfl ?_
  refine XR.getref d_T_stateOf_1 (xle rfl) rfl rfl uin_T (fk := 0) (xle rfl) f_T_9 rfl (xle rfl) ?_
  refine XR.iload_n d_T_stateOf_4 rfl ?_
  refine XR.iaload d_T_stateOf_5 (xle rfl) (fun _ => rfl) hx ?_
  refine XR.xreturn d_T_stateOf_6 rfl ?_
  exact ⟨rfl, rfl⟩
theorem c_T_parentOf (hx : vp_in x 40) : XC E i_T_parentOf 1 0 0 [.ref (xB E + 1), .int x] (xm σ) (xok (some (.int (σ 3 (xn x)))) (xm σ)) := by
  refine XC.ofF (by decide +kernel) cd_T_parentOf rfl (xle rfl) ?_
  refine XR.aload_n d_T_parentOf_0 rfl ?_
  refine XR.getref d_T_parentOf_1 (xle rfl) rfl rfl uin_T (fk := 1) (xle rfl) f_T_15 rfl (xle rfl) ?_
  refine XR.iload_n d_T_parentOf_4 rfl ?_
  refine XR.iaload d_T_parentOf_5 (xle rfl) (fun _ => rfl) hx ?_
  refine XR.xreturn d_T_parentOf_6 rfl ?_
  exact ⟨rfl, rfl⟩
theorem c_T_limitOf (hx : vp_in x 40) : XC E i_T_limitOf 1 0 0 [.ref (xB E + 1), .int x] (xm σ) (xok (some (.int (σ 4 (xn x)))) (xm σ)) := by
  refine XC.ofF (by decide +kernel) cd_T_limitOf rfl (xle rfl) ?_
  refine XR.aload_n d_T_limitOf_0 rfl ?_
  refine XR.getref d_T_limitOf_1 (xle rfl) rfl rfl uin_T (fk := 2) (xle rfl) f_T_18 rfl (xle rfl) ?_
  refine XR.iload_n d_T_limitOf_4 rfl ?_
  refine XR.iaload d_T_limitOf_5 (xle rfl) (fun _ => rfl) hx ?_
  refine XR.xreturn d_T_limitOf_6 rfl ?_
  exact ⟨rfl, rfl⟩
theorem c_T_reservedBy (hx : vp_in x 40) : XC E i_T_reservedBy 1 0 0 [.ref (xB E + 1), .int x] (xm σ) (xok (some (.int (σ 5 (xn x)))) (xm σ)) := by
  refine XC.ofF (by decide +kernel) cd_T_reservedBy rfl (xle rfl) ?_
  refine XR.aload_n d_T_reservedBy_0 rfl ?_
  refine XR.getref d_T_reservedBy_1 (xle rfl) rfl rfl uin_T (fk := 3) (xle rfl) f_T_21 rfl (xle rfl) ?_
  refine XR.iload_n d_T_reservedBy_4 rfl ?_
  refine XR.iaload d_T_reservedBy_5 (xle rfl) (fun _ => rfl) hx ?_
  refine XR.xreturn d_T_reservedBy_6 rfl ?_
  exact ⟨rfl, rfl⟩
theorem c_T_useOf (hx : vp_in x 40) : XC E i_T_useOf 1 0 0 [.ref (xB E + 1), .int x] (xm σ) (xok (some (.int (σ 6 (xn x)))) (xm σ)) := by
  refine XC.ofF (by decide +kernel) cd_T_useOf rfl (xle rfl) ?_
  refine XR.aload_n d_T_useOf_0 rfl ?_
  refine XR.getref d_T_useOf_1 (xle rfl) rfl rfl uin_T (fk := 4) (xle rfl) f_T_24 rfl (xle rfl) ?_
  refine XR.iload_n d_T_useOf_4 rfl ?_
  refine XR.iaload d_T_useOf_5 (xle rfl) (fun _ => rfl) hx ?_
  refine XR.xreturn d_T_useOf_6 rfl ?_
  exact ⟨rfl, rfl⟩
theorem c_T_leastUnusedNumber : XC E i_T_leastUnusedNumber 1 0 0 [.ref (xB E + 1)] (xm σ) (xok (some (.int (tLun σ))) (xm σ)) := by
  refine XC.ofF (by decide +kernel) cd_T_leastUnusedNumber rfl (xle rfl) ?_
  have loop : ∀ (f i : Nat), i + f = 40 → XR E i_T_leastUnusedNumber 1 0 0 (xok (some (.int (tLunF σ f i))) (xm σ)) 2 [.ref (xB E + 1), .int (nI i)] [] (xm σ) := by
    intro f
    induction f with
    | zero =>
      intro i hi
      have : i = 40 := by omega
      subst this
      refine XR.iload_n d_T_leastUnusedNumber_2 rfl ?_
      refine XR.bipush d_T_leastUnusedNumber_3 (v := 40) (by decide) ?_
      refine XR.icmp_ge d_T_leastUnusedNumber_5 (tgt := 26) (by decide) (fun _ => ?_) (fun h => absurd (by decide) h)
      refine XR.iconst d_T_leastUnusedNumber_26 (v := -1) (by decide) ?_
      refine XR.xreturn d_T_leastUnusedNumber_27 rfl ?_
      exact ⟨rfl, rfl⟩
    | succ f ih =>
      intro i hi
      refine XR.iload_n d_T_leastUnusedNumber_2 rfl ?_
      refine XR.bipush d_T_leastUnusedNumber_3 (v := 40) (by decide) ?_
      refine XR.icmp_ge d_T_leastUnusedNumber_5 (tgt := 26) (by decide) (fun h => absurd h (nn_le (n := 40) (by omega) (by decide))) (fun _ => ?_)
      refine XR.aload_n d_T_leastUnusedNumber_8 rfl ?_
      refine XR.getref d_T_leastUnusedNumber_9 (xle rfl) rfl rfl uin_T (fk := 0) (xle rfl) f_T_9 rfl (xle rfl) ?_
      refine XR.iload_n d_T_leastUnusedNumber_12 rfl ?_
      refine XR.ialoadN d_T_leastUnusedNumber_13 (xle rfl) (fun _ => rfl) (by omega) (xle rfl) ?_
      refine XR.iconst d_T_leastUnusedNumber_14 (v := 3) (by decide) ?_
      refine XR.icmp_ne d_T_leastUnusedNumber_15 (tgt := 20) (by decide) (fun h15 => ?_) (fun h15 => ?_)
      · refine XR.iincN d_T_leastUnusedNumber_20 rfl (xle rfl) rfl ?_
        refine XR.goto d_T_leastUnusedNumber_23 (tgt := 2) (by decide) ?_
        have e : tLunF σ (f + 1) i = tLunF σ f (i + 1) := by simp_all [tLunF]
        rw [e]
        exact ih (i + 1) (by omega)
      refine XR.iload_n d_T_leastUnusedNumber_18 rfl ?_
      refine XR.xreturn d_T_leastUnusedNumber_19 rfl ?_
      simp_all [xok, tLunF]
  refine XR.iconst d_T_leastUnusedNumber_0 (v := nI 1) (by decide) ?_
  refine XR.istore_n d_T_leastUnusedNumber_1 (xle rfl) rfl ?_
  exact loop 39 1 rfl
theorem c_T_depthOf (hp : pOK σ) (hx : vp_in x 40) : XC E i_T_depthOf 1 0 0 [.ref (xB E + 1), .int x] (xm σ) (xok (some (.int (nI (tDep σ x)))) (xm σ)) := by
  refine XC.ofF (by decide +kernel) cd_T_depthOf rfl (xle rfl) ?_
  have loop : ∀ (f k : Nat) (a : Int32), k + f = 7 → (a = -1 ∨ vp_in a 40) → XR E i_T_depthOf 1 0 0 (xok (some (.int (nI (tDepF σ f a k)))) (xm σ)) 9 [.ref (xB E + 1), .int x, .int (nI k), .int a] [] (xm σ) := by
    intro f
    induction f with
    | zero =>
      intro k a hk ha
      have : k = 7 := by omega
      subst this
      refine XR.iload_n d_T_depthOf_9 rfl ?_
      refine XR.iconst d_T_depthOf_10 (v := -1) (by decide) ?_
      refine XR.icmp_eq d_T_depthOf_11 (tgt := 33) (by decide) (fun h11 => ?_) (fun h11 => ?_)
      · refine XR.iload_n d_T_depthOf_33 rfl ?_
        refine XR.xreturn d_T_depthOf_34 rfl ?_
        exact ⟨rfl, rfl⟩
      refine XR.iload_n d_T_depthOf_14 rfl ?_
      refine XR.bipush d_T_depthOf_15 (v := 6) (by decide) ?_
      refine XR.icmp_gt d_T_depthOf_17 (tgt := 33) (by decide) (fun _ => ?_) (fun h => absurd (by decide) h)
      refine XR.iload_n d_T_depthOf_33 rfl ?_
      refine XR.xreturn d_T_depthOf_34 rfl ?_
      exact ⟨rfl, rfl⟩
    | succ f ih =>
      intro k a hk ha
      refine XR.iload_n d_T_depthOf_9 rfl ?_
      refine XR.iconst d_T_depthOf_10 (v := -1) (by decide) ?_
      refine XR.icmp_eq d_T_depthOf_11 (tgt := 33) (by decide) (fun h11 => ?_) (fun h11 => ?_)
      · refine XR.iload_n d_T_depthOf_33 rfl ?_
        refine XR.xreturn d_T_depthOf_34 rfl ?_
        simp_all [xok, tDepF]
      refine XR.iload_n d_T_depthOf_14 rfl ?_
      refine XR.bipush d_T_depthOf_15 (v := 6) (by decide) ?_
      refine XR.icmp_gt d_T_depthOf_17 (tgt := 33) (by decide) (fun h => absurd h (nI_nlt (a := 6) (b := k) (by omega) (by decide))) (fun _ => ?_)
      refine XR.iincN d_T_depthOf_20 rfl (xle rfl) rfl ?_
      refine XR.aload_n d_T_depthOf_23 rfl ?_
      refine XR.getref d_T_depthOf_24 (xle rfl) rfl rfl uin_T (fk := 1) (xle rfl) f_T_15 rfl (xle rfl) ?_
      refine XR.iload_n d_T_depthOf_27 rfl ?_
      refine XR.iaload d_T_depthOf_28 (xle rfl) (fun _ => rfl) (ha.resolve_left h11) ?_
      refine XR.istore_n d_T_depthOf_29 (xle rfl) rfl ?_
      refine XR.goto d_T_depthOf_30 (tgt := 9) (by decide) ?_
      have e : tDepF σ (f + 1) a k = tDepF σ f (σ 3 (xn a)) (k + 1) := by simp_all [tDepF]
      rw [e]
      exact ih (k + 1) _ (by omega) (hp _ (vp_in_xn (ha.resolve_left h11)))
  refine XR.iconst d_T_depthOf_0 (v := nI 0) (by decide) ?_
  refine XR.istore_n d_T_depthOf_1 (xle rfl) rfl ?_
  refine XR.aload_n d_T_depthOf_2 rfl ?_
  refine XR.getref d_T_depthOf_3 (xle rfl) rfl rfl uin_T (fk := 1) (xle rfl) f_T_15 rfl (xle rfl) ?_
  refine XR.iload_n d_T_depthOf_6 rfl ?_
  refine XR.iaload d_T_depthOf_7 (xle rfl) (fun _ => rfl) hx ?_
  refine XR.istore_n d_T_depthOf_8 (xle rfl) rfl ?_
  exact loop 7 0 _ rfl (hp _ (vp_in_xn hx))
theorem c_T_isWithin (hp : pOK σ) (hx : x = -1 ∨ vp_in x 40) : XC E i_T_isWithin 1 0 0 [.ref (xB E + 1), .int x, .int top] (xm σ) (xok (some (.int (bz (tWi σ x top)))) (xm σ)) := by
  refine XC.ofF (by decide +kernel) cd_T_isWithin rfl (xle rfl) ?_
  have loop : ∀ (f k : Nat) (a : Int32), k + f = 7 → (a = -1 ∨ vp_in a 40) → XR E i_T_isWithin 1 0 0 (xok (some (.int (bz (tWiF σ top f a)))) (xm σ)) 5 [.ref (xB E + 1), .int x, .int top, .int a, .int (nI k)] [] (xm σ) := by
    intro f
    induction f with
    | zero =>
      intro k a hk ha
      have : k = 7 := by omega
      subst this
      refine XR.iload d_T_isWithin_5 rfl ?_
      refine XR.bipush d_T_isWithin_7 (v := 6) (by decide) ?_
      refine XR.icmp_gt d_T_isWithin_9 (tgt := 37) (by decide) (fun _ => ?_) (fun h => absurd (by decide) h)
      refine XR.iconst d_T_isWithin_37 (v := 0) (by decide) ?_
      refine XR.zret0 d_T_isWithin_38 rfl ?_
      exact xok_0 rfl
    | succ f ih =>
      intro k a hk ha
      refine XR.iload d_T_isWithin_5 rfl ?_
      refine XR.bipush d_T_isWithin_7 (v := 6) (by decide) ?_
      refine XR.icmp_gt d_T_isWithin_9 (tgt := 37) (by decide) (fun h => absurd h (nI_nlt (a := 6) (b := k) (by omega) (by decide))) (fun _ => ?_)
      refine XR.iload_n d_T_isWithin_12 rfl ?_
      refine XR.iconst d_T_isWithin_13 (v := -1) (by decide) ?_
      refine XR.icmp_eq d_T_isWithin_14 (tgt := 37) (by decide) (fun h14 => ?_) (fun h14 => ?_)
      · refine XR.iconst d_T_isWithin_37 (v := 0) (by decide) ?_
        refine XR.zret0 d_T_isWithin_38 rfl ?_
        exact xok_0 (by simp_all [tWiF])
      refine XR.iload_n d_T_isWithin_17 rfl ?_
      refine XR.iload_n d_T_isWithin_18 rfl ?_
      refine XR.icmp_ne d_T_isWithin_19 (tgt := 24) (by decide) (fun h19 => ?_) (fun h19 => ?_)
      · refine XR.aload_n d_T_isWithin_24 rfl ?_
        refine XR.getref d_T_isWithin_25 (xle rfl) rfl rfl uin_T (fk := 1) (xle rfl) f_T_15 rfl (xle rfl) ?_
        refine XR.iload_n d_T_isWithin_28 rfl ?_
        refine XR.iaload d_T_isWithin_29 (xle rfl) (fun _ => rfl) (ha.resolve_left h14) ?_
        refine XR.istore_n d_T_isWithin_30 (xle rfl) rfl ?_
        refine XR.iincN d_T_isWithin_31 rfl (xle rfl) rfl ?_
        refine XR.goto d_T_isWithin_34 (tgt := 5) (by decide) ?_
        have e : tWiF σ top (f + 1) a = tWiF σ top f (σ 3 (xn a)) := by simp_all [tWiF]
        rw [e]
        exact ih (k + 1) _ (by omega) (hp _ (vp_in_xn (ha.resolve_left h14)))
      refine XR.iconst d_T_isWithin_22 (v := 1) (by decide) ?_
      refine XR.zret1 d_T_isWithin_23 rfl ?_
      exact xok_1 (by simp_all [tWiF])
  refine XR.iload_n d_T_isWithin_0 rfl ?_
  refine XR.istore_n d_T_isWithin_1 (xle rfl) rfl ?_
  refine XR.iconst d_T_isWithin_2 (v := nI 0) (by decide) ?_
  refine XR.istore d_T_isWithin_3 (xle rfl) rfl ?_
  exact loop 7 0 _ rfl hx
theorem c_T_subtreeSize (hp : pOK σ) : XC E i_T_subtreeSize 2 0 0 [.ref (xB E + 1), .int top] (xm σ) (xok (some (.int (nI (tSz σ top)))) (xm σ)) := by
  refine XC.ofF (by decide +kernel) cd_T_subtreeSize rfl (xle rfl) ?_
  have loop : ∀ (f i k : Nat), i + f = 40 → k = xcn (fun b => tBk σ (nI b) && tWi σ (nI b) top) i → XR E i_T_subtreeSize 2 0 0 (xok (some (.int (nI (tSz σ top)))) (xm σ)) 4 [.ref (xB E + 1), .int top, .int (nI k), .int (nI i)] [] (xm σ) := by
    intro f
    induction f with
    | zero =>
      intro i k hi hk
      have : i = 40 := by omega
      subst this; subst hk
      refine XR.iload_n d_T_subtreeSize_4 rfl ?_
      refine XR.bipush d_T_subtreeSize_5 (v := 40) (by decide) ?_
      refine XR.icmp_ge d_T_subtreeSize_7 (tgt := 36) (by decide) (fun _ => ?_) (fun h => absurd (by decide) h)
      refine XR.iload_n d_T_subtreeSize_36 rfl ?_
      refine XR.xreturn d_T_subtreeSize_37 rfl ?_
      exact ⟨rfl, rfl⟩
    | succ f ih =>
      intro i k hi hk
      refine XR.iload_n d_T_subtreeSize_4 rfl ?_
      refine XR.bipush d_T_subtreeSize_5 (v := 40) (by decide) ?_
      refine XR.icmp_ge d_T_subtreeSize_7 (tgt := 36) (by decide) (fun h => absurd h (nn_le (n := 40) (by omega) (by decide))) (fun _ => ?_)
      refine XR.aload_n d_T_subtreeSize_10 rfl ?_
      refine XR.iload_n d_T_subtreeSize_11 rfl ?_
      refine XR.cV d_T_subtreeSize_12 l_T_33 kv_T_isBank (c_T_isBank) rfl (xle rfl) rfl rfl (xle rfl) (xle rfl) ?_
      refine XR.if_eq d_T_subtreeSize_15 (tgt := 30) (by decide) (fun h15 => ?_) (fun h15 => ?_)
      · refine XR.iincN d_T_subtreeSize_30 rfl (xle rfl) rfl ?_
        refine XR.goto d_T_subtreeSize_33 (tgt := 4) (by decide) ?_
        exact ih (i + 1) _ (by omega) (by simp_all [xcn, bz_z])
      refine XR.aload_n d_T_subtreeSize_18 rfl ?_
      refine XR.iload_n d_T_subtreeSize_19 rfl ?_
      refine XR.iload_n d_T_subtreeSize_20 rfl ?_
      refine XR.cV d_T_subtreeSize_21 l_T_37 kv_T_isWithin (c_T_isWithin hp (Or.inr (vp_in_nI (by omega) (by decide)))) rfl (xle rfl) rfl rfl (xle rfl) (xle rfl) ?_
      refine XR.if_eq d_T_subtreeSize_24 (tgt := 30) (by decide) (fun h24 => ?_) (fun h24 => ?_)
      · refine XR.iincN d_T_subtreeSize_30 rfl (xle rfl) rfl ?_
        refine XR.goto d_T_subtreeSize_33 (tgt := 4) (by decide) ?_
        exact ih (i + 1) _ (by omega) (by simp_all [xcn, bz_z])
      refine XR.iincN d_T_subtreeSize_27 rfl (xle rfl) rfl ?_
      refine XR.iincN d_T_subtreeSize_30 rfl (xle rfl) rfl ?_
      refine XR.goto d_T_subtreeSize_33 (tgt := 4) (by decide) ?_
      exact ih (i + 1) _ (by omega) (by simp_all [xcn, bz_z])
  refine XR.iconst d_T_subtreeSize_0 (v := nI 0) (by decide) ?_
  refine XR.istore_n d_T_subtreeSize_1 (xle rfl) rfl ?_
  refine XR.iconst d_T_subtreeSize_2 (v := nI 0) (by decide) ?_
  refine XR.istore_n d_T_subtreeSize_3 (xle rfl) rfl ?_
  exact loop 40 0 0 rfl rfl
theorem c_T_refuserOf (hp : pOK σ) (hx : x = -1 ∨ vp_in x 40) : XC E i_T_refuserOf 1 0 0 [.ref (xB E + 1), .int x, .int n] (xm σ) (xok (some (.int (tRf σ x n))) (xm σ)) := by
  refine XC.ofF (by decide +kernel) cd_T_refuserOf rfl (xle rfl) ?_
  have loop : ∀ (f k : Nat) (a : Int32), k + f = 7 → (a = -1 ∨ vp_in a 40) → XR E i_T_refuserOf 1 0 0 (xok (some (.int (tRfF σ n f a))) (xm σ)) 5 [.ref (xB E + 1), .int x, .int n, .int a, .int (nI k)] [] (xm σ) := by
    intro f
    induction f with
    | zero =>
      intro k a hk ha
      have : k = 7 := by omega
      subst this
      refine XR.iload d_T_refuserOf_5 rfl ?_
      refine XR.bipush d_T_refuserOf_7 (v := 6) (by decide) ?_
      refine XR.icmp_gt d_T_refuserOf_9 (tgt := 49) (by decide) (fun _ => ?_) (fun h => absurd (by decide) h)
      refine XR.iconst d_T_refuserOf_49 (v := -1) (by decide) ?_
      refine XR.xreturn d_T_refuserOf_50 rfl ?_
      exact ⟨rfl, rfl⟩
    | succ f ih =>
      intro k a hk ha
      refine XR.iload d_T_refuserOf_5 rfl ?_
      refine XR.bipush d_T_refuserOf_7 (v := 6) (by decide) ?_
      refine XR.icmp_gt d_T_refuserOf_9 (tgt := 49) (by decide) (fun h => absurd h (nI_nlt (a := 6) (b := k) (by omega) (by decide))) (fun _ => ?_)
      refine XR.iload_n d_T_refuserOf_12 rfl ?_
      refine XR.iconst d_T_refuserOf_13 (v := -1) (by decide) ?_
      refine XR.icmp_eq d_T_refuserOf_14 (tgt := 49) (by decide) (fun h14 => ?_) (fun h14 => ?_)
      · refine XR.iconst d_T_refuserOf_49 (v := -1) (by decide) ?_
        refine XR.xreturn d_T_refuserOf_50 rfl ?_
        exact ⟨by simp only [tRfF, if_pos h14], rfl⟩
      refine XR.aload_n d_T_refuserOf_17 rfl ?_
      refine XR.getref d_T_refuserOf_18 (xle rfl) rfl rfl uin_T (fk := 4) (xle rfl) f_T_24 rfl (xle rfl) ?_
      refine XR.iload_n d_T_refuserOf_21 rfl ?_
      refine XR.iaload d_T_refuserOf_22 (xle rfl) (fun _ => rfl) (ha.resolve_left h14) ?_
      refine XR.iload_n d_T_refuserOf_23 rfl ?_
      refine XR.iadd d_T_refuserOf_24 ?_
      refine XR.aload_n d_T_refuserOf_25 rfl ?_
      refine XR.getref d_T_refuserOf_26 (xle rfl) rfl rfl uin_T (fk := 2) (xle rfl) f_T_18 rfl (xle rfl) ?_
      refine XR.iload_n d_T_refuserOf_29 rfl ?_
      refine XR.iaload d_T_refuserOf_30 (xle rfl) (fun _ => rfl) (ha.resolve_left h14) ?_
      refine XR.icmp_le d_T_refuserOf_31 (tgt := 36) (by decide) (fun h31 => ?_) (fun h31 => ?_)
      · refine XR.aload_n d_T_refuserOf_36 rfl ?_
        refine XR.getref d_T_refuserOf_37 (xle rfl) rfl rfl uin_T (fk := 1) (xle rfl) f_T_15 rfl (xle rfl) ?_
        refine XR.iload_n d_T_refuserOf_40 rfl ?_
        refine XR.iaload d_T_refuserOf_41 (xle rfl) (fun _ => rfl) (ha.resolve_left h14) ?_
        refine XR.istore_n d_T_refuserOf_42 (xle rfl) rfl ?_
        refine XR.iincN d_T_refuserOf_43 rfl (xle rfl) rfl ?_
        refine XR.goto d_T_refuserOf_46 (tgt := 5) (by decide) ?_
        have e : tRfF σ n (f + 1) a = tRfF σ n f (σ 3 (xn a)) := by simp_all [tRfF]
        rw [e]
        exact ih (k + 1) _ (by omega) (hp _ (vp_in_xn (ha.resolve_left h14)))
      refine XR.iload_n d_T_refuserOf_34 rfl ?_
      refine XR.xreturn d_T_refuserOf_35 rfl ?_
      exact ⟨by simp only [tRfF, if_neg h14, if_neg h31], rfl⟩
  refine XR.iload_n d_T_refuserOf_0 rfl ?_
  refine XR.istore_n d_T_refuserOf_1 (xle rfl) rfl ?_
  refine XR.iconst d_T_refuserOf_2 (v := nI 0) (by decide) ?_
  refine XR.istore d_T_refuserOf_3 (xle rfl) rfl ?_
  exact loop 7 0 _ rfl hx
theorem c_T_addUse (hp : pOK σ) (hx : x = -1 ∨ vp_in x 40) : XC E i_T_addUse 1 0 0 [.ref (xB E + 1), .int x, .int n] (xm σ) (xok none (xm (tAu σ x n))) := by
  refine XC.ofF (by decide +kernel) cd_T_addUse rfl (xle rfl) ?_
  have loop : ∀ (f k : Nat) (a : Int32) (τ : xS), k + f = 7 → pOK τ → (a = -1 ∨ vp_in a 40) → XR E i_T_addUse 1 0 0 (xok none (xm (tAuF n f a τ))) 5 [.ref (xB E + 1), .int x, .int n, .int a, .int (nI k)] [] (xm τ) := by
    intro f
    induction f with
    | zero =>
      intro k a τ hk hp ha
      have : k = 7 := by omega
      subst this
      refine XR.iload d_T_addUse_5 rfl ?_
      refine XR.bipush d_T_addUse_7 (v := 6) (by decide) ?_
      refine XR.icmp_gt d_T_addUse_9 (tgt := 40) (by decide) (fun _ => ?_) (fun h => absurd (by decide) h)
      refine XR.return_ d_T_addUse_40 rfl ?_
      exact ⟨rfl, rfl⟩
    | succ f ih =>
      intro k a τ hk hp ha
      refine XR.iload d_T_addUse_5 rfl ?_
      refine XR.bipush d_T_addUse_7 (v := 6) (by decide) ?_
      refine XR.icmp_gt d_T_addUse_9 (tgt := 40) (by decide) (fun h => absurd h (nI_nlt (a := 6) (b := k) (by omega) (by decide))) (fun _ => ?_)
      refine XR.iload_n d_T_addUse_12 rfl ?_
      refine XR.iconst d_T_addUse_13 (v := -1) (by decide) ?_
      refine XR.icmp_eq d_T_addUse_14 (tgt := 40) (by decide) (fun h14 => ?_) (fun h14 => ?_)
      · refine XR.return_ d_T_addUse_40 rfl ?_
        simp_all [xok, tAuF]
      refine XR.aload_n d_T_addUse_17 rfl ?_
      refine XR.getref d_T_addUse_18 (xle rfl) rfl rfl uin_T (fk := 4) (xle rfl) f_T_24 rfl (xle rfl) ?_
      refine XR.iload_n d_T_addUse_21 rfl ?_
      refine XR.dup2 d_T_addUse_22 rfl rfl ?_
      refine XR.iaload d_T_addUse_23 (xle rfl) (fun _ => rfl) (ha.resolve_left h14) ?_
      refine XR.iload_n d_T_addUse_24 rfl ?_
      refine XR.iadd d_T_addUse_25 ?_
      refine XR.iastore d_T_addUse_26 (xle rfl) (fun _ => rfl) (ha.resolve_left h14) ?_
      refine XR.aload_n d_T_addUse_27 rfl ?_
      refine XR.getref d_T_addUse_28 (xle rfl) rfl rfl uin_T (fk := 1) (xle rfl) f_T_15 rfl (xle rfl) ?_
      refine XR.iload_n d_T_addUse_31 rfl ?_
      refine XR.iaload d_T_addUse_32 (xle rfl) (fun _ => rfl) (ha.resolve_left h14) ?_
      refine XR.istore_n d_T_addUse_33 (xle rfl) rfl ?_
      refine XR.iincN d_T_addUse_34 rfl (xle rfl) rfl ?_
      refine XR.goto d_T_addUse_37 (tgt := 5) (by decide) ?_
      have e : tAuF n (f + 1) a τ = tAuF n f (τ 3 (xn a)) (xu τ 6 (xn a) (τ 6 (xn a) + n)) := by simp_all [tAuF]
      rw [e]
      exact ih (k + 1) _ _ (by omega) hp (hp _ (vp_in_xn (ha.resolve_left h14)))
  refine XR.iload_n d_T_addUse_0 rfl ?_
  refine XR.istore_n d_T_addUse_1 (xle rfl) rfl ?_
  refine XR.iconst d_T_addUse_2 (v := nI 0) (by decide) ?_
  refine XR.istore d_T_addUse_3 (xle rfl) rfl ?_
  exact loop 7 0 _ _ rfl hp hx
theorem c_T_addReserved (hx : vp_in x 40) : XC E i_T_addReserved 1 0 0 [.ref (xB E + 1), .int x, .int n] (xm σ) (xok none (xm (xu σ 5 (xn x) (σ 5 (xn x) + n)))) := by
  refine XC.ofF (by decide +kernel) cd_T_addReserved rfl (xle rfl) ?_
  refine XR.aload_n d_T_addReserved_0 rfl ?_
  refine XR.getref d_T_addReserved_1 (xle rfl) rfl rfl uin_T (fk := 3) (xle rfl) f_T_21 rfl (xle rfl) ?_
  refine XR.iload_n d_T_addReserved_4 rfl ?_
  refine XR.dup2 d_T_addReserved_5 rfl rfl ?_
  refine XR.iaload d_T_addReserved_6 (xle rfl) (fun _ => rfl) hx ?_
  refine XR.iload_n d_T_addReserved_7 rfl ?_
  refine XR.iadd d_T_addReserved_8 ?_
  refine XR.iastore d_T_addReserved_9 (xle rfl) (fun _ => rfl) hx ?_
  refine XR.return_ d_T_addReserved_10 rfl ?_
  exact ⟨rfl, rfl⟩
theorem c_T_replaceLimit (hx : vp_in x 40) : XC E i_T_replaceLimit 1 0 0 [.ref (xB E + 1), .int x, .int n] (xm σ) (xok (some (.int (σ 4 (xn x)))) (xm (xu σ 4 (xn x) n))) := by
  refine XC.ofF (by decide +kernel) cd_T_replaceLimit rfl (xle rfl) ?_
  refine XR.aload_n d_T_replaceLimit_0 rfl ?_
  refine XR.getref d_T_replaceLimit_1 (xle rfl) rfl rfl uin_T (fk := 2) (xle rfl) f_T_18 rfl (xle rfl) ?_
  refine XR.iload_n d_T_replaceLimit_4 rfl ?_
  refine XR.iaload d_T_replaceLimit_5 (xle rfl) (fun _ => rfl) hx ?_
  refine XR.istore_n d_T_replaceLimit_6 (xle rfl) rfl ?_
  refine XR.aload_n d_T_replaceLimit_7 rfl ?_
  refine XR.getref d_T_replaceLimit_8 (xle rfl) rfl rfl uin_T (fk := 2) (xle rfl) f_T_18 rfl (xle rfl) ?_
  refine XR.iload_n d_T_replaceLimit_11 rfl ?_
  refine XR.iload_n d_T_replaceLimit_12 rfl ?_
  refine XR.iastore d_T_replaceLimit_13 (xle rfl) (fun _ => rfl) hx ?_
  refine XR.iload_n d_T_replaceLimit_14 rfl ?_
  refine XR.xreturn d_T_replaceLimit_15 rfl ?_
  exact ⟨rfl, rfl⟩
theorem c_T_replaceState (hx : vp_in x 40) : XC E i_T_replaceState 1 0 0 [.ref (xB E + 1), .int x, .int n] (xm σ) (xok (some (.int (σ 2 (xn x)))) (xm (xu σ 2 (xn x) n))) := by
  refine XC.ofF (by decide +kernel) cd_T_replaceState rfl (xle rfl) ?_
  refine XR.aload_n d_T_replaceState_0 rfl ?_
  refine XR.getref d_T_replaceState_1 (xle rfl) rfl rfl uin_T (fk := 0) (xle rfl) f_T_9 rfl (xle rfl) ?_
  refine XR.iload_n d_T_replaceState_4 rfl ?_
  refine XR.iaload d_T_replaceState_5 (xle rfl) (fun _ => rfl) hx ?_
  refine XR.istore_n d_T_replaceState_6 (xle rfl) rfl ?_
  refine XR.aload_n d_T_replaceState_7 rfl ?_
  refine XR.getref d_T_replaceState_8 (xle rfl) rfl rfl uin_T (fk := 0) (xle rfl) f_T_9 rfl (xle rfl) ?_
  refine XR.iload_n d_T_replaceState_11 rfl ?_
  refine XR.iload_n d_T_replaceState_12 rfl ?_
  refine XR.iastore d_T_replaceState_13 (xle rfl) (fun _ => rfl) hx ?_
  refine XR.iload_n d_T_replaceState_14 rfl ?_
  refine XR.xreturn d_T_replaceState_15 rfl ?_
  exact ⟨rfl, rfl⟩
theorem c_T_open {above limit : Int32} (hx : vp_in x 40) : XC E i_T_open 1 0 0 [.ref (xB E + 1), .int x, .int above, .int limit] (xm σ) (xok none (xm (tOpen σ x above limit))) := by
  refine XC.ofF (by decide +kernel) cd_T_open rfl (xle rfl) ?_
  refine XR.aload_n d_T_open_0 rfl ?_
  refine XR.getref d_T_open_1 (xle rfl) rfl rfl uin_T (fk := 0) (xle rfl) f_T_9 rfl (xle rfl) ?_
  refine XR.iload_n d_T_open_4 rfl ?_
  refine XR.iconst d_T_open_5 (v := 0) (by decide) ?_
  refine XR.iastore d_T_open_6 (xle rfl) (fun _ => rfl) hx ?_
  refine XR.aload_n d_T_open_7 rfl ?_
  refine XR.getref d_T_open_8 (xle rfl) rfl rfl uin_T (fk := 1) (xle rfl) f_T_15 rfl (xle rfl) ?_
  refine XR.iload_n d_T_open_11 rfl ?_
  refine XR.iload_n d_T_open_12 rfl ?_
  refine XR.iastore d_T_open_13 (xle rfl) (fun _ => rfl) hx ?_
  refine XR.aload_n d_T_open_14 rfl ?_
  refine XR.getref d_T_open_15 (xle rfl) rfl rfl uin_T (fk := 2) (xle rfl) f_T_18 rfl (xle rfl) ?_
  refine XR.iload_n d_T_open_18 rfl ?_
  refine XR.iload_n d_T_open_19 rfl ?_
  refine XR.iastore d_T_open_20 (xle rfl) (fun _ => rfl) hx ?_
  refine XR.aload_n d_T_open_21 rfl ?_
  refine XR.getref d_T_open_22 (xle rfl) rfl rfl uin_T (fk := 3) (xle rfl) f_T_21 rfl (xle rfl) ?_
  refine XR.iload_n d_T_open_25 rfl ?_
  refine XR.iconst d_T_open_26 (v := 0) (by decide) ?_
  refine XR.iastore d_T_open_27 (xle rfl) (fun _ => rfl) hx ?_
  refine XR.aload_n d_T_open_28 rfl ?_
  refine XR.getref d_T_open_29 (xle rfl) rfl rfl uin_T (fk := 4) (xle rfl) f_T_24 rfl (xle rfl) ?_
  refine XR.iload_n d_T_open_32 rfl ?_
  refine XR.iconst d_T_open_33 (v := 0) (by decide) ?_
  refine XR.iastore d_T_open_34 (xle rfl) (fun _ => rfl) hx ?_
  refine XR.return_ d_T_open_35 rfl ?_
  exact ⟨rfl, rfl⟩
end XTree
end
section
/-! the tree's loops over all banks -/
def tCdF (top : Int32) : Nat → Nat → xS → xS
  | 0, _, σ => σ
  | f + 1, i, σ => tCdF top f (i + 1) (if tBk σ (nI i) && tWi σ (nI i) top then xu (tAu (xu σ 2 i 2) (nI i) (-(σ 5 i))) 5 i 0 else σ)
def tCd (σ : xS) (top : Int32) : xS := tCdF top 40 0 σ
def tClF : Nat → Nat → xS → xS
  | 0, _, σ => σ
  | f + 1, i, σ => tClF f (i + 1) (if σ 2 i = 2 ∧ σ 6 i = 0 then xu σ 2 i 3 else σ)
def tCl (σ : xS) : xS := tClF 40 0 σ
def tMgF (gone heir : Int32) : Nat → Nat → xS → xS
  | 0, _, σ => σ
  | f + 1, i, σ => tMgF gone heir f (i + 1) (if tBk σ (nI i) = true ∧ σ 3 i = gone then xu σ 3 i heir else σ)
def tMg (σ : xS) (gone : Int32) : xS :=
  tMgF gone (σ 3 (xn gone)) 40 0 (xu (xu σ 5 (xn (σ 3 (xn gone))) (σ 5 (xn (σ 3 (xn gone))) + σ 5 (xn gone))) 2 (xn gone) 3)
def tChF (σ : xS) (b : Int32) : Nat → Nat → Int32 → Int32
  | 0, _, s => s
  | f + 1, i, s => tChF σ b f (i + 1) (if tBk σ (nI i) = true ∧ σ 3 i = b then s + σ 6 i else s)
def tStray (σ : xS) (b owned : Int32) : Bool :=
  !(tChF σ b 40 0 (owned + σ 5 (xn b)) == σ 6 (xn b)) || decide (σ 4 (xn b) < σ 6 (xn b)) || !tWi σ b 0
theorem xu_3 {σ : xS} {i : Nat} {v : Int32} : xu σ 2 i v 3 = σ 3 := xu_other (by decide)
theorem tAuF_other {n : Int32} {q : Nat} (hq : q ≠ 6) : ∀ (f : Nat) (a : Int32) (σ : xS), tAuF n f a σ q = σ q
  | 0, _, _ => rfl
  | f + 1, a, σ => by
    simp only [tAuF]
    split
    · rfl
    · rw [tAuF_other hq f _ _, xu_other hq]
theorem tAu_other {σ : xS} {x n : Int32} {q : Nat} (hq : q ≠ 6) : tAu σ x n q = σ q := tAuF_other hq 7 x σ
theorem pOK.of {σ τ : xS} (h : pOK σ) (e : τ 3 = σ 3) : pOK τ := fun b hb => by rw [e]; exact h b hb
section XTree2
variable {E : xE} {σ : xS} {x top n : Int32}
theorem c_T_condemn (hp : pOK σ) : XC E i_T_condemn 2 0 0 [.ref (xB E + 1), .int top] (xm σ) (xok none (xm (tCd σ top))) := by
  refine XC.ofF (by decide +kernel) cd_T_condemn rfl (xle rfl) ?_
  have loop : ∀ (f i : Nat) (τ : xS), i + f = 40 → pOK τ → XR E i_T_condemn 2 0 0 (xok none (xm (tCdF top f i τ))) 2 [.ref (xB E + 1), .int top, .int (nI i)] [] (xm τ) := by
    intro f
    induction f with
    | zero =>
      intro i τ hi hp
      have : i = 40 := by omega
      subst this
      refine XR.iload_n d_T_condemn_2 rfl ?_
      refine XR.bipush d_T_condemn_3 (v := 40) (by decide) ?_
      refine XR.icmp_ge d_T_condemn_5 (tgt := 57) (by decide) (fun _ => ?_) (fun h => absurd (by decide) h)
      refine XR.return_ d_T_condemn_57 rfl ?_
      exact ⟨rfl, rfl⟩
    | succ f ih =>
      intro i τ hi hp
      have hi40 : vp_in (nI i) 40 := vp_in_nI (by omega) (by decide)
      have ei : xn (nI i) = i := nI_clamp (by omega)
      have e1 : ¬ (tBk τ (nI i) && tWi τ (nI i) top) = true → tCdF top (f + 1) i τ = tCdF top f (i + 1) τ := fun h => by simp only [tCdF, if_neg h]
      have e2 : (tBk τ (nI i) && tWi τ (nI i) top) = true → tCdF top (f + 1) i τ = tCdF top f (i + 1) (xu (tAu (xu τ 2 i 2) (nI i) (-(τ 5 i))) 5 i 0) := fun h => by simp only [tCdF, if_pos h]
      have hp2 : pOK (xu (tAu (xu τ 2 i 2) (nI i) (-(τ 5 i))) 5 i 0) := hp.of (by rw [xu_other (by decide), tAu_other (by decide), xu_other (by decide)])
      refine XR.iload_n d_T_condemn_2 rfl ?_
      refine XR.bipush d_T_condemn_3 (v := 40) (by decide) ?_
      refine XR.icmp_ge d_T_condemn_5 (tgt := 57) (by decide) (fun h => absurd h (nn_le (n := 40) (by omega) (by decide))) (fun _ => ?_)
      refine XR.aload_n d_T_condemn_8 rfl ?_
      refine XR.iload_n d_T_condemn_9 rfl ?_
      refine XR.cV d_T_condemn_10 l_T_33 kv_T_isBank (c_T_isBank) rfl (xle rfl) rfl rfl (xle rfl) (xle rfl) ?_
      refine XR.if_eq d_T_condemn_13 (tgt := 51) (by decide) (fun h13 => ?_) (fun h13 => ?_)
      · refine XR.iincN d_T_condemn_51 rfl (xle rfl) rfl ?_
        refine XR.goto d_T_condemn_54 (tgt := 2) (by decide) ?_
        first | (rw [e1 (by simp_all [bz_z])]; exact ih (i + 1) _ (by omega) hp) | (rw [e2 (by simp_all [bz_z])]; exact ih (i + 1) _ (by omega) hp2)
      refine XR.aload_n d_T_condemn_16 rfl ?_
      refine XR.iload_n d_T_condemn_17 rfl ?_
      refine XR.iload_n d_T_condemn_18 rfl ?_
      refine XR.cV d_T_condemn_19 l_T_37 kv_T_isWithin (c_T_isWithin hp (Or.inr hi40)) rfl (xle rfl) rfl rfl (xle rfl) (xle rfl) ?_
      refine XR.if_eq d_T_condemn_22 (tgt := 51) (by decide) (fun h22 => ?_) (fun h22 => ?_)
      · refine XR.iincN d_T_condemn_51 rfl (xle rfl) rfl ?_
        refine XR.goto d_T_condemn_54 (tgt := 2) (by decide) ?_
        first | (rw [e1 (by simp_all [bz_z])]; exact ih (i + 1) _ (by omega) hp) | (rw [e2 (by simp_all [bz_z])]; exact ih (i + 1) _ (by omega) hp2)
      refine XR.aload_n d_T_condemn_25 rfl ?_
      refine XR.getref d_T_condemn_26 (xle rfl) rfl rfl uin_T (fk := 0) (xle rfl) f_T_9 rfl (xle rfl) ?_
      refine XR.iload_n d_T_condemn_29 rfl ?_
      refine XR.iconst d_T_condemn_30 (v := 2) (by decide) ?_
      refine XR.iastoreN d_T_condemn_31 (xle rfl) (fun _ => rfl) (by omega) (xle rfl) ?_
      refine XR.aload_n d_T_condemn_32 rfl ?_
      refine XR.iload_n d_T_condemn_33 rfl ?_
      refine XR.aload_n d_T_condemn_34 rfl ?_
      refine XR.getref d_T_condemn_35 (xle rfl) rfl rfl uin_T (fk := 3) (xle rfl) f_T_21 rfl (xle rfl) ?_
      refine XR.iload_n d_T_condemn_38 rfl ?_
      refine XR.ialoadN d_T_condemn_39 (xle rfl) (fun _ => rfl) (by omega) (xle rfl) ?_
      refine XR.ineg d_T_condemn_40 ?_
      refine XR.cV d_T_condemn_41 l_T_41 kv_T_addUse (c_T_addUse (hp.of xu_3) (Or.inr hi40)) rfl (xle rfl) rfl rfl (xle rfl) (xle rfl) ?_
      refine XR.aload_n d_T_condemn_44 rfl ?_
      refine XR.getref d_T_condemn_45 (xle rfl) rfl rfl uin_T (fk := 3) (xle rfl) f_T_21 rfl (xle rfl) ?_
      refine XR.iload_n d_T_condemn_48 rfl ?_
      refine XR.iconst d_T_condemn_49 (v := 0) (by decide) ?_
      refine XR.iastoreN d_T_condemn_50 (xle rfl) (fun _ => rfl) (by omega) (xle rfl) ?_
      refine XR.iincN d_T_condemn_51 rfl (xle rfl) rfl ?_
      refine XR.goto d_T_condemn_54 (tgt := 2) (by decide) ?_
      first | (rw [e1 (by simp_all [bz_z])]; exact ih (i + 1) _ (by omega) hp) | (rw [e2 (by simp_all [bz_z])]; exact ih (i + 1) _ (by omega) hp2)
  refine XR.iconst d_T_condemn_0 (v := nI 0) (by decide) ?_
  refine XR.istore_n d_T_condemn_1 (xle rfl) rfl ?_
  exact loop 40 0 σ rfl hp
theorem c_T_closeEmptyDying : XC E i_T_closeEmptyDying 2 0 0 [.ref (xB E + 1)] (xm σ) (xok none (xm (tCl σ))) := by
  refine XC.ofF (by decide +kernel) cd_T_closeEmptyDying rfl (xle rfl) ?_
  have loop : ∀ (f i : Nat) (τ : xS), i + f = 40 → XR E i_T_closeEmptyDying 2 0 0 (xok none (xm (tClF f i τ))) 2 [.ref (xB E + 1), .int (nI i)] [] (xm τ) := by
    intro f
    induction f with
    | zero =>
      intro i τ hi
      have : i = 40 := by omega
      subst this
      refine XR.iload_n d_T_closeEmptyDying_2 rfl ?_
      refine XR.bipush d_T_closeEmptyDying_3 (v := 40) (by decide) ?_
      refine XR.icmp_ge d_T_closeEmptyDying_5 (tgt := 38) (by decide) (fun _ => ?_) (fun h => absurd (by decide) h)
      refine XR.return_ d_T_closeEmptyDying_38 rfl ?_
      exact ⟨rfl, rfl⟩
    | succ f ih =>
      intro i τ hi
      have hi40 : vp_in (nI i) 40 := vp_in_nI (by omega) (by decide)
      have ei : xn (nI i) = i := nI_clamp (by omega)
      have e1 : ¬ (τ 2 i = 2 ∧ τ 6 i = 0) → tClF (f + 1) i τ = tClF f (i + 1) τ := fun h => by simp only [tClF, if_neg h]
      have e2 : (τ 2 i = 2 ∧ τ 6 i = 0) → tClF (f + 1) i τ = tClF f (i + 1) (xu τ 2 i 3) := fun h => by simp only [tClF, if_pos h]
      refine XR.iload_n d_T_closeEmptyDying_2 rfl ?_
      refine XR.bipush d_T_closeEmptyDying_3 (v := 40) (by decide) ?_
      refine XR.icmp_ge d_T_closeEmptyDying_5 (tgt := 38) (by decide) (fun h => absurd h (nn_le (n := 40) (by omega) (by decide))) (fun _ => ?_)
      refine XR.aload_n d_T_closeEmptyDying_8 rfl ?_
      refine XR.iload_n d_T_closeEmptyDying_9 rfl ?_
      refine XR.cV d_T_closeEmptyDying_10 l_T_45 kv_T_isDying (c_T_isDying hi40) rfl (xle rfl) rfl rfl (xle rfl) (xle rfl) ?_
      refine XR.if_eq d_T_closeEmptyDying_13 (tgt := 32) (by decide) (fun h13 => ?_) (fun h13 => ?_)
      · refine XR.iincN d_T_closeEmptyDying_32 rfl (xle rfl) rfl ?_
        refine XR.goto d_T_closeEmptyDying_35 (tgt := 2) (by decide) ?_
        first | (rw [e1 (by simp_all [bz_z, tDy])]; exact ih (i + 1) _ (by omega)) | (rw [e2 (by simp_all [bz_z, tDy])]; exact ih (i + 1) _ (by omega))
      refine XR.aload_n d_T_closeEmptyDying_16 rfl ?_
      refine XR.getref d_T_closeEmptyDying_17 (xle rfl) rfl rfl uin_T (fk := 4) (xle rfl) f_T_24 rfl (xle rfl) ?_
      refine XR.iload_n d_T_closeEmptyDying_20 rfl ?_
      refine XR.ialoadN d_T_closeEmptyDying_21 (xle rfl) (fun _ => rfl) (by omega) (xle rfl) ?_
      refine XR.if_ne d_T_closeEmptyDying_22 (tgt := 32) (by decide) (fun h22 => ?_) (fun h22 => ?_)
      · refine XR.iincN d_T_closeEmptyDying_32 rfl (xle rfl) rfl ?_
        refine XR.goto d_T_closeEmptyDying_35 (tgt := 2) (by decide) ?_
        first | (rw [e1 (by simp_all [bz_z, tDy])]; exact ih (i + 1) _ (by omega)) | (rw [e2 (by simp_all [bz_z, tDy])]; exact ih (i + 1) _ (by omega))
      refine XR.aload_n d_T_closeEmptyDying_25 rfl ?_
      refine XR.getref d_T_closeEmptyDying_26 (xle rfl) rfl rfl uin_T (fk := 0) (xle rfl) f_T_9 rfl (xle rfl) ?_
      refine XR.iload_n d_T_closeEmptyDying_29 rfl ?_
      refine XR.iconst d_T_closeEmptyDying_30 (v := 3) (by decide) ?_
      refine XR.iastoreN d_T_closeEmptyDying_31 (xle rfl) (fun _ => rfl) (by omega) (xle rfl) ?_
      refine XR.iincN d_T_closeEmptyDying_32 rfl (xle rfl) rfl ?_
      refine XR.goto d_T_closeEmptyDying_35 (tgt := 2) (by decide) ?_
      first | (rw [e1 (by simp_all [bz_z, tDy])]; exact ih (i + 1) _ (by omega)) | (rw [e2 (by simp_all [bz_z, tDy])]; exact ih (i + 1) _ (by omega))
  refine XR.iconst d_T_closeEmptyDying_0 (v := nI 0) (by decide) ?_
  refine XR.istore_n d_T_closeEmptyDying_1 (xle rfl) rfl ?_
  exact loop 40 0 σ rfl
theorem c_T_mergeIntoParent (hx : vp_in x 40) (hh : vp_in (σ 3 (xn x)) 40) : XC E i_T_mergeIntoParent 2 0 0 [.ref (xB E + 1), .int x] (xm σ) (xok none (xm (tMg σ x))) := by
  refine XC.ofF (by decide +kernel) cd_T_mergeIntoParent rfl (xle rfl) ?_
  have loop : ∀ (f i : Nat) (τ : xS), i + f = 40 → XR E i_T_mergeIntoParent 2 0 0 (xok none (xm (tMgF x (σ 3 (xn x)) f i τ))) 31 [.ref (xB E + 1), .int x, .int (σ 3 (xn x)), .int (nI i)] [] (xm τ) := by
    intro f
    induction f with
    | zero =>
      intro i τ hi
      have : i = 40 := by omega
      subst this
      refine XR.iload_n d_T_mergeIntoParent_31 rfl ?_
      refine XR.bipush d_T_mergeIntoParent_32 (v := 40) (by decide) ?_
      refine XR.icmp_ge d_T_mergeIntoParent_34 (tgt := 68) (by decide) (fun _ => ?_) (fun h => absurd (by decide) h)
      refine XR.return_ d_T_mergeIntoParent_68 rfl ?_
      exact ⟨rfl, rfl⟩
    | succ f ih =>
      intro i τ hi
      have e1 : ¬ (tBk τ (nI i) = true ∧ τ 3 i = x) → tMgF x (σ 3 (xn x)) (f + 1) i τ = tMgF x (σ 3 (xn x)) f (i + 1) τ := fun h => by simp only [tMgF, if_neg h]
      have e2 : (tBk τ (nI i) = true ∧ τ 3 i = x) → tMgF x (σ 3 (xn x)) (f + 1) i τ = tMgF x (σ 3 (xn x)) f (i + 1) (xu τ 3 i (σ 3 (xn x))) := fun h => by simp only [tMgF, if_pos h]
      refine XR.iload_n d_T_mergeIntoParent_31 rfl ?_
      refine XR.bipush d_T_mergeIntoParent_32 (v := 40) (by decide) ?_
      refine XR.icmp_ge d_T_mergeIntoParent_34 (tgt := 68) (by decide) (fun h => absurd h (nn_le (n := 40) (by omega) (by decide))) (fun _ => ?_)
      refine XR.aload_n d_T_mergeIntoParent_37 rfl ?_
      refine XR.iload_n d_T_mergeIntoParent_38 rfl ?_
      refine XR.cV d_T_mergeIntoParent_39 l_T_33 kv_T_isBank (c_T_isBank) rfl (xle rfl) rfl rfl (xle rfl) (xle rfl) ?_
      refine XR.if_eq d_T_mergeIntoParent_42 (tgt := 62) (by decide) (fun h42 => ?_) (fun h42 => ?_)
      · refine XR.iincN d_T_mergeIntoParent_62 rfl (xle rfl) rfl ?_
        refine XR.goto d_T_mergeIntoParent_65 (tgt := 31) (by decide) ?_
        first | (rw [e1 (by simp_all [bz_z])]; exact ih (i + 1) _ (by omega)) | (rw [e2 (by simp_all [bz_z])]; exact ih (i + 1) _ (by omega))
      refine XR.aload_n d_T_mergeIntoParent_45 rfl ?_
      refine XR.getref d_T_mergeIntoParent_46 (xle rfl) rfl rfl uin_T (fk := 1) (xle rfl) f_T_15 rfl (xle rfl) ?_
      refine XR.iload_n d_T_mergeIntoParent_49 rfl ?_
      refine XR.ialoadN d_T_mergeIntoParent_50 (xle rfl) (fun _ => rfl) (by omega) (xle rfl) ?_
      refine XR.iload_n d_T_mergeIntoParent_51 rfl ?_
      refine XR.icmp_ne d_T_mergeIntoParent_52 (tgt := 62) (by decide) (fun h52 => ?_) (fun h52 => ?_)
      · refine XR.iincN d_T_mergeIntoParent_62 rfl (xle rfl) rfl ?_
        refine XR.goto d_T_mergeIntoParent_65 (tgt := 31) (by decide) ?_
        first | (rw [e1 (by simp_all [bz_z])]; exact ih (i + 1) _ (by omega)) | (rw [e2 (by simp_all [bz_z])]; exact ih (i + 1) _ (by omega))
      refine XR.aload_n d_T_mergeIntoParent_55 rfl ?_
      refine XR.getref d_T_mergeIntoParent_56 (xle rfl) rfl rfl uin_T (fk := 1) (xle rfl) f_T_15 rfl (xle rfl) ?_
      refine XR.iload_n d_T_mergeIntoParent_59 rfl ?_
      refine XR.iload_n d_T_mergeIntoParent_60 rfl ?_
      refine XR.iastoreN d_T_mergeIntoParent_61 (xle rfl) (fun _ => rfl) (by omega) (xle rfl) ?_
      refine XR.iincN d_T_mergeIntoParent_62 rfl (xle rfl) rfl ?_
      refine XR.goto d_T_mergeIntoParent_65 (tgt := 31) (by decide) ?_
      first | (rw [e1 (by simp_all [bz_z])]; exact ih (i + 1) _ (by omega)) | (rw [e2 (by simp_all [bz_z])]; exact ih (i + 1) _ (by omega))
  refine XR.aload_n d_T_mergeIntoParent_0 rfl ?_
  refine XR.getref d_T_mergeIntoParent_1 (xle rfl) rfl rfl uin_T (fk := 1) (xle rfl) f_T_15 rfl (xle rfl) ?_
  refine XR.iload_n d_T_mergeIntoParent_4 rfl ?_
  refine XR.iaload d_T_mergeIntoParent_5 (xle rfl) (fun _ => rfl) hx ?_
  refine XR.istore_n d_T_mergeIntoParent_6 (xle rfl) rfl ?_
  refine XR.aload_n d_T_mergeIntoParent_7 rfl ?_
  refine XR.getref d_T_mergeIntoParent_8 (xle rfl) rfl rfl uin_T (fk := 3) (xle rfl) f_T_21 rfl (xle rfl) ?_
  refine XR.iload_n d_T_mergeIntoParent_11 rfl ?_
  refine XR.dup2 d_T_mergeIntoParent_12 rfl rfl ?_
  refine XR.iaload d_T_mergeIntoParent_13 (xle rfl) (fun _ => rfl) hh ?_
  refine XR.aload_n d_T_mergeIntoParent_14 rfl ?_
  refine XR.getref d_T_mergeIntoParent_15 (xle rfl) rfl rfl uin_T (fk := 3) (xle rfl) f_T_21 rfl (xle rfl) ?_
  refine XR.iload_n d_T_mergeIntoParent_18 rfl ?_
  refine XR.iaload d_T_mergeIntoParent_19 (xle rfl) (fun _ => rfl) hx ?_
  refine XR.iadd d_T_mergeIntoParent_20 ?_
  refine XR.iastore d_T_mergeIntoParent_21 (xle rfl) (fun _ => rfl) hh ?_
  refine XR.aload_n d_T_mergeIntoParent_22 rfl ?_
  refine XR.getref d_T_mergeIntoParent_23 (xle rfl) rfl rfl uin_T (fk := 0) (xle rfl) f_T_9 rfl (xle rfl) ?_
  refine XR.iload_n d_T_mergeIntoParent_26 rfl ?_
  refine XR.iconst d_T_mergeIntoParent_27 (v := 3) (by decide) ?_
  refine XR.iastore d_T_mergeIntoParent_28 (xle rfl) (fun _ => rfl) hx ?_
  refine XR.iconst d_T_mergeIntoParent_29 (v := nI 0) (by decide) ?_
  refine XR.istore_n d_T_mergeIntoParent_30 (xle rfl) rfl ?_
  exact loop 40 0 _ rfl
theorem c_T_isStray {owned : Int32} (hp : pOK σ) (hx : vp_in x 40) : XC E i_T_isStray 2 0 0 [.ref (xB E + 1), .int x, .int owned] (xm σ) (xok (some (.int (bz (tStray σ x owned)))) (xm σ)) := by
  refine XC.ofF (by decide +kernel) cd_T_isStray rfl (xle rfl) ?_
  have loop : ∀ (f i : Nat) (s : Int32), i + f = 40 → tChF σ x f i s = tChF σ x 40 0 (owned + σ 5 (xn x)) → XR E i_T_isStray 2 0 0 (xok (some (.int (bz (tStray σ x owned)))) (xm σ)) 12 [.ref (xB E + 1), .int x, .int owned, .int s, .int (nI i)] [] (xm σ) := by
    intro f
    induction f with
    | zero =>
      intro i s hi hs
      have : i = 40 := by omega
      subst this
      have hs' : s = tChF σ x 40 0 (owned + σ 5 (xn x)) := hs
      refine XR.iload d_T_isStray_12 rfl ?_
      refine XR.bipush d_T_isStray_14 (v := 40) (by decide) ?_
      refine XR.icmp_ge d_T_isStray_16 (tgt := 55) (by decide) (fun _ => ?_) (fun h => absurd (by decide) h)
      refine XR.iload_n d_T_isStray_55 rfl ?_
      refine XR.aload_n d_T_isStray_56 rfl ?_
      refine XR.getref d_T_isStray_57 (xle rfl) rfl rfl uin_T (fk := 4) (xle rfl) f_T_24 rfl (xle rfl) ?_
      refine XR.iload_n d_T_isStray_60 rfl ?_
      refine XR.iaload d_T_isStray_61 (xle rfl) (fun _ => rfl) hx ?_
      refine XR.icmp_ne d_T_isStray_62 (tgt := 89) (by decide) (fun h62 => ?_) (fun h62 => ?_)
      · refine XR.iconst d_T_isStray_89 (v := 1) (by decide) ?_
        refine XR.goto d_T_isStray_90 (tgt := 94) (by decide) ?_
        refine XR.zret1 d_T_isStray_94 rfl ?_
        exact xok_1 (by simp_all [tStray, bz_z])
      refine XR.aload_n d_T_isStray_65 rfl ?_
      refine XR.getref d_T_isStray_66 (xle rfl) rfl rfl uin_T (fk := 4) (xle rfl) f_T_24 rfl (xle rfl) ?_
      refine XR.iload_n d_T_isStray_69 rfl ?_
      refine XR.iaload d_T_isStray_70 (xle rfl) (fun _ => rfl) hx ?_
      refine XR.aload_n d_T_isStray_71 rfl ?_
      refine XR.getref d_T_isStray_72 (xle rfl) rfl rfl uin_T (fk := 2) (xle rfl) f_T_18 rfl (xle rfl) ?_
      refine XR.iload_n d_T_isStray_75 rfl ?_
      refine XR.iaload d_T_isStray_76 (xle rfl) (fun _ => rfl) hx ?_
      refine XR.icmp_gt d_T_isStray_77 (tgt := 89) (by decide) (fun h77 => ?_) (fun h77 => ?_)
      · refine XR.iconst d_T_isStray_89 (v := 1) (by decide) ?_
        refine XR.goto d_T_isStray_90 (tgt := 94) (by decide) ?_
        refine XR.zret1 d_T_isStray_94 rfl ?_
        exact xok_1 (by simp_all [tStray, bz_z])
      refine XR.aload_n d_T_isStray_80 rfl ?_
      refine XR.iload_n d_T_isStray_81 rfl ?_
      refine XR.iconst d_T_isStray_82 (v := 0) (by decide) ?_
      refine XR.cV d_T_isStray_83 l_T_37 kv_T_isWithin (c_T_isWithin hp (Or.inr hx)) rfl (xle rfl) rfl rfl (xle rfl) (xle rfl) ?_
      refine XR.if_ne d_T_isStray_86 (tgt := 93) (by decide) (fun h86 => ?_) (fun h86 => ?_)
      · refine XR.iconst d_T_isStray_93 (v := 0) (by decide) ?_
        refine XR.zret0 d_T_isStray_94 rfl ?_
        exact xok_0 (by simp_all [tStray, bz_z])
      refine XR.iconst d_T_isStray_89 (v := 1) (by decide) ?_
      refine XR.goto d_T_isStray_90 (tgt := 94) (by decide) ?_
      refine XR.zret1 d_T_isStray_94 rfl ?_
      exact xok_1 (by simp_all [tStray, bz_z])
    | succ f ih =>
      intro i s hi hs
      have e1 : ¬ (tBk σ (nI i) = true ∧ σ 3 i = x) → tChF σ x (f + 1) i s = tChF σ x f (i + 1) s := fun h => by simp only [tChF, if_neg h]
      have e2 : (tBk σ (nI i) = true ∧ σ 3 i = x) → tChF σ x (f + 1) i s = tChF σ x f (i + 1) (s + σ 6 i) := fun h => by simp only [tChF, if_pos h]
      rw [← hs] at ih
      refine XR.iload d_T_isStray_12 rfl ?_
      refine XR.bipush d_T_isStray_14 (v := 40) (by decide) ?_
      refine XR.icmp_ge d_T_isStray_16 (tgt := 55) (by decide) (fun h => absurd h (nn_le (n := 40) (by omega) (by decide))) (fun _ => ?_)
      refine XR.aload_n d_T_isStray_19 rfl ?_
      refine XR.iload d_T_isStray_20 rfl ?_
      refine XR.cV d_T_isStray_22 l_T_33 kv_T_isBank (c_T_isBank) rfl (xle rfl) rfl rfl (xle rfl) (xle rfl) ?_
      refine XR.if_eq d_T_isStray_25 (tgt := 49) (by decide) (fun h25 => ?_) (fun h25 => ?_)
      · refine XR.iincN d_T_isStray_49 rfl (xle rfl) rfl ?_
        refine XR.goto d_T_isStray_52 (tgt := 12) (by decide) ?_
        first | exact ih (i + 1) _ (by omega) (e1 (by clear ih hs; simp_all [bz_z])).symm | exact ih (i + 1) _ (by omega) (e2 (by clear ih hs; simp_all [bz_z])).symm
      refine XR.aload_n d_T_isStray_28 rfl ?_
      refine XR.getref d_T_isStray_29 (xle rfl) rfl rfl uin_T (fk := 1) (xle rfl) f_T_15 rfl (xle rfl) ?_
      refine XR.iload d_T_isStray_32 rfl ?_
      refine XR.ialoadN d_T_isStray_34 (xle rfl) (fun _ => rfl) (by omega) (xle rfl) ?_
      refine XR.iload_n d_T_isStray_35 rfl ?_
      refine XR.icmp_ne d_T_isStray_36 (tgt := 49) (by decide) (fun h36 => ?_) (fun h36 => ?_)
      · refine XR.iincN d_T_isStray_49 rfl (xle rfl) rfl ?_
        refine XR.goto d_T_isStray_52 (tgt := 12) (by decide) ?_
        first | exact ih (i + 1) _ (by omega) (e1 (by clear ih hs; simp_all [bz_z])).symm | exact ih (i + 1) _ (by omega) (e2 (by clear ih hs; simp_all [bz_z])).symm
      refine XR.iload_n d_T_isStray_39 rfl ?_
      refine XR.aload_n d_T_isStray_40 rfl ?_
      refine XR.getref d_T_isStray_41 (xle rfl) rfl rfl uin_T (fk := 4) (xle rfl) f_T_24 rfl (xle rfl) ?_
      refine XR.iload d_T_isStray_44 rfl ?_
      refine XR.ialoadN d_T_isStray_46 (xle rfl) (fun _ => rfl) (by omega) (xle rfl) ?_
      refine XR.iadd d_T_isStray_47 ?_
      refine XR.istore_n d_T_isStray_48 (xle rfl) rfl ?_
      refine XR.iincN d_T_isStray_49 rfl (xle rfl) rfl ?_
      refine XR.goto d_T_isStray_52 (tgt := 12) (by decide) ?_
      first | exact ih (i + 1) _ (by omega) (e1 (by clear ih hs; simp_all [bz_z])).symm | exact ih (i + 1) _ (by omega) (e2 (by clear ih hs; simp_all [bz_z])).symm
  refine XR.iload_n d_T_isStray_0 rfl ?_
  refine XR.aload_n d_T_isStray_1 rfl ?_
  refine XR.getref d_T_isStray_2 (xle rfl) rfl rfl uin_T (fk := 3) (xle rfl) f_T_21 rfl (xle rfl) ?_
  refine XR.iload_n d_T_isStray_5 rfl ?_
  refine XR.iaload d_T_isStray_6 (xle rfl) (fun _ => rfl) hx ?_
  refine XR.iadd d_T_isStray_7 ?_
  refine XR.istore_n d_T_isStray_8 (xle rfl) rfl ?_
  refine XR.iconst d_T_isStray_9 (v := nI 0) (by decide) ?_
  refine XR.istore d_T_isStray_10 (xle rfl) rfl ?_
  exact loop 40 0 _ rfl rfl
end XTree2
end
section
/-! the store of pages: what its methods do -/
def sTk (σ : xS) (p : Nat) : Bool := !(σ 9 p == -1)
def sFr (σ : xS) (p : Nat) : Bool := (σ 9 p == -1) && !decide (7 ≤ σ 8 p)
def sHas (σ : xS) (x v : Int32) : Bool := !decide (192 ≤ x) && sTk σ (xn x) && (σ 8 (xn x) == v)
def sSame (σ : xS) (x y : Int32) : Bool := !decide (192 ≤ y) && sTk σ (xn y) && (σ 10 (xn y) == σ 10 (xn x))
def sLfF (σ : xS) (n : Int32) : Nat → Nat → Int32 → Int32
  | 0, _, _ => -1
  | f + 1, i, k => if (if sFr σ i then k + 1 else 0) = n then nI i - n + 1 else sLfF σ n f (i + 1) (if sFr σ i then k + 1 else 0)
def sLf (σ : xS) (n : Int32) : Int32 := sLfF σ n 192 0 0
def sGive (σ : xS) (x b : Int32) : xS := xu (xu (xu σ 9 (xn x) b) 12 (xn (σ 7 6)) x) 7 6 (σ 7 6 + 1)
def sClr (σ : xS) (p k : Nat) : xS := xup σ 11 (fun j => if p * 4 ≤ j ∧ j < p * 4 + k then 0 else σ 11 j)
def sFiF (b : Int32) : Nat → Nat → xS → xS
  | 0, _, σ => σ
  | f + 1, i, σ => sFiF b f (i + 1) (sGive (sClr (xu (xu σ 8 i (σ 8 i + 1)) 10 i (σ 7 7)) i 4) (nI i) b)
def sFi (σ : xS) (first n : Nat) (b : Int32) : xS := sFiF b n first (xu σ 7 7 (σ 7 7 + 1))
def sGapF : Nat → Nat → Nat → xS → Nat × xS
  | 0, _, k, σ => (k, σ)
  | f + 1, i, k, σ => if sTk σ (xn (σ 12 i)) then sGapF f (i + 1) (k + 1) (xu σ 12 k (σ 12 i)) else sGapF f (i + 1) k σ
def sGap (σ : xS) (m : Nat) : xS := xu (sGapF m 0 0 σ).2 7 6 (nI (sGapF m 0 0 σ).1)
def sOwn (σ : xS) (b : Int32) : Nat := xcn (fun p => σ 9 p == b) 192
def sPlF (σ : xS) (b k : Int32) : Nat → Nat → Int32 → Int32
  | 0, _, _ => -1
  | f + 1, i, n => if σ 9 (xn (σ 12 i)) = b then (if n = k then σ 12 i else sPlF σ b k f (i + 1) (n + 1)) else sPlF σ b k f (i + 1) n
def sPl (σ : xS) (m : Nat) (b k : Int32) : Int32 := sPlF σ b k m 0 0
/-- the row of places: m of them are listed, all in range -/
def oOK (σ : xS) (m : Nat) : Prop := σ 7 6 = nI m ∧ m ≤ 192 ∧ ∀ i, i < m → vp_in (σ 12 i) 192
section XStore
variable {E : xE} {σ : xS} {x y v b n : Int32}
theorem c_S_isTaken (hx : vp_in x 192) : XC E i_S_isTaken 1 0 0 [.ref (xB E + 7), .int x] (xm σ) (xok (some (.int (bz (sTk σ (xn x))))) (xm σ)) := by
  refine XC.ofF (by decide +kernel) cd_S_isTaken rfl (xle rfl) ?_
  refine XR.aload_n d_S_isTaken_0 rfl ?_
  refine XR.getref d_S_isTaken_1 (xle rfl) rfl rfl uin_S (fk := 1) (xle rfl) f_S_15 rfl (xle rfl) ?_
  refine XR.iload_n d_S_isTaken_4 rfl ?_
  refine XR.iaload d_S_isTaken_5 (xle rfl) (fun _ => rfl) hx ?_
  refine XR.iconst d_S_isTaken_6 (v := -1) (by decide) ?_
  refine XR.icmp_eq d_S_isTaken_7 (tgt := 14) (by decide) (fun h7 => ?_) (fun h7 => ?_)
  · refine XR.iconst d_S_isTaken_14 (v := 0) (by decide) ?_
    refine XR.zret0 d_S_isTaken_15 rfl ?_
    exact xok_0 (by simp_all [sTk])
  refine XR.iconst d_S_isTaken_10 (v := 1) (by decide) ?_
  refine XR.goto d_S_isTaken_11 (tgt := 15) (by decide) ?_
  refine XR.zret1 d_S_isTaken_15 rfl ?_
  exact xok_1 (by simp_all [sTk])
theorem c_S_isFree (hx : vp_in x 192) : XC E i_S_isFree 1 0 0 [.ref (xB E + 7), .int x] (xm σ) (xok (some (.int (bz (sFr σ (xn x))))) (xm σ)) := by
  refine XC.ofF (by decide +kernel) cd_S_isFree rfl (xle rfl) ?_
  refine XR.aload_n d_S_isFree_0 rfl ?_
  refine XR.getref d_S_isFree_1 (xle rfl) rfl rfl uin_S (fk := 1) (xle rfl) f_S_15 rfl (xle rfl) ?_
  refine XR.iload_n d_S_isFree_4 rfl ?_
  refine XR.iaload d_S_isFree_5 (xle rfl) (fun _ => rfl) hx ?_
  refine XR.iconst d_S_isFree_6 (v := -1) (by decide) ?_
  refine XR.icmp_ne d_S_isFree_7 (tgt := 25) (by decide) (fun h7 => ?_) (fun h7 => ?_)
  · refine XR.iconst d_S_isFree_25 (v := 0) (by decide) ?_
    refine XR.zret0 d_S_isFree_26 rfl ?_
    exact xok_0 (by simp_all [sFr])
  refine XR.aload_n d_S_isFree_10 rfl ?_
  refine XR.getref d_S_isFree_11 (xle rfl) rfl rfl uin_S (fk := 0) (xle rfl) f_S_9 rfl (xle rfl) ?_
  refine XR.iload_n d_S_isFree_14 rfl ?_
  refine XR.iaload d_S_isFree_15 (xle rfl) (fun _ => rfl) hx ?_
  refine XR.bipush d_S_isFree_16 (v := 7) (by decide) ?_
  refine XR.icmp_ge d_S_isFree_18 (tgt := 25) (by decide) (fun h18 => ?_) (fun h18 => ?_)
  · refine XR.iconst d_S_isFree_25 (v := 0) (by decide) ?_
    refine XR.zret0 d_S_isFree_26 rfl ?_
    exact xok_0 (by simp_all [sFr])
  refine XR.iconst d_S_isFree_21 (v := 1) (by decide) ?_
  refine XR.goto d_S_isFree_22 (tgt := 26) (by decide) ?_
  refine XR.zret1 d_S_isFree_26 rfl ?_
  exact xok_1 (by simp_all [sFr])
theorem c_S_ownerOf (hx : vp_in x 192) : XC E i_S_ownerOf 1 0 0 [.ref (xB E + 7), .int x] (xm σ) (xok (some (.int (σ 9 (xn x)))) (xm σ)) := by
  refine XC.ofF (by decide +kernel) cd_S_ownerOf rfl (xle rfl) ?_
  refine XR.aload_n d_S_ownerOf_0 rfl ?_
  refine XR.getref d_S_ownerOf_1 (xle rfl) rfl rfl uin_S (fk := 1) (xle rfl) f_S_15 rfl (xle rfl) ?_
  refine XR.iload_n d_S_ownerOf_4 rfl ?_
  refine XR.iaload d_S_ownerOf_5 (xle rfl) (fun _ => rfl) hx ?_
  refine XR.xreturn d_S_ownerOf_6 rfl ?_
  exact ⟨rfl, rfl⟩
theorem c_S_hasPage (hx : ¬ x < 0) : XC E i_S_hasPage 2 0 0 [.ref (xB E + 7), .int x, .int v] (xm σ) (xok (some (.int (bz (sHas σ x v)))) (xm σ)) := by
  refine XC.ofF (by decide +kernel) cd_S_hasPage rfl (xle rfl) ?_
  refine XR.iload_n d_S_hasPage_0 rfl ?_
  refine XR.sipush d_S_hasPage_1 (v := 192) (by decide) ?_
  refine XR.icmp_ge d_S_hasPage_4 (tgt := 29) (by decide) (fun h4 => ?_) (fun h4 => ?_)
  · refine XR.iconst d_S_hasPage_29 (v := 0) (by decide) ?_
    refine XR.zret0 d_S_hasPage_30 rfl ?_
    exact xok_0 (by simp_all [sHas, bz_z])
  refine XR.aload_n d_S_hasPage_7 rfl ?_
  refine XR.iload_n d_S_hasPage_8 rfl ?_
  refine XR.cV d_S_hasPage_9 l_S_36 kv_S_isTaken (c_S_isTaken (vp_in_lt hx h4 (by decide))) rfl (xle rfl) rfl rfl (xle rfl) (xle rfl) ?_
  refine XR.if_eq d_S_hasPage_12 (tgt := 29) (by decide) (fun h12 => ?_) (fun h12 => ?_)
  · refine XR.iconst d_S_hasPage_29 (v := 0) (by decide) ?_
    refine XR.zret0 d_S_hasPage_30 rfl ?_
    exact xok_0 (by simp_all [sHas, bz_z])
  refine XR.aload_n d_S_hasPage_15 rfl ?_
  refine XR.getref d_S_hasPage_16 (xle rfl) rfl rfl uin_S (fk := 0) (xle rfl) f_S_9 rfl (xle rfl) ?_
  refine XR.iload_n d_S_hasPage_19 rfl ?_
  refine XR.iaload d_S_hasPage_20 (xle rfl) (fun _ => rfl) (vp_in_lt hx h4 (by decide)) ?_
  refine XR.iload_n d_S_hasPage_21 rfl ?_
  refine XR.icmp_ne d_S_hasPage_22 (tgt := 29) (by decide) (fun h22 => ?_) (fun h22 => ?_)
  · refine XR.iconst d_S_hasPage_29 (v := 0) (by decide) ?_
    refine XR.zret0 d_S_hasPage_30 rfl ?_
    exact xok_0 (by simp_all [sHas, bz_z])
  refine XR.iconst d_S_hasPage_25 (v := 1) (by decide) ?_
  refine XR.goto d_S_hasPage_26 (tgt := 30) (by decide) ?_
  refine XR.zret1 d_S_hasPage_30 rfl ?_
  exact xok_1 (by simp_all [sHas, bz_z])
theorem c_S_isSameRun (hx : vp_in x 192) (hy : ¬ y < 0) : XC E i_S_isSameRun 2 0 0 [.ref (xB E + 7), .int x, .int y] (xm σ) (xok (some (.int (bz (sSame σ x y)))) (xm σ)) := by
  refine XC.ofF (by decide +kernel) cd_S_isSameRun rfl (xle rfl) ?_
  refine XR.iload_n d_S_isSameRun_0 rfl ?_
  refine XR.sipush d_S_isSameRun_1 (v := 192) (by decide) ?_
  refine XR.icmp_ge d_S_isSameRun_4 (tgt := 34) (by decide) (fun h4 => ?_) (fun h4 => ?_)
  · refine XR.iconst d_S_isSameRun_34 (v := 0) (by decide) ?_
    refine XR.zret0 d_S_isSameRun_35 rfl ?_
    exact xok_0 (by simp_all [sSame, bz_z])
  refine XR.aload_n d_S_isSameRun_7 rfl ?_
  refine XR.iload_n d_S_isSameRun_8 rfl ?_
  refine XR.cV d_S_isSameRun_9 l_S_36 kv_S_isTaken (c_S_isTaken (vp_in_lt hy h4 (by decide))) rfl (xle rfl) rfl rfl (xle rfl) (xle rfl) ?_
  refine XR.if_eq d_S_isSameRun_12 (tgt := 34) (by decide) (fun h12 => ?_) (fun h12 => ?_)
  · refine XR.iconst d_S_isSameRun_34 (v := 0) (by decide) ?_
    refine XR.zret0 d_S_isSameRun_35 rfl ?_
    exact xok_0 (by simp_all [sSame, bz_z])
  refine XR.aload_n d_S_isSameRun_15 rfl ?_
  refine XR.getref d_S_isSameRun_16 (xle rfl) rfl rfl uin_S (fk := 2) (xle rfl) f_S_18 rfl (xle rfl) ?_
  refine XR.iload_n d_S_isSameRun_19 rfl ?_
  refine XR.iaload d_S_isSameRun_20 (xle rfl) (fun _ => rfl) (vp_in_lt hy h4 (by decide)) ?_
  refine XR.aload_n d_S_isSameRun_21 rfl ?_
  refine XR.getref d_S_isSameRun_22 (xle rfl) rfl rfl uin_S (fk := 2) (xle rfl) f_S_18 rfl (xle rfl) ?_
  refine XR.iload_n d_S_isSameRun_25 rfl ?_
  refine XR.iaload d_S_isSameRun_26 (xle rfl) (fun _ => rfl) hx ?_
  refine XR.icmp_ne d_S_isSameRun_27 (tgt := 34) (by decide) (fun h27 => ?_) (fun h27 => ?_)
  · refine XR.iconst d_S_isSameRun_34 (v := 0) (by decide) ?_
    refine XR.zret0 d_S_isSameRun_35 rfl ?_
    exact xok_0 (by simp_all [sSame, bz_z])
  refine XR.iconst d_S_isSameRun_30 (v := 1) (by decide) ?_
  refine XR.goto d_S_isSameRun_31 (tgt := 35) (by decide) ?_
  refine XR.zret1 d_S_isSameRun_35 rfl ?_
  exact xok_1 (by simp_all [sSame, bz_z])
theorem c_S_strongKey (hx : vp_in x 192) : XC E i_S_strongKey 1 0 0 [.ref (xB E + 7), .int x] (xm σ) (xok (some (.int (1024 * σ 8 (xn x) + 2 * x))) (xm σ)) := by
  refine XC.ofF (by decide +kernel) cd_S_strongKey rfl (xle rfl) ?_
  refine XR.sipush d_S_strongKey_0 (v := 1024) (by decide) ?_
  refine XR.aload_n d_S_strongKey_3 rfl ?_
  refine XR.getref d_S_strongKey_4 (xle rfl) rfl rfl uin_S (fk := 0) (xle rfl) f_S_9 rfl (xle rfl) ?_
  refine XR.iload_n d_S_strongKey_7 rfl ?_
  refine XR.iaload d_S_strongKey_8 (xle rfl) (fun _ => rfl) hx ?_
  refine XR.imul d_S_strongKey_9 ?_
  refine XR.iconst d_S_strongKey_10 (v := 2) (by decide) ?_
  refine XR.iload_n d_S_strongKey_11 rfl ?_
  refine XR.imul d_S_strongKey_12 ?_
  refine XR.iadd d_S_strongKey_13 ?_
  refine XR.xreturn d_S_strongKey_14 rfl ?_
  exact ⟨rfl, rfl⟩
theorem c_S_wordAt (hx : vp_in (x * 4 + y) 768) : XC E i_S_wordAt 1 0 0 [.ref (xB E + 7), .int x, .int y] (xm σ) (xok (some (.int (σ 11 (xn (x * 4 + y))))) (xm σ)) := by
  refine XC.ofF (by decide +kernel) cd_S_wordAt rfl (xle rfl) ?_
  refine XR.aload_n d_S_wordAt_0 rfl ?_
  refine XR.getref d_S_wordAt_1 (xle rfl) rfl rfl uin_S (fk := 3) (xle rfl) f_S_21 rfl (xle rfl) ?_
  refine XR.iload_n d_S_wordAt_4 rfl ?_
  refine XR.iconst d_S_wordAt_5 (v := 4) (by decide) ?_
  refine XR.imul d_S_wordAt_6 ?_
  refine XR.iload_n d_S_wordAt_7 rfl ?_
  refine XR.iadd d_S_wordAt_8 ?_
  refine XR.iaload d_S_wordAt_9 (xle rfl) (fun _ => rfl) hx ?_
  refine XR.xreturn d_S_wordAt_10 rfl ?_
  exact ⟨rfl, rfl⟩
theorem c_S_replaceWord (hx : vp_in (x * 4 + y) 768) : XC E i_S_replaceWord 1 0 0 [.ref (xB E + 7), .int x, .int y, .int v] (xm σ) (xok (some (.int (σ 11 (xn (x * 4 + y))))) (xm (xu σ 11 (xn (x * 4 + y)) v))) := by
  refine XC.ofF (by decide +kernel) cd_S_replaceWord rfl (xle rfl) ?_
  refine XR.aload_n d_S_replaceWord_0 rfl ?_
  refine XR.getref d_S_replaceWord_1 (xle rfl) rfl rfl uin_S (fk := 3) (xle rfl) f_S_21 rfl (xle rfl) ?_
  refine XR.iload_n d_S_replaceWord_4 rfl ?_
  refine XR.iconst d_S_replaceWord_5 (v := 4) (by decide) ?_
  refine XR.imul d_S_replaceWord_6 ?_
  refine XR.iload_n d_S_replaceWord_7 rfl ?_
  refine XR.iadd d_S_replaceWord_8 ?_
  refine XR.iaload d_S_replaceWord_9 (xle rfl) (fun _ => rfl) hx ?_
  refine XR.istore d_S_replaceWord_10 (xle rfl) rfl ?_
  refine XR.aload_n d_S_replaceWord_12 rfl ?_
  refine XR.getref d_S_replaceWord_13 (xle rfl) rfl rfl uin_S (fk := 3) (xle rfl) f_S_21 rfl (xle rfl) ?_
  refine XR.iload_n d_S_replaceWord_16 rfl ?_
  refine XR.iconst d_S_replaceWord_17 (v := 4) (by decide) ?_
  refine XR.imul d_S_replaceWord_18 ?_
  refine XR.iload_n d_S_replaceWord_19 rfl ?_
  refine XR.iadd d_S_replaceWord_20 ?_
  refine XR.iload_n d_S_replaceWord_21 rfl ?_
  refine XR.iastore d_S_replaceWord_22 (xle rfl) (fun _ => rfl) hx ?_
  refine XR.iload d_S_replaceWord_23 rfl ?_
  refine XR.xreturn d_S_replaceWord_25 rfl ?_
  exact ⟨rfl, rfl⟩
theorem c_S_pages : XC E i_S_pages 1 0 0 [.ref (xB E + 7)] (xm σ) (xok (some (.int (σ 7 6))) (xm σ)) := by
  refine XC.ofF (by decide +kernel) cd_S_pages rfl (xle rfl) ?_
  refine XR.aload_n d_S_pages_0 rfl ?_
  refine XR.getint d_S_pages_1 (xle rfl) rfl rfl uin_S (fk := 6) (xle rfl) f_S_40 rfl ?_
  refine XR.xreturn d_S_pages_4 rfl ?_
  exact ⟨rfl, rfl⟩
theorem c_S_vacate (hx : vp_in x 192) : XC E i_S_vacate 1 0 0 [.ref (xB E + 7), .int x] (xm σ) (xok none (xm (xu σ 9 (xn x) (-1)))) := by
  refine XC.ofF (by decide +kernel) cd_S_vacate rfl (xle rfl) ?_
  refine XR.aload_n d_S_vacate_0 rfl ?_
  refine XR.getref d_S_vacate_1 (xle rfl) rfl rfl uin_S (fk := 1) (xle rfl) f_S_15 rfl (xle rfl) ?_
  refine XR.iload_n d_S_vacate_4 rfl ?_
  refine XR.iconst d_S_vacate_5 (v := -1) (by decide) ?_
  refine XR.iastore d_S_vacate_6 (xle rfl) (fun _ => rfl) hx ?_
  refine XR.return_ d_S_vacate_7 rfl ?_
  exact ⟨rfl, rfl⟩
theorem c_S_freePlaces : XC E i_S_freePlaces 2 0 0 [.ref (xB E + 7)] (xm σ) (xok (some (.int (nI (xcn (sFr σ) 192)))) (xm σ)) := by
  refine XC.ofF (by decide +kernel) cd_S_freePlaces rfl (xle rfl) ?_
  have loop : ∀ (f i k : Nat), i + f = 192 → k = xcn (sFr σ) i → XR E i_S_freePlaces 2 0 0 (xok (some (.int (nI (xcn (sFr σ) 192)))) (xm σ)) 4 [.ref (xB E + 7), .int (nI k), .int (nI i)] [] (xm σ) := by
    intro f
    induction f with
    | zero =>
      intro i k hi hk
      have : i = 192 := by omega
      subst this; subst hk
      refine XR.iload_n d_S_freePlaces_4 rfl ?_
      refine XR.sipush d_S_freePlaces_5 (v := 192) (by decide) ?_
      refine XR.icmp_ge d_S_freePlaces_8 (tgt := 28) (by decide) (fun _ => ?_) (fun h => absurd (by decide) h)
      refine XR.iload_n d_S_freePlaces_28 rfl ?_
      refine XR.xreturn d_S_freePlaces_29 rfl ?_
      exact ⟨rfl, rfl⟩
    | succ f ih =>
      intro i k hi hk
      have ei : xn (nI i) = i := nI_clamp (by omega)
      refine XR.iload_n d_S_freePlaces_4 rfl ?_
      refine XR.sipush d_S_freePlaces_5 (v := 192) (by decide) ?_
      refine XR.icmp_ge d_S_freePlaces_8 (tgt := 28) (by decide) (fun h => absurd h (nn_le (n := 192) (by omega) (by decide))) (fun _ => ?_)
      refine XR.aload_n d_S_freePlaces_11 rfl ?_
      refine XR.iload_n d_S_freePlaces_12 rfl ?_
      refine XR.cV d_S_freePlaces_13 l_S_44 kv_S_isFree (c_S_isFree (vp_in_nI (by omega) (by decide))) rfl (xle rfl) rfl rfl (xle rfl) (xle rfl) ?_
      refine XR.if_eq d_S_freePlaces_16 (tgt := 22) (by decide) (fun h16 => ?_) (fun h16 => ?_)
      · refine XR.iincN d_S_freePlaces_22 rfl (xle rfl) rfl ?_
        refine XR.goto d_S_freePlaces_25 (tgt := 4) (by decide) ?_
        exact ih (i + 1) _ (by omega) (by clear ih; simp_all [xcn, bz_z])
      refine XR.iincN d_S_freePlaces_19 rfl (xle rfl) rfl ?_
      refine XR.iincN d_S_freePlaces_22 rfl (xle rfl) rfl ?_
      refine XR.goto d_S_freePlaces_25 (tgt := 4) (by decide) ?_
      exact ih (i + 1) _ (by omega) (by clear ih; simp_all [xcn, bz_z])
  refine XR.iconst d_S_freePlaces_0 (v := nI 0) (by decide) ?_
  refine XR.istore_n d_S_freePlaces_1 (xle rfl) rfl ?_
  refine XR.iconst d_S_freePlaces_2 (v := nI 0) (by decide) ?_
  refine XR.istore_n d_S_freePlaces_3 (xle rfl) rfl ?_
  exact loop 192 0 0 rfl rfl
theorem c_S_retiredPlaces : XC E i_S_retiredPlaces 3 0 0 [.ref (xB E + 7)] (xm σ) (xok (some (.int (192 - σ 7 6 - nI (xcn (sFr σ) 192)))) (xm σ)) := by
  refine XC.ofF (by decide +kernel) cd_S_retiredPlaces rfl (xle rfl) ?_
  refine XR.sipush d_S_retiredPlaces_0 (v := 192) (by decide) ?_
  refine XR.aload_n d_S_retiredPlaces_3 rfl ?_
  refine XR.getint d_S_retiredPlaces_4 (xle rfl) rfl rfl uin_S (fk := 6) (xle rfl) f_S_40 rfl ?_
  refine XR.isub d_S_retiredPlaces_7 ?_
  refine XR.aload_n d_S_retiredPlaces_8 rfl ?_
  refine XR.cV d_S_retiredPlaces_9 l_S_47 kv_S_freePlaces (c_S_freePlaces) rfl (xle rfl) rfl rfl (xle rfl) (xle rfl) ?_
  refine XR.isub d_S_retiredPlaces_12 ?_
  refine XR.xreturn d_S_retiredPlaces_13 rfl ?_
  exact ⟨rfl, rfl⟩
theorem c_S_ownedBy : XC E i_S_ownedBy 1 0 0 [.ref (xB E + 7), .int b] (xm σ) (xok (some (.int (nI (sOwn σ b)))) (xm σ)) := by
  refine XC.ofF (by decide +kernel) cd_S_ownedBy rfl (xle rfl) ?_
  have loop : ∀ (f i k : Nat), i + f = 192 → k = xcn (fun p => σ 9 p == b) i → XR E i_S_ownedBy 1 0 0 (xok (some (.int (nI (sOwn σ b)))) (xm σ)) 4 [.ref (xB E + 7), .int b, .int (nI k), .int (nI i)] [] (xm σ) := by
    intro f
    induction f with
    | zero =>
      intro i k hi hk
      have : i = 192 := by omega
      subst this; subst hk
      refine XR.iload_n d_S_ownedBy_4 rfl ?_
      refine XR.sipush d_S_ownedBy_5 (v := 192) (by decide) ?_
      refine XR.icmp_ge d_S_ownedBy_8 (tgt := 30) (by decide) (fun _ => ?_) (fun h => absurd (by decide) h)
      refine XR.iload_n d_S_ownedBy_30 rfl ?_
      refine XR.xreturn d_S_ownedBy_31 rfl ?_
      exact ⟨rfl, rfl⟩
    | succ f ih =>
      intro i k hi hk
      refine XR.iload_n d_S_ownedBy_4 rfl ?_
      refine XR.sipush d_S_ownedBy_5 (v := 192) (by decide) ?_
      refine XR.icmp_ge d_S_ownedBy_8 (tgt := 30) (by decide) (fun h => absurd h (nn_le (n := 192) (by omega) (by decide))) (fun _ => ?_)
      refine XR.aload_n d_S_ownedBy_11 rfl ?_
      refine XR.getref d_S_ownedBy_12 (xle rfl) rfl rfl uin_S (fk := 1) (xle rfl) f_S_15 rfl (xle rfl) ?_
      refine XR.iload_n d_S_ownedBy_15 rfl ?_
      refine XR.ialoadN d_S_ownedBy_16 (xle rfl) (fun _ => rfl) (by omega) (xle rfl) ?_
      refine XR.iload_n d_S_ownedBy_17 rfl ?_
      refine XR.icmp_ne d_S_ownedBy_18 (tgt := 24) (by decide) (fun h18 => ?_) (fun h18 => ?_)
      · refine XR.iincN d_S_ownedBy_24 rfl (xle rfl) rfl ?_
        refine XR.goto d_S_ownedBy_27 (tgt := 4) (by decide) ?_
        exact ih (i + 1) _ (by omega) (by clear ih; simp_all [xcn])
      refine XR.iincN d_S_ownedBy_21 rfl (xle rfl) rfl ?_
      refine XR.iincN d_S_ownedBy_24 rfl (xle rfl) rfl ?_
      refine XR.goto d_S_ownedBy_27 (tgt := 4) (by decide) ?_
      exact ih (i + 1) _ (by omega) (by clear ih; simp_all [xcn])
  refine XR.iconst d_S_ownedBy_0 (v := nI 0) (by decide) ?_
  refine XR.istore_n d_S_ownedBy_1 (xle rfl) rfl ?_
  refine XR.iconst d_S_ownedBy_2 (v := nI 0) (by decide) ?_
  refine XR.istore_n d_S_ownedBy_3 (xle rfl) rfl ?_
  exact loop 192 0 0 rfl rfl
theorem c_S_leastFree : XC E i_S_leastFree 2 0 0 [.ref (xB E + 7), .int n] (xm σ) (xok (some (.int (sLf σ n))) (xm σ)) := by
  refine XC.ofF (by decide +kernel) cd_S_leastFree rfl (xle rfl) ?_
  have loop : ∀ (f i : Nat) (k : Int32), i + f = 192 → XR E i_S_leastFree 2 0 0 (xok (some (.int (sLfF σ n f i k))) (xm σ)) 4 [.ref (xB E + 7), .int n, .int k, .int (nI i)] [] (xm σ) := by
    intro f
    induction f with
    | zero =>
      intro i k hi
      have : i = 192 := by omega
      subst this
      refine XR.iload_n d_S_leastFree_4 rfl ?_
      refine XR.sipush d_S_leastFree_5 (v := 192) (by decide) ?_
      refine XR.icmp_ge d_S_leastFree_8 (tgt := 44) (by decide) (fun _ => ?_) (fun h => absurd (by decide) h)
      refine XR.iconst d_S_leastFree_44 (v := -1) (by decide) ?_
      refine XR.xreturn d_S_leastFree_45 rfl ?_
      exact ⟨rfl, rfl⟩
    | succ f ih =>
      intro i k hi
      have ei : xn (nI i) = i := nI_clamp (by omega)
      have q1 : sFr σ i = false → ¬ (0 : Int32) = n → sLfF σ n (f + 1) i k = sLfF σ n f (i + 1) 0 := fun a b => by simp [sLfF, a, b]
      have q2 : sFr σ i = true → ¬ k + 1 = n → sLfF σ n (f + 1) i k = sLfF σ n f (i + 1) (k + 1) := fun a b => by simp [sLfF, a, b]
      have q3 : sFr σ i = false → (0 : Int32) = n → sLfF σ n (f + 1) i k = nI i - n + 1 := fun a b => by simp [sLfF, a, b]
      have q4 : sFr σ i = true → k + 1 = n → sLfF σ n (f + 1) i k = nI i - n + 1 := fun a b => by simp [sLfF, a, b]
      have z1 : bz (sFr σ (xn (nI i))) = 0 → sFr σ i = false := fun h => by rw [ei, bz_z] at h; exact h
      have z2 : ¬ bz (sFr σ (xn (nI i))) = 0 → sFr σ i = true := fun h => by rw [ei, bz_z] at h; simpa using h
      refine XR.iload_n d_S_leastFree_4 rfl ?_
      refine XR.sipush d_S_leastFree_5 (v := 192) (by decide) ?_
      refine XR.icmp_ge d_S_leastFree_8 (tgt := 44) (by decide) (fun h => absurd h (nn_le (n := 192) (by omega) (by decide))) (fun _ => ?_)
      refine XR.aload_n d_S_leastFree_11 rfl ?_
      refine XR.iload_n d_S_leastFree_12 rfl ?_
      refine XR.cV d_S_leastFree_13 l_S_44 kv_S_isFree (c_S_isFree (vp_in_nI (by omega) (by decide))) rfl (xle rfl) rfl rfl (xle rfl) (xle rfl) ?_
      refine XR.if_eq d_S_leastFree_16 (tgt := 25) (by decide) (fun h16 => ?_) (fun h16 => ?_)
      · refine XR.iconst d_S_leastFree_25 (v := 0) (by decide) ?_
        refine XR.istore_n d_S_leastFree_26 (xle rfl) rfl ?_
        refine XR.iload_n d_S_leastFree_27 rfl ?_
        refine XR.iload_n d_S_leastFree_28 rfl ?_
        refine XR.icmp_ne d_S_leastFree_29 (tgt := 38) (by decide) (fun h29 => ?_) (fun h29 => ?_)
        · refine XR.iincN d_S_leastFree_38 rfl (xle rfl) rfl ?_
          refine XR.goto d_S_leastFree_41 (tgt := 4) (by decide) ?_
          first | (rw [q1 (z1 h16) h29]; exact ih (i + 1) _ (by omega)) | (rw [q2 (z2 h16) h29]; exact ih (i + 1) _ (by omega))
        refine XR.iload_n d_S_leastFree_32 rfl ?_
        refine XR.iload_n d_S_leastFree_33 rfl ?_
        refine XR.isub d_S_leastFree_34 ?_
        refine XR.iconst d_S_leastFree_35 (v := 1) (by decide) ?_
        refine XR.iadd d_S_leastFree_36 ?_
        refine XR.xreturn d_S_leastFree_37 rfl ?_
        first | exact ⟨by rw [q3 (z1 h16) h29], rfl⟩ | exact ⟨by rw [q4 (z2 h16) h29], rfl⟩
      refine XR.iload_n d_S_leastFree_19 rfl ?_
      refine XR.iconst d_S_leastFree_20 (v := 1) (by decide) ?_
      refine XR.iadd d_S_leastFree_21 ?_
      refine XR.goto d_S_leastFree_22 (tgt := 26) (by decide) ?_
      refine XR.istore_n d_S_leastFree_26 (xle rfl) rfl ?_
      refine XR.iload_n d_S_leastFree_27 rfl ?_
      refine XR.iload_n d_S_leastFree_28 rfl ?_
      refine XR.icmp_ne d_S_leastFree_29 (tgt := 38) (by decide) (fun h29 => ?_) (fun h29 => ?_)
      · refine XR.iincN d_S_leastFree_38 rfl (xle rfl) rfl ?_
        refine XR.goto d_S_leastFree_41 (tgt := 4) (by decide) ?_
        first | (rw [q1 (z1 h16) h29]; exact ih (i + 1) _ (by omega)) | (rw [q2 (z2 h16) h29]; exact ih (i + 1) _ (by omega))
      refine XR.iload_n d_S_leastFree_32 rfl ?_
      refine XR.iload_n d_S_leastFree_33 rfl ?_
      refine XR.isub d_S_leastFree_34 ?_
      refine XR.iconst d_S_leastFree_35 (v := 1) (by decide) ?_
      refine XR.iadd d_S_leastFree_36 ?_
      refine XR.xreturn d_S_leastFree_37 rfl ?_
      first | exact ⟨by rw [q3 (z1 h16) h29], rfl⟩ | exact ⟨by rw [q4 (z2 h16) h29], rfl⟩
  refine XR.iconst d_S_leastFree_0 (v := 0) (by decide) ?_
  refine XR.istore_n d_S_leastFree_1 (xle rfl) rfl ?_
  refine XR.iconst d_S_leastFree_2 (v := nI 0) (by decide) ?_
  refine XR.istore_n d_S_leastFree_3 (xle rfl) rfl ?_
  exact loop 192 0 0 rfl
theorem c_S_placeOfOwned {m : Nat} {k : Int32} (ho : oOK σ m) : XC E i_S_placeOfOwned 1 0 0 [.ref (xB E + 7), .int b, .int k] (xm σ) (xok (some (.int (sPl σ m b k))) (xm σ)) := by
  refine XC.ofF (by decide +kernel) cd_S_placeOfOwned rfl (xle rfl) ?_
  obtain ⟨h1, h2, h3⟩ := ho
  have loop : ∀ (f i : Nat) (j : Int32), i + f = m → XR E i_S_placeOfOwned 1 0 0 (xok (some (.int (sPlF σ b k f i j))) (xm σ)) 5 [.ref (xB E + 7), .int b, .int k, .int j, .int (nI i)] [] (xm σ) := by
    intro f
    induction f with
    | zero =>
      intro i j hi
      have : i = m := by omega
      subst this
      refine XR.iload d_S_placeOfOwned_5 rfl ?_
      refine XR.aload_n d_S_placeOfOwned_7 rfl ?_
      refine XR.getint d_S_placeOfOwned_8 (xle rfl) rfl rfl uin_S (fk := 6) (xle rfl) f_S_40 rfl ?_
      refine XR.icmp_ge d_S_placeOfOwned_11 (tgt := 52) (by decide) (fun _ => ?_) (fun h => absurd (by show σ 7 6 ≤ nI i; rw [h1]; exact Int32.le_refl _) h)
      refine XR.iconst d_S_placeOfOwned_52 (v := -1) (by decide) ?_
      refine XR.xreturn d_S_placeOfOwned_53 rfl ?_
      exact ⟨rfl, rfl⟩
    | succ f ih =>
      intro i j hi
      have h4 := h3 i (by omega)
      have q1 : ¬ σ 9 (xn (σ 12 i)) = b → sPlF σ b k (f + 1) i j = sPlF σ b k f (i + 1) j := fun a => by simp only [sPlF, if_neg a]
      have q2 : σ 9 (xn (σ 12 i)) = b → ¬ j = k → sPlF σ b k (f + 1) i j = sPlF σ b k f (i + 1) (j + 1) := fun a c => by simp only [sPlF, if_pos a, if_neg c]
      have q3 : σ 9 (xn (σ 12 i)) = b → j = k → sPlF σ b k (f + 1) i j = σ 12 i := fun a c => by simp only [sPlF, if_pos a, if_pos c]
      refine XR.iload d_S_placeOfOwned_5 rfl ?_
      refine XR.aload_n d_S_placeOfOwned_7 rfl ?_
      refine XR.getint d_S_placeOfOwned_8 (xle rfl) rfl rfl uin_S (fk := 6) (xle rfl) f_S_40 rfl ?_
      refine XR.icmp_ge d_S_placeOfOwned_11 (tgt := 52) (by decide) (fun h => absurd h (by show ¬ σ 7 6 ≤ nI i; rw [h1]; exact nI_ge (by omega) (by omega))) (fun _ => ?_)
      refine XR.aload_n d_S_placeOfOwned_14 rfl ?_
      refine XR.getref d_S_placeOfOwned_15 (xle rfl) rfl rfl uin_S (fk := 1) (xle rfl) f_S_15 rfl (xle rfl) ?_
      refine XR.aload_n d_S_placeOfOwned_18 rfl ?_
      refine XR.getref d_S_placeOfOwned_19 (xle rfl) rfl rfl uin_S (fk := 4) (xle rfl) f_S_24 rfl (xle rfl) ?_
      refine XR.iload d_S_placeOfOwned_22 rfl ?_
      refine XR.ialoadN d_S_placeOfOwned_24 (xle rfl) (fun _ => rfl) (by omega) (xle rfl) ?_
      refine XR.iaload d_S_placeOfOwned_25 (xle rfl) (fun _ => rfl) h4 ?_
      refine XR.iload_n d_S_placeOfOwned_26 rfl ?_
      refine XR.icmp_ne d_S_placeOfOwned_27 (tgt := 46) (by decide) (fun h27 => ?_) (fun h27 => ?_)
      · refine XR.iincN d_S_placeOfOwned_46 rfl (xle rfl) rfl ?_
        refine XR.goto d_S_placeOfOwned_49 (tgt := 5) (by decide) ?_
        first | (rw [q1 h27]; exact ih (i + 1) _ (by omega)) | (rw [q2 h27 h32]; exact ih (i + 1) _ (by omega))
      refine XR.iload_n d_S_placeOfOwned_30 rfl ?_
      refine XR.iload_n d_S_placeOfOwned_31 rfl ?_
      refine XR.icmp_ne d_S_placeOfOwned_32 (tgt := 43) (by decide) (fun h32 => ?_) (fun h32 => ?_)
      · refine XR.iinc1 d_S_placeOfOwned_43 rfl (xle rfl) rfl ?_
        refine XR.iincN d_S_placeOfOwned_46 rfl (xle rfl) rfl ?_
        refine XR.goto d_S_placeOfOwned_49 (tgt := 5) (by decide) ?_
        first | (rw [q1 h27]; exact ih (i + 1) _ (by omega)) | (rw [q2 h27 h32]; exact ih (i + 1) _ (by omega))
      refine XR.aload_n d_S_placeOfOwned_35 rfl ?_
      refine XR.getref d_S_placeOfOwned_36 (xle rfl) rfl rfl uin_S (fk := 4) (xle rfl) f_S_24 rfl (xle rfl) ?_
      refine XR.iload d_S_placeOfOwned_39 rfl ?_
      refine XR.ialoadN d_S_placeOfOwned_41 (xle rfl) (fun _ => rfl) (by omega) (xle rfl) ?_
      refine XR.xreturn d_S_placeOfOwned_42 rfl ?_
      exact ⟨by rw [q3 h27 h32], rfl⟩
  refine XR.iconst d_S_placeOfOwned_0 (v := 0) (by decide) ?_
  refine XR.istore_n d_S_placeOfOwned_1 (xle rfl) rfl ?_
  refine XR.iconst d_S_placeOfOwned_2 (v := nI 0) (by decide) ?_
  refine XR.istore d_S_placeOfOwned_3 (xle rfl) rfl ?_
  exact loop m 0 0 (by omega)
theorem c_S_isListedWrongly (hx : vp_in x 192) : XC E i_S_isListedWrongly 2 0 0 [.ref (xB E + 7), .int x] (xm σ) (xok (some (.int (bz (!(σ 13 (xn x) == bz (sTk σ (xn x))))))) (xm σ)) := by
  refine XC.ofF (by decide +kernel) cd_S_isListedWrongly rfl (xle rfl) ?_
  refine XR.aload_n d_S_isListedWrongly_0 rfl ?_
  refine XR.getref d_S_isListedWrongly_1 (xle rfl) rfl rfl uin_S (fk := 5) (xle rfl) f_S_27 rfl (xle rfl) ?_
  refine XR.iload_n d_S_isListedWrongly_4 rfl ?_
  refine XR.iaload d_S_isListedWrongly_5 (xle rfl) (fun _ => rfl) hx ?_
  refine XR.aload_n d_S_isListedWrongly_6 rfl ?_
  refine XR.iload_n d_S_isListedWrongly_7 rfl ?_
  refine XR.cV d_S_isListedWrongly_8 l_S_36 kv_S_isTaken (c_S_isTaken hx) rfl (xle rfl) rfl rfl (xle rfl) (xle rfl) ?_
  refine XR.if_eq d_S_isListedWrongly_11 (tgt := 18) (by decide) (fun h11 => ?_) (fun h11 => ?_)
  · refine XR.iconst d_S_isListedWrongly_18 (v := 0) (by decide) ?_
    refine XR.icmp_eq d_S_isListedWrongly_19 (tgt := 26) (by decide) (fun h19 => ?_) (fun h19 => ?_)
    · refine XR.iconst d_S_isListedWrongly_26 (v := 0) (by decide) ?_
      refine XR.zret0 d_S_isListedWrongly_27 rfl ?_
      exact xok_0 (by simp_all [bz])
    refine XR.iconst d_S_isListedWrongly_22 (v := 1) (by decide) ?_
    refine XR.goto d_S_isListedWrongly_23 (tgt := 27) (by decide) ?_
    refine XR.zret1 d_S_isListedWrongly_27 rfl ?_
    exact xok_1 (by simp_all [bz])
  refine XR.iconst d_S_isListedWrongly_14 (v := 1) (by decide) ?_
  refine XR.goto d_S_isListedWrongly_15 (tgt := 19) (by decide) ?_
  refine XR.icmp_eq d_S_isListedWrongly_19 (tgt := 26) (by decide) (fun h19 => ?_) (fun h19 => ?_)
  · refine XR.iconst d_S_isListedWrongly_26 (v := 0) (by decide) ?_
    refine XR.zret0 d_S_isListedWrongly_27 rfl ?_
    exact xok_0 (by simp_all [bz])
  refine XR.iconst d_S_isListedWrongly_22 (v := 1) (by decide) ?_
  refine XR.goto d_S_isListedWrongly_23 (tgt := 27) (by decide) ?_
  refine XR.zret1 d_S_isListedWrongly_27 rfl ?_
  exact xok_1 (by simp_all [bz])
end XStore
end
section
/-! filling, giving, closing gaps -/
def xfl (σ : xS) (q : Nat) (v : Int32) (i : Nat) : xS := xup σ q (fun j => if j < i then v else σ q j)
theorem xfl_0 (σ : xS) (q : Nat) (v : Int32) : xfl σ q v 0 = σ := by
  unfold xfl
  have : (fun j => if j < 0 then v else σ q j) = σ q := by funext j; simp
  rw [this, xup_id]
theorem xfl_s (σ : xS) (q : Nat) (v : Int32) (i : Nat) : xu (xfl σ q v i) q i v = xfl σ q v (i + 1) := by
  funext k j
  simp only [xu, xfl, xup]
  by_cases hk : k = q
  · subst hk
    simp only [if_true]
    by_cases h1 : j = i
    · subst h1; simp
    · by_cases h2 : j < i
      · simp [h1, h2, Nat.lt_succ_of_lt h2]
      · have : ¬ j < i + 1 := by omega
        simp [h1, h2, this]
  · simp [hk]
theorem sClr_0 (σ : xS) (p : Nat) : sClr σ p 0 = σ := by
  unfold sClr
  have : (fun j => if p * 4 ≤ j ∧ j < p * 4 + 0 then 0 else σ 11 j) = σ 11 := by
    funext j
    have : ¬ (p * 4 ≤ j ∧ j < p * 4 + 0) := by omega
    simp only [this, if_false]
  rw [this, xup_id]
theorem sClr_s (σ : xS) (p k : Nat) : xu (sClr σ p k) 11 (p * 4 + k) 0 = sClr σ p (k + 1) := by
  funext q j
  simp only [xu, sClr, xup]
  by_cases hq : q = 11
  · subst hq
    simp only [if_true]
    by_cases h1 : j = p * 4 + k
    · subst h1
      have : p * 4 ≤ p * 4 + k ∧ p * 4 + k < p * 4 + (k + 1) := by omega
      simp [this]
    · by_cases h2 : p * 4 ≤ j ∧ j < p * 4 + k
      · have h3 : p * 4 ≤ j ∧ j < p * 4 + (k + 1) := by omega
        simp [h1, h2, h3]
      · have h3 : ¬ (p * 4 ≤ j ∧ j < p * 4 + (k + 1)) := by omega
        simp only [h1, h2, h3, if_false]
  · simp [hq]
section XStore2
variable {E : xE} {σ : xS} {x y v b n : Int32}
theorem c_A_fill {N r q a : Nat} {τ : xS} (hq : q < N) (he : ∀ f, xen E r q f = .inl (xcI E, a, .inl f)) (ha : a < 2 ^ 31) : XC E i_A_fill 1 0 0 [.ref (xB E + q), .int v] (N, r, τ) (xok none (N, r, xfl τ q v a)) := by
  refine XC.ofF (by decide +kernel) cd_A_fill rfl (xle rfl) ?_
  have loop : ∀ (f i : Nat), i + f = a → XR E i_A_fill 1 0 0 (xok none (N, r, xfl τ q v a)) 5 [.ref (xB E + q), .int v, .int (nI i), .int (nI a)] [] (N, r, xfl τ q v i) := by
    intro f
    induction f with
    | zero =>
      intro i hi
      have : i = a := by omega
      subst this
      refine XR.iload_n d_A_fill_5 rfl ?_
      refine XR.iload_n d_A_fill_6 rfl ?_
      refine XR.icmp_ge d_A_fill_7 (tgt := 20) (by decide) (fun _ => ?_) (fun h => absurd (Int32.le_refl _) h)
      refine XR.return_ d_A_fill_20 rfl ?_
      exact ⟨rfl, rfl⟩
    | succ f ih =>
      intro i hi
      refine XR.iload_n d_A_fill_5 rfl ?_
      refine XR.iload_n d_A_fill_6 rfl ?_
      refine XR.icmp_ge d_A_fill_7 (tgt := 20) (by decide) (fun h => absurd h (nI_ge (by omega) ha)) (fun _ => ?_)
      refine XR.aload_n d_A_fill_10 rfl ?_
      refine XR.iload_n d_A_fill_11 rfl ?_
      refine XR.iload_n d_A_fill_12 rfl ?_
      refine XR.iastoreN d_A_fill_13 hq he (by omega) ha ?_
      rw [xfl_s]
      first | refine XR.iincN d_A_fill_14 rfl (by decide) rfl ?_
      refine XR.goto d_A_fill_17 (tgt := 5) (by decide) ?_
      exact ih (i + 1) (by omega)
  have h0 := loop a 0 (by omega)
  rw [xfl_0] at h0
  refine XR.iconst d_A_fill_0 (v := nI 0) (by decide) ?_
  refine XR.istore_n d_A_fill_1 (xle rfl) rfl ?_
  refine XR.aload_n d_A_fill_2 rfl ?_
  refine XR.alen (n := 0) (cA := 0) (ty := .int) d_A_fill_3 hq (he _) (v := nI a) rfl ?_
  refine XR.istore_n d_A_fill_4 (by decide) rfl ?_
  exact h0
theorem c_S_clearWords {p : Nat} (hp : p < 192) : XC E i_S_clearWords 1 0 0 [.ref (xB E + 7), .int (nI p)] (xm σ) (xok none (xm (sClr σ p 4))) := by
  refine XC.ofF (by decide +kernel) cd_S_clearWords rfl (xle rfl) ?_
  have loop : ∀ (f k : Nat), k + f = 4 → XR E i_S_clearWords 1 0 0 (xok none (xm (sClr σ p 4))) 2 [.ref (xB E + 7), .int (nI p), .int (nI k)] [] (xm (sClr σ p k)) := by
    intro f
    induction f with
    | zero =>
      intro k hk
      have : k = 4 := by omega
      subst this
      refine XR.iload_n d_S_clearWords_2 rfl ?_
      refine XR.iconst d_S_clearWords_3 (v := 4) (by decide) ?_
      refine XR.icmp_ge d_S_clearWords_4 (tgt := 24) (by decide) (fun _ => ?_) (fun h => absurd (by decide) h)
      refine XR.return_ d_S_clearWords_24 rfl ?_
      exact ⟨rfl, rfl⟩
    | succ f ih =>
      intro k hk
      have e : nI p * 4 + nI k = nI (p * 4 + k) := by rw [show (4 : Int32) = nI 4 from rfl, pk_mul, nI_add]
      refine XR.iload_n d_S_clearWords_2 rfl ?_
      refine XR.iconst d_S_clearWords_3 (v := 4) (by decide) ?_
      refine XR.icmp_ge d_S_clearWords_4 (tgt := 24) (by decide) (fun h => absurd h (nn_le (n := 4) (by omega) (by decide))) (fun _ => ?_)
      refine XR.aload_n d_S_clearWords_7 rfl ?_
      refine XR.getref d_S_clearWords_8 (xle rfl) rfl rfl uin_S (fk := 3) (xle rfl) f_S_21 rfl (xle rfl) ?_
      refine XR.iload_n d_S_clearWords_11 rfl ?_
      refine XR.iconst d_S_clearWords_12 (v := 4) (by decide) ?_
      refine XR.imul d_S_clearWords_13 ?_
      refine XR.iload_n d_S_clearWords_14 rfl ?_
      refine XR.iadd d_S_clearWords_15 ?_
      rw [e]
      refine XR.iconst d_S_clearWords_16 (v := 0) (by decide) ?_
      refine XR.iastoreN d_S_clearWords_17 (xle rfl) (fun _ => rfl) (by omega) (xle rfl) ?_
      rw [sClr_s]
      refine XR.iincN d_S_clearWords_18 rfl (xle rfl) rfl ?_
      refine XR.goto d_S_clearWords_21 (tgt := 2) (by decide) ?_
      exact ih (k + 1) (by omega)
  have h0 := loop 4 0 (by omega)
  rw [sClr_0] at h0
  refine XR.iconst d_S_clearWords_0 (v := nI 0) (by decide) ?_
  refine XR.istore_n d_S_clearWords_1 (xle rfl) rfl ?_
  exact h0
theorem c_S_give (hx : vp_in x 192) (hl : vp_in (σ 7 6) 192) : XC E i_S_give 1 0 0 [.ref (xB E + 7), .int x, .int b] (xm σ) (xok none (xm (sGive σ x b))) := by
  refine XC.ofF (by decide +kernel) cd_S_give rfl (xle rfl) ?_
  refine XR.aload_n d_S_give_0 rfl ?_
  refine XR.getref d_S_give_1 (xle rfl) rfl rfl uin_S (fk := 1) (xle rfl) f_S_15 rfl (xle rfl) ?_
  refine XR.iload_n d_S_give_4 rfl ?_
  refine XR.iload_n d_S_give_5 rfl ?_
  refine XR.iastore d_S_give_6 (xle rfl) (fun _ => rfl) hx ?_
  refine XR.aload_n d_S_give_7 rfl ?_
  refine XR.getref d_S_give_8 (xle rfl) rfl rfl uin_S (fk := 4) (xle rfl) f_S_24 rfl (xle rfl) ?_
  refine XR.aload_n d_S_give_11 rfl ?_
  refine XR.getint d_S_give_12 (xle rfl) rfl rfl uin_S (fk := 6) (xle rfl) f_S_40 rfl ?_
  refine XR.iload_n d_S_give_15 rfl ?_
  refine XR.iastore d_S_give_16 (xle rfl) (fun _ => rfl) hl ?_
  refine XR.aload_n d_S_give_17 rfl ?_
  refine XR.dup d_S_give_18 rfl ?_
  refine XR.getint d_S_give_19 (xle rfl) rfl rfl uin_S (fk := 6) (xle rfl) f_S_40 rfl ?_
  refine XR.iconst d_S_give_22 (v := 1) (by decide) ?_
  refine XR.iadd d_S_give_23 ?_
  refine XR.putfield d_S_give_24 (xle rfl) (fun _ => rfl) rfl uin_S tyS_ok nmS (fk := 6) (xle rfl) f_S_40 rfl rfl (fun _ => rfl) (fun _ => xle rfl) ?_
  refine XR.return_ d_S_give_27 rfl ?_
  exact ⟨rfl, rfl⟩
theorem c_S_fill {a m l : Nat} (ha : a + m ≤ 192) (hl : σ 7 6 = nI l) (hlm : l + m ≤ 192) : XC E i_S_fill 2 0 0 [.ref (xB E + 7), .int (nI a), .int (nI m), .int b] (xm σ) (xok none (xm (sFi σ a m b))) := by
  refine XC.ofF (by decide +kernel) cd_S_fill rfl (xle rfl) ?_
  have ea : nI a + nI m = nI (a + m) := nI_add a m
  have loop : ∀ (f i j : Nat) (τ : xS), i + f = a + m → τ 7 6 = nI j → j + f ≤ 192 → XR E i_S_fill 2 0 0 (xok none (xm (sFiF b f i τ))) 13 [.ref (xB E + 7), .int (nI a), .int (nI m), .int b, .int (nI i)] [] (xm τ) := by
    intro f
    induction f with
    | zero =>
      intro i j τ hi hj hf
      have : i = a + m := by omega
      subst this
      refine XR.iload d_S_fill_13 rfl ?_
      refine XR.iload_n d_S_fill_15 rfl ?_
      refine XR.iload_n d_S_fill_16 rfl ?_
      refine XR.iadd d_S_fill_17 ?_
      refine XR.icmp_ge d_S_fill_18 (tgt := 62) (by decide) (fun _ => ?_) (fun h => absurd (by rw [ea]; exact Int32.le_refl _) h)
      refine XR.return_ d_S_fill_62 rfl ?_
      exact ⟨rfl, rfl⟩
    | succ f ih =>
      intro i j τ hi hj hf
      have hg : vp_in (sClr (xu (xu τ 8 i (τ 8 i + 1)) 10 i (τ 7 7)) i 4 7 6) 192 := by
        show vp_in (τ 7 6) 192
        rw [hj]; exact vp_in_nI (by omega) (by decide)
      refine XR.iload d_S_fill_13 rfl ?_
      refine XR.iload_n d_S_fill_15 rfl ?_
      refine XR.iload_n d_S_fill_16 rfl ?_
      refine XR.iadd d_S_fill_17 ?_
      refine XR.icmp_ge d_S_fill_18 (tgt := 62) (by decide) (fun h => absurd h (by rw [ea]; exact nI_ge (by omega) (by omega))) (fun _ => ?_)
      refine XR.aload_n d_S_fill_21 rfl ?_
      refine XR.getref d_S_fill_22 (xle rfl) rfl rfl uin_S (fk := 0) (xle rfl) f_S_9 rfl (xle rfl) ?_
      refine XR.iload d_S_fill_25 rfl ?_
      refine XR.dup2 d_S_fill_27 rfl rfl ?_
      refine XR.ialoadN d_S_fill_28 (xle rfl) (fun _ => rfl) (by omega) (xle rfl) ?_
      refine XR.iconst d_S_fill_29 (v := 1) (by decide) ?_
      refine XR.iadd d_S_fill_30 ?_
      refine XR.iastoreN d_S_fill_31 (xle rfl) (fun _ => rfl) (by omega) (xle rfl) ?_
      refine XR.aload_n d_S_fill_32 rfl ?_
      refine XR.getref d_S_fill_33 (xle rfl) rfl rfl uin_S (fk := 2) (xle rfl) f_S_18 rfl (xle rfl) ?_
      refine XR.iload d_S_fill_36 rfl ?_
      refine XR.aload_n d_S_fill_38 rfl ?_
      refine XR.getint d_S_fill_39 (xle rfl) rfl rfl uin_S (fk := 7) (xle rfl) f_S_51 rfl ?_
      refine XR.iastoreN d_S_fill_42 (xle rfl) (fun _ => rfl) (by omega) (xle rfl) ?_
      refine XR.aload_n d_S_fill_43 rfl ?_
      refine XR.iload d_S_fill_44 rfl ?_
      refine XR.cV (as := [_]) d_S_fill_46 l_S_54 kv_S_clearWords (c_S_clearWords (by omega)) rfl (xle rfl) rfl rfl (xle rfl) (xle rfl) ?_
      refine XR.aload_n d_S_fill_49 rfl ?_
      refine XR.iload d_S_fill_50 rfl ?_
      refine XR.iload_n d_S_fill_52 rfl ?_
      refine XR.cV (as := [_, _]) d_S_fill_53 l_S_58 kv_S_give (c_S_give (vp_in_nI (by omega) (by decide)) hg) rfl (xle rfl) rfl rfl (xle rfl) (xle rfl) ?_
      refine XR.iincN d_S_fill_56 rfl (xle rfl) rfl ?_
      refine XR.goto d_S_fill_59 (tgt := 13) (by decide) ?_
      exact ih (i + 1) (j + 1) _ (by omega) (by show τ 7 6 + 1 = nI (j + 1); rw [hj, nI_1]) (by omega)
  refine XR.aload_n d_S_fill_0 rfl ?_
  refine XR.dup d_S_fill_1 rfl ?_
  refine XR.getint d_S_fill_2 (xle rfl) rfl rfl uin_S (fk := 7) (xle rfl) f_S_51 rfl ?_
  refine XR.iconst d_S_fill_5 (v := 1) (by decide) ?_
  refine XR.iadd d_S_fill_6 ?_
  refine XR.putfield d_S_fill_7 (xle rfl) (fun _ => rfl) rfl uin_S tyS_ok nmS (fk := 7) (xle rfl) f_S_51 rfl rfl (fun _ => rfl) (fun _ => xle rfl) ?_
  refine XR.iload_n d_S_fill_10 rfl ?_
  refine XR.istore d_S_fill_11 (xle rfl) rfl ?_
  exact loop m a l _ rfl hl (by omega)
theorem c_S_closeGaps {m : Nat} (ho : oOK σ m) : XC E i_S_closeGaps 2 0 0 [.ref (xB E + 7)] (xm σ) (xok none (xm (sGap σ m))) := by
  refine XC.ofF (by decide +kernel) cd_S_closeGaps rfl (xle rfl) ?_
  have loop : ∀ (f i k : Nat) (τ : xS), i + f = m → k ≤ i → oOK τ m → XR E i_S_closeGaps 2 0 0 (xok none (xm (xu (sGapF f i k τ).2 7 6 (nI (sGapF f i k τ).1)))) 4 [.ref (xB E + 7), .int (nI k), .int (nI i)] [] (xm τ) := by
    intro f
    induction f with
    | zero =>
      intro i k τ hi hk ho
      have : i = m := by omega
      subst this
      refine XR.iload_n d_S_closeGaps_4 rfl ?_
      refine XR.aload_n d_S_closeGaps_5 rfl ?_
      refine XR.getint d_S_closeGaps_6 (xle rfl) rfl rfl uin_S (fk := 6) (xle rfl) f_S_40 rfl ?_
      refine XR.icmp_ge d_S_closeGaps_9 (tgt := 46) (by decide) (fun _ => ?_) (fun h => absurd (by show τ 7 6 ≤ nI i; rw [ho.1]; exact Int32.le_refl _) h)
      refine XR.aload_n d_S_closeGaps_46 rfl ?_
      refine XR.iload_n d_S_closeGaps_47 rfl ?_
      refine XR.putfield d_S_closeGaps_48 (xle rfl) (fun _ => rfl) rfl uin_S tyS_ok nmS (fk := 6) (xle rfl) f_S_40 rfl rfl (fun _ => rfl) (fun _ => xle rfl) ?_
      refine XR.return_ d_S_closeGaps_51 rfl ?_
      exact ⟨rfl, rfl⟩
    | succ f ih =>
      intro i k τ hi hk ho
      have h4 := ho.2.2 i (by omega)
      have hm := ho.2.1
      have e1 : ¬ sTk τ (xn (τ 12 i)) = true → sGapF (f + 1) i k τ = sGapF f (i + 1) k τ := fun h => by simp only [sGapF, if_neg h]
      have e2 : sTk τ (xn (τ 12 i)) = true → sGapF (f + 1) i k τ = sGapF f (i + 1) (k + 1) (xu τ 12 k (τ 12 i)) := fun h => by simp only [sGapF, if_pos h]
      have ho2 : oOK (xu τ 12 k (τ 12 i)) m := ⟨ho.1, hm, fun j hj => by
        rw [xu_at]
        split
        · exact h4
        · exact ho.2.2 j hj⟩
      refine XR.iload_n d_S_closeGaps_4 rfl ?_
      refine XR.aload_n d_S_closeGaps_5 rfl ?_
      refine XR.getint d_S_closeGaps_6 (xle rfl) rfl rfl uin_S (fk := 6) (xle rfl) f_S_40 rfl ?_
      refine XR.icmp_ge d_S_closeGaps_9 (tgt := 46) (by decide) (fun h => absurd h (by show ¬ τ 7 6 ≤ nI i; rw [ho.1]; exact nI_ge (by omega) (by omega))) (fun _ => ?_)
      refine XR.aload_n d_S_closeGaps_12 rfl ?_
      refine XR.aload_n d_S_closeGaps_13 rfl ?_
      refine XR.getref d_S_closeGaps_14 (xle rfl) rfl rfl uin_S (fk := 4) (xle rfl) f_S_24 rfl (xle rfl) ?_
      refine XR.iload_n d_S_closeGaps_17 rfl ?_
      refine XR.ialoadN d_S_closeGaps_18 (xle rfl) (fun _ => rfl) (by omega) (xle rfl) ?_
      refine XR.cV (as := [_]) d_S_closeGaps_19 l_S_36 kv_S_isTaken (c_S_isTaken h4) rfl (xle rfl) rfl rfl (xle rfl) (xle rfl) ?_
      refine XR.if_eq d_S_closeGaps_22 (tgt := 40) (by decide) (fun h22 => ?_) (fun h22 => ?_)
      · refine XR.iincN d_S_closeGaps_40 rfl (xle rfl) rfl ?_
        refine XR.goto d_S_closeGaps_43 (tgt := 4) (by decide) ?_
        first | (rw [e1 (by simp_all [bz_z])]; exact ih (i + 1) _ _ (by omega) (by omega) ho) | (rw [e2 (by simp_all [bz_z])]; exact ih (i + 1) _ _ (by omega) (by omega) ho2)
      refine XR.aload_n d_S_closeGaps_25 rfl ?_
      refine XR.getref d_S_closeGaps_26 (xle rfl) rfl rfl uin_S (fk := 4) (xle rfl) f_S_24 rfl (xle rfl) ?_
      refine XR.iload_n d_S_closeGaps_29 rfl ?_
      refine XR.aload_n d_S_closeGaps_30 rfl ?_
      refine XR.getref d_S_closeGaps_31 (xle rfl) rfl rfl uin_S (fk := 4) (xle rfl) f_S_24 rfl (xle rfl) ?_
      refine XR.iload_n d_S_closeGaps_34 rfl ?_
      refine XR.ialoadN d_S_closeGaps_35 (xle rfl) (fun _ => rfl) (by omega) (xle rfl) ?_
      refine XR.iastoreN d_S_closeGaps_36 (xle rfl) (fun _ => rfl) (by omega) (xle rfl) ?_
      refine XR.iincN d_S_closeGaps_37 rfl (xle rfl) rfl ?_
      refine XR.iincN d_S_closeGaps_40 rfl (xle rfl) rfl ?_
      refine XR.goto d_S_closeGaps_43 (tgt := 4) (by decide) ?_
      first | (rw [e1 (by simp_all [bz_z])]; exact ih (i + 1) _ _ (by omega) (by omega) ho) | (rw [e2 (by simp_all [bz_z])]; exact ih (i + 1) _ _ (by omega) (by omega) ho2)
  refine XR.iconst d_S_closeGaps_0 (v := nI 0) (by decide) ?_
  refine XR.istore_n d_S_closeGaps_1 (xle rfl) rfl ?_
  refine XR.iconst d_S_closeGaps_2 (v := nI 0) (by decide) ?_
  refine XR.istore_n d_S_closeGaps_3 (xle rfl) rfl ?_
  exact loop m 0 0 σ (by omega) (by omega) ho
/-- how often each place is listed -/
def sCoF : Nat → Nat → xS → xS
  | 0, _, σ => σ
  | f + 1, i, σ => sCoF f (i + 1) (xu σ 13 (xn (σ 12 i)) (σ 13 (xn (σ 12 i)) + 1))
theorem c_S_countListings {m : Nat} (ho : oOK σ m) : XC E i_S_countListings 2 0 0 [.ref (xB E + 7)] (xm σ) (xok none (xm (sCoF m 0 (xfl σ 13 0 192)))) := by
  refine XC.ofF (by decide +kernel) cd_S_countListings rfl (xle rfl) ?_
  have loop : ∀ (f i : Nat) (τ : xS), i + f = m → oOK τ m → XR E i_S_countListings 2 0 0 (xok none (xm (sCoF f i τ))) 10 [.ref (xB E + 7), .int (nI i)] [] (xm τ) := by
    intro f
    induction f with
    | zero =>
      intro i τ hi ho
      have : i = m := by omega
      subst this
      refine XR.iload_n d_S_countListings_10 rfl ?_
      refine XR.aload_n d_S_countListings_11 rfl ?_
      refine XR.getint d_S_countListings_12 (xle rfl) rfl rfl uin_S (fk := 6) (xle rfl) f_S_40 rfl ?_
      refine XR.icmp_ge d_S_countListings_15 (tgt := 39) (by decide) (fun _ => ?_) (fun h => absurd (by show τ 7 6 ≤ nI i; rw [ho.1]; exact Int32.le_refl _) h)
      refine XR.return_ d_S_countListings_39 rfl ?_
      exact ⟨rfl, rfl⟩
    | succ f ih =>
      intro i τ hi ho
      have h4 := ho.2.2 i (by omega)
      have hm := ho.2.1
      refine XR.iload_n d_S_countListings_10 rfl ?_
      refine XR.aload_n d_S_countListings_11 rfl ?_
      refine XR.getint d_S_countListings_12 (xle rfl) rfl rfl uin_S (fk := 6) (xle rfl) f_S_40 rfl ?_
      refine XR.icmp_ge d_S_countListings_15 (tgt := 39) (by decide) (fun h => absurd h (by show ¬ τ 7 6 ≤ nI i; rw [ho.1]; exact nI_ge (by omega) (by omega))) (fun _ => ?_)
      refine XR.aload_n d_S_countListings_18 rfl ?_
      refine XR.getref d_S_countListings_19 (xle rfl) rfl rfl uin_S (fk := 5) (xle rfl) f_S_27 rfl (xle rfl) ?_
      refine XR.aload_n d_S_countListings_22 rfl ?_
      refine XR.getref d_S_countListings_23 (xle rfl) rfl rfl uin_S (fk := 4) (xle rfl) f_S_24 rfl (xle rfl) ?_
      refine XR.iload_n d_S_countListings_26 rfl ?_
      refine XR.ialoadN d_S_countListings_27 (xle rfl) (fun _ => rfl) (by omega) (xle rfl) ?_
      refine XR.dup2 d_S_countListings_28 rfl rfl ?_
      refine XR.iaload d_S_countListings_29 (xle rfl) (fun _ => rfl) h4 ?_
      refine XR.iconst d_S_countListings_30 (v := 1) (by decide) ?_
      refine XR.iadd d_S_countListings_31 ?_
      refine XR.iastore d_S_countListings_32 (xle rfl) (fun _ => rfl) h4 ?_
      refine XR.iincN d_S_countListings_33 rfl (xle rfl) rfl ?_
      refine XR.goto d_S_countListings_36 (tgt := 10) (by decide) ?_
      exact ih (i + 1) _ (by omega) ho
  refine XR.aload_n d_S_countListings_0 rfl ?_
  refine XR.getref d_S_countListings_1 (xle rfl) rfl rfl uin_S (fk := 5) (xle rfl) f_S_27 rfl (xle rfl) ?_
  refine XR.iconst d_S_countListings_4 (v := 0) (by decide) ?_
  refine XR.cS (as := [_, _]) d_S_countListings_5 l_S_30 ks_A_fill (c_A_fill (by decide) (fun _ => rfl) (by decide)) rfl (xle rfl) (xle rfl) ?_
  refine XR.iconst d_S_countListings_8 (v := nI 0) (by decide) ?_
  refine XR.istore_n d_S_countListings_9 (xle rfl) rfl ?_
  exact loop m 0 _ (by omega) ho
end XStore2
end
section
/-! System.arraycopy, and handing all pages of a bank over -/
abbrev xacp : MethodName := ⟨"java/lang/System", "arraycopy", "(Ljava/lang/Object;ILjava/lang/Object;II)V"⟩
theorem l_S_62 : Cond.methodLink "PageBanks$Store" 62 xacp ∈ xTs := xT 621 (by decide +kernel) (by decide +kernel)
theorem ac_nat : Cond.native xacp ∈ xTs := xT 623 (by decide +kernel) (by decide +kernel)
theorem ac_stat : Cond.static xacp ∈ xTs := xT 622 (by decide +kernel) (by decide +kernel)
theorem ac_words : nativeFrameWords "java/lang/System" "arraycopy" 5 ≤ 60 := by decide +kernel
section XCopy
variable {E : xE} {mi : xMI} {d kc ks pc : Nat} {Post : xO → xWd → Prop} {L st : List Value} {σ : xS}
def xws (E : xE) (σ : xS) : va_W := (List.range 26).map fun k => (xB E + k, xen E 23 k (σ k))
theorem xws_get {k : Nat} (hk : k < 26) : (xws E σ)[k]? = some (xB E + k, xen E 23 k (σ k)) := by
  simp [xws, hk]
theorem xws_lt {k : Nat} {q : Nat × va_E} (h : (xws E σ)[k]? = some q) : k < 26 := by
  have := (List.getElem?_eq_some_iff.mp h).1
  simpa [xws] using this
theorem XR.copyI {q0 q1 n0 n1 index : Nat} {sp dp n : Int32} (hd : decode (xcc mi) pc = .ok (.invokestatic index, 3)) (hl : Cond.methodLink (xy mi).cls index xacp ∈ xTs) (hq0 : q0 < 26) (hq1 : q1 < 26) (he0 : ∀ f, xen E 23 q0 f = .inl (xcI E, n0, .inl f)) (he1 : ∀ f, xen E 23 q1 f = .inl (xcI E, n1, .inl f))
    (h1 : ¬ sp < 0) (h2 : ¬ dp < 0) (h3 : ¬ n < 0) (h4 : xn sp + xn n ≤ n0) (h5 : xn dp + xn n ≤ n1) (hd1 : 1 ≤ d) (hst : (st.map fun v => v.category).sum ≤ 8)
    (k : XR E mi d kc ks Post (pc + 3) L st (xm (xup σ q1 (va_cpy (σ q0) (σ q1) (xn sp) (xn dp) (xn n))))) : XR E mi d kc ks Post pc L (.int n :: .int dp :: .ref (xB E + q1) :: .int sp :: .ref (xB E + q0) :: st) (xm σ) := by
  intro p e R s m args below meth c hB H locs cells slots ls hl2 hH hS g1 g2
  have hC := hB.2.2.2.2.2.2.2.2.2.1
  have hR := hB.2.2.2.2.2.2.2.2.2.2
  have hts := hB.2.2.2.2.1
  have hP : va_P (xD E) vwCl (xws E σ) H := fun j q hj => by
    have hj26 := xws_lt hj
    rw [xws_get hj26] at hj
    cases hj
    exact hH.1 j hj26
  have hD : va_D (fun q => xB E ≤ q) (xws E σ) := ⟨fun i j a b hi hj hab => by
    rw [xws_get (xws_lt hi)] at hi
    rw [xws_get (xws_lt hj)] at hj
    cases hi; cases hj
    have : xB E + i = xB E + j := hab
    omega, fun j q hj => by
    rw [xws_get (xws_lt hj)] at hj
    cases hj
    exact Nat.le_add_right _ _⟩
  refine va_copyi (D := xD E) (cl := vwCl) (A := fun q => xB E ≤ q) hB.1 hB.2.1 (by rw [hB.2.2.1]; exact hl2.1.symm) hB.2.2.2.1 (hts _ hl) (hts _ ac_nat) (hts _ ac_stat) (hts _ it_java_lang_System) hC.2.1 hP hD hS q0 q1 0 0 (ty := .int) (by rw [xws_get hq0, he0]) (by rw [xws_get hq1, he1]) rfl rfl rfl h1 h2 h3 h4 h5 (fun _ _ => rfl) (by omega) ?_ hd fun H1 locs1 hP1 hD1 hS1 => ?_
  · have h6 := hR.2
    unfold xlo at h6
    have h7 := ac_words
    omega
  · refine k p e R s m args below meth c hB H1 locs1 cells slots ls hl2 ⟨fun j hj => ?_, ?_, fun h => absurd h (Nat.lt_irrefl 26)⟩ hS1 g1 g2
    · have hj' : j < 26 := hj
      by_cases e1 : j = q1
      · subst e1
        have := hP1 j (xB E + j, .inl (xcI E, n1, .inl (va_cpy (σ q0) (σ j) (xn sp) (xn dp) (xn n)))) (by rw [List.getElem?_set_self (by simp [xws]; exact hj')])
        show va_at (xD E) vwCl (xB E + j, xen E 23 j (xup σ j _ j)) H1
        rw [xup_same, he1]
        exact this
      · have := hP1 j (xB E + j, xen E 23 j (σ j)) (by rw [List.getElem?_set_ne (Ne.symm e1)]; exact xws_get hj')
        show va_at (xD E) vwCl (xB E + j, xen E 23 j (xup σ q1 _ j)) H1
        rw [xup_ne e1]
        exact this
    · show xB E + 26 ≤ H1.size
      have h25 : va_at (xD E) vwCl (xB E + 25, xen E 23 25 (xup σ q1 (va_cpy (σ q0) (σ q1) (xn sp) (xn dp) (xn n)) 25)) H1 := by
        by_cases e1 : 25 = q1
        · subst e1
          exact absurd (he1 (fun _ => 0)) (by intro h; simp [xen] at h)
        · have := hP1 25 (xB E + 25, xen E 23 25 (σ 25)) (by rw [List.getElem?_set_ne (Ne.symm e1)]; exact xws_get (by decide))
          rw [xup_ne e1]
          exact this
      have : H1[xB E + 25]? = some (vp_cell (xcJ E) (1, .inr (.inl (fun i => (xup σ q1 (va_cpy (σ q0) (σ q1) (xn sp) (xn dp) (xn n)) 25 i).toInt64)))) := h25
      have := (Array.getElem?_eq_some_iff.mp this).1
      omega
end XCopy
def sGaF (frm heir : Int32) : Nat → Nat → Nat → Nat → xS → Nat × Nat × xS
  | 0, _, k, g, σ => (k, g, σ)
  | f + 1, i, k, g, σ => if σ 9 (xn (σ 12 i)) = frm then sGaF frm heir f (i + 1) k (g + 1) (xu (xu σ 9 (xn (σ 12 i)) heir) 13 g (σ 12 i)) else sGaF frm heir f (i + 1) (k + 1) g (xu σ 12 k (σ 12 i))
def sGaE (t : Nat × Nat × xS) : xS := xup t.2.2 12 (va_cpy (t.2.2 13) (t.2.2 12) 0 t.1 t.2.1)
def sGa (σ : xS) (m : Nat) (frm heir : Int32) : xS := sGaE (sGaF frm heir m 0 0 0 σ)
section XGive
variable {E : xE} {σ : xS} {x y : Int32}
theorem c_S_giveAll {m : Nat} (ho : oOK σ m) : XC E i_S_giveAll 1 0 0 [.ref (xB E + 7), .int x, .int y] (xm σ) (xok none (xm (sGa σ m x y))) := by
  refine XC.ofF (by decide +kernel) cd_S_giveAll rfl (xle rfl) ?_
  have loop : ∀ (f i k g : Nat) (τ : xS) (z : List Value), z.length ≤ 1 → i + f = m → k + g = i → oOK τ m → XR E i_S_giveAll 1 0 0 (xok none (xm (sGaE (sGaF x y f i k g τ)))) 8 ([.ref (xB E + 7), .int x, .int y, .int (nI k), .int (nI g), .int (nI i)] ++ z) [] (xm τ) := by
    intro f
    induction f with
    | zero =>
      intro i k g τ z hz hi hk ho
      have : i = m := by omega
      subst this
      have hm := ho.2.1
      have ek : xn (nI k) = k := nI_clamp (by omega)
      have eg : xn (nI g) = g := nI_clamp (by omega)
      refine XR.locals (L' := [.ref (xB E + 7), .int x, .int y, .int (nI k), .int (nI g), .int (nI i)]) (fun j v hj => by rw [List.getElem?_append_left (List.getElem?_eq_some_iff.mp hj).1]; exact hj) ?_
      refine XR.iload d_S_giveAll_8 rfl ?_
      refine XR.aload_n d_S_giveAll_10 rfl ?_
      refine XR.getint d_S_giveAll_11 (xle rfl) rfl rfl uin_S (fk := 6) (xle rfl) f_S_40 rfl ?_
      refine XR.icmp_ge d_S_giveAll_14 (tgt := 77) (by decide) (fun _ => ?_) (fun h => absurd (by show τ 7 6 ≤ nI i; rw [ho.1]; exact Int32.le_refl _) h)
      refine XR.aload_n d_S_giveAll_77 rfl ?_
      refine XR.getref d_S_giveAll_78 (xle rfl) rfl rfl uin_S (fk := 5) (xle rfl) f_S_27 rfl (xle rfl) ?_
      refine XR.iconst d_S_giveAll_81 (v := nI 0) (by decide) ?_
      refine XR.aload_n d_S_giveAll_82 rfl ?_
      refine XR.getref d_S_giveAll_83 (xle rfl) rfl rfl uin_S (fk := 4) (xle rfl) f_S_24 rfl (xle rfl) ?_
      refine XR.iload_n d_S_giveAll_86 rfl ?_
      refine XR.iload d_S_giveAll_87 rfl ?_
      refine XR.copyI d_S_giveAll_89 l_S_62 (xle rfl) (xle rfl) (fun _ => rfl) (fun _ => rfl) (by decide) (nI_pos (by omega)) (nI_pos (by omega)) (by rw [eg, show xn (nI 0) = 0 from rfl]; omega) (by rw [eg, ek]; omega) (xle rfl) (xle rfl) ?_
      rw [eg, ek, show xn (nI 0) = 0 from rfl]
      exact XR.return_ d_S_giveAll_92 rfl ⟨rfl, rfl⟩
    | succ f ih =>
      intro i k g τ z hz hi hk ho
      have h4 := ho.2.2 i (by omega)
      have hm := ho.2.1
      have e1 : ¬ τ 9 (xn (τ 12 i)) = x → sGaF x y (f + 1) i k g τ = sGaF x y f (i + 1) (k + 1) g (xu τ 12 k (τ 12 i)) := fun h => by simp only [sGaF, if_neg h]
      have e2 : τ 9 (xn (τ 12 i)) = x → sGaF x y (f + 1) i k g τ = sGaF x y f (i + 1) k (g + 1) (xu (xu τ 9 (xn (τ 12 i)) y) 13 g (τ 12 i)) := fun h => by simp only [sGaF, if_pos h]
      have ho1 : oOK (xu τ 12 k (τ 12 i)) m := ⟨ho.1, hm, fun j hj => by
        rw [xu_at]
        split
        · exact h4
        · exact ho.2.2 j hj⟩
      refine XR.locals (L' := [.ref (xB E + 7), .int x, .int y, .int (nI k), .int (nI g), .int (nI i)]) (fun j v hj => by rw [List.getElem?_append_left (List.getElem?_eq_some_iff.mp hj).1]; exact hj) ?_
      refine XR.iload d_S_giveAll_8 rfl ?_
      refine XR.aload_n d_S_giveAll_10 rfl ?_
      refine XR.getint d_S_giveAll_11 (xle rfl) rfl rfl uin_S (fk := 6) (xle rfl) f_S_40 rfl ?_
      refine XR.icmp_ge d_S_giveAll_14 (tgt := 77) (by decide) (fun h => absurd h (by show ¬ τ 7 6 ≤ nI i; rw [ho.1]; exact nI_ge (by omega) (by omega))) (fun _ => ?_)
      refine XR.aload_n d_S_giveAll_17 rfl ?_
      refine XR.getref d_S_giveAll_18 (xle rfl) rfl rfl uin_S (fk := 4) (xle rfl) f_S_24 rfl (xle rfl) ?_
      refine XR.iload d_S_giveAll_21 rfl ?_
      refine XR.ialoadN d_S_giveAll_23 (xle rfl) (fun _ => rfl) (by omega) (xle rfl) ?_
      refine XR.istore d_S_giveAll_24 (xle rfl) rfl ?_
      refine XR.aload_n d_S_giveAll_26 rfl ?_
      refine XR.getref d_S_giveAll_27 (xle rfl) rfl rfl uin_S (fk := 1) (xle rfl) f_S_15 rfl (xle rfl) ?_
      refine XR.iload d_S_giveAll_30 rfl ?_
      refine XR.iaload d_S_giveAll_32 (xle rfl) (fun _ => rfl) h4 ?_
      refine XR.iload_n d_S_giveAll_33 rfl ?_
      refine XR.icmp_ne d_S_giveAll_34 (tgt := 60) (by decide) (fun h34 => ?_) (fun h34 => ?_)
      · refine XR.aload_n d_S_giveAll_60 rfl ?_
        refine XR.getref d_S_giveAll_61 (xle rfl) rfl rfl uin_S (fk := 4) (xle rfl) f_S_24 rfl (xle rfl) ?_
        refine XR.iload_n d_S_giveAll_64 rfl ?_
        refine XR.iload d_S_giveAll_65 rfl ?_
        refine XR.iastoreN d_S_giveAll_67 (xle rfl) (fun _ => rfl) (by omega) (xle rfl) ?_
        refine XR.iincN d_S_giveAll_68 rfl (xle rfl) rfl ?_
        refine XR.iincN d_S_giveAll_71 rfl (xle rfl) rfl ?_
        refine XR.goto d_S_giveAll_74 (tgt := 8) (by decide) ?_
        first | (rw [e1 h34]; exact ih (i + 1) (k + 1) g _ [_] (Nat.le_refl _) (by omega) (by omega) ho1) | (rw [e2 h34]; exact ih (i + 1) k (g + 1) _ [_] (Nat.le_refl _) (by omega) (by omega) ho)
      refine XR.aload_n d_S_giveAll_37 rfl ?_
      refine XR.getref d_S_giveAll_38 (xle rfl) rfl rfl uin_S (fk := 1) (xle rfl) f_S_15 rfl (xle rfl) ?_
      refine XR.iload d_S_giveAll_41 rfl ?_
      refine XR.iload_n d_S_giveAll_43 rfl ?_
      refine XR.iastore d_S_giveAll_44 (xle rfl) (fun _ => rfl) h4 ?_
      refine XR.aload_n d_S_giveAll_45 rfl ?_
      refine XR.getref d_S_giveAll_46 (xle rfl) rfl rfl uin_S (fk := 5) (xle rfl) f_S_27 rfl (xle rfl) ?_
      refine XR.iload d_S_giveAll_49 rfl ?_
      refine XR.iload d_S_giveAll_51 rfl ?_
      refine XR.iastoreN d_S_giveAll_53 (xle rfl) (fun _ => rfl) (by omega) (xle rfl) ?_
      refine XR.iincN d_S_giveAll_54 rfl (xle rfl) rfl ?_
      refine XR.goto d_S_giveAll_57 (tgt := 71) (by decide) ?_
      refine XR.iincN d_S_giveAll_71 rfl (xle rfl) rfl ?_
      refine XR.goto d_S_giveAll_74 (tgt := 8) (by decide) ?_
      first | (rw [e1 h34]; exact ih (i + 1) (k + 1) g _ [_] (Nat.le_refl _) (by omega) (by omega) ho1) | (rw [e2 h34]; exact ih (i + 1) k (g + 1) _ [_] (Nat.le_refl _) (by omega) (by omega) ho)
  refine XR.iconst d_S_giveAll_0 (v := nI 0) (by decide) ?_
  refine XR.istore_n d_S_giveAll_1 (xle rfl) rfl ?_
  refine XR.iconst d_S_giveAll_2 (v := nI 0) (by decide) ?_
  refine XR.istore d_S_giveAll_3 (xle rfl) rfl ?_
  refine XR.iconst d_S_giveAll_5 (v := nI 0) (by decide) ?_
  refine XR.istore d_S_giveAll_6 (xle rfl) rfl ?_
  exact loop m 0 0 0 σ [] (by decide) (by omega) (by omega) ho
end XGive
end
section
/-! numbers of 32 bits as integers -/
theorem bm32 {n : Int} (h1 : -2147483648 ≤ n) (h2 : n ≤ 2147483647) : n.bmod (2 ^ 32) = n := by
  have e : ((2 ^ 32 : Nat) : Int) = 4294967296 := by decide
  exact Int.bmod_eq_of_le (by rw [e]; omega) (by rw [e]; omega)
theorem xrg (x : Int32) : -2147483648 ≤ x.toInt ∧ x.toInt ≤ 2147483647 := by
  have h1 := Int32.le_toInt x
  have h2 := Int32.toInt_lt x
  omega
theorem tiA {x y : Int32} (h1 : -2147483648 ≤ x.toInt + y.toInt) (h2 : x.toInt + y.toInt ≤ 2147483647) : (x + y).toInt = x.toInt + y.toInt := by
  rw [Int32.toInt_add, bm32 h1 h2]
theorem tiS {x y : Int32} (h1 : -2147483648 ≤ x.toInt - y.toInt) (h2 : x.toInt - y.toInt ≤ 2147483647) : (x - y).toInt = x.toInt - y.toInt := by
  rw [Int32.toInt_sub, bm32 h1 h2]
theorem tiM {x y : Int32} (h1 : -2147483648 ≤ x.toInt * y.toInt) (h2 : x.toInt * y.toInt ≤ 2147483647) : (x * y).toInt = x.toInt * y.toInt := by
  rw [Int32.toInt_mul, bm32 h1 h2]
theorem tiN {x : Int32} (h1 : -2147483647 ≤ x.toInt) : (-x).toInt = -x.toInt := by
  have := xrg x
  rw [Int32.toInt_neg, bm32 (by omega) (by omega)]
theorem ti_eq {x y : Int32} : x = y ↔ x.toInt = y.toInt := Int32.toInt_inj.symm
theorem tdiv_pos {a : Int} (b : Int) (h : 0 ≤ a) : a.tdiv b = a / b := Int.tdiv_eq_ediv_of_nonneg h
theorem tdiv_neg {a : Int} (b : Int) (h : a ≤ 0) : a.tdiv b = -((-a) / b) := by
  have : a = -(-a) := by omega
  rw [this, Int.neg_tdiv, Int.tdiv_eq_ediv_of_nonneg (by omega)]
  simp
theorem msb_nn (x : Int32) : 0 ≤ x.toInt ↔ x.toBitVec.msb = false := by
  rw [BitVec.msb_eq_toInt]
  have : x.toInt = x.toBitVec.toInt := rfl
  rw [this]
  simp
theorem xor_nn (k : Int32) : 0 ≤ k ^^^ 1024 ↔ 0 ≤ k := by
  have h0 : (0 : Int32).toInt = 0 := by decide
  rw [Int32.le_iff_toInt_le, Int32.le_iff_toInt_le, h0, msb_nn, msb_nn, Int32.toBitVec_xor, BitVec.msb_xor]
  have : (1024 : Int32).toBitVec.msb = false := by decide
  rw [this]
  simp
theorem div1024 (k : Int32) : (k / 1024).toInt = if 0 ≤ k.toInt then k.toInt / 1024 else -((-k.toInt) / 1024) := by
  have h1 : (1024 : Int32).toInt = 1024 := by decide
  have hb := xrg k
  rw [Int32.toInt_div, h1]
  split
  · next h => rw [tdiv_pos _ h, bm32 (by omega) (by omega)]
  · next h => rw [tdiv_neg _ (by omega), bm32 (by omega) (by omega)]
theorem rem1024 (k : Int32) : (k - k / 1024 * 1024).toInt = if 0 ≤ k.toInt then k.toInt % 1024 else -((-k.toInt) % 1024) := by
  have h1 : (1024 : Int32).toInt = 1024 := by decide
  have hb := xrg k
  have hd := div1024 k
  by_cases h : 0 ≤ k.toInt
  · rw [if_pos h] at hd ⊢
    have e1 : (k / 1024 * 1024).toInt = k.toInt / 1024 * 1024 := by rw [tiM (by rw [hd, h1]; omega) (by rw [hd, h1]; omega), hd, h1]
    rw [tiS (by rw [e1]; omega) (by rw [e1]; omega), e1]
    omega
  · rw [if_neg h] at hd ⊢
    have e1 : (k / 1024 * 1024).toInt = -((-k.toInt) / 1024) * 1024 := by rw [tiM (by rw [hd, h1]; omega) (by rw [hd, h1]; omega), hd, h1]
    rw [tiS (by rw [e1]; omega) (by rw [e1]; omega), e1]
    omega
end
section
/-! the class's own helpers -/
def jMod (x y : Int32) : Int32 := if 0 ≤ x ^^^ y then x - x / y * y else if x - x / y * y = 0 then x - x / y * y else x - x / y * y + y
def jDiv (x y : Int32) : Int32 := if 0 ≤ x ^^^ y then x / y else if x / y * y = x then x / y else x / y - 1
def bPl (k : Int32) : Int32 := jMod k 1024 / 2
def bVe (k : Int32) : Int32 := jDiv k 1024
def bAl (σ : xS) (k : Int32) : Bool := sHas σ (bPl k) (bVe k) && !tDy σ (σ 9 (xn (bPl k)))
/-- owners are none or banks' numbers -/
def wOK (σ : xS) : Prop := ∀ p, p < 192 → σ 9 p = -1 ∨ vp_in (σ 9 p) 40
section XBanks
variable {E : xE} {σ : xS} {x y n : Int32}
theorem c_J_floorMod (hy : ¬ y = 0) : XC E i_J_floorMod 1 0 0 [.int x, .int y] (xm σ) (xok (some (.int (jMod x y))) (xm σ)) := by
  refine XC.ofF (by decide +kernel) cd_J_floorMod rfl (xle rfl) ?_
  have q1 : 0 ≤ x ^^^ y → jMod x y = x - x / y * y := fun a => by simp only [jMod, if_pos a]
  have q2 : ¬ 0 ≤ x ^^^ y → x - x / y * y = 0 → jMod x y = x - x / y * y := fun a b => by rw [jMod, if_neg a, if_pos b]
  have q3 : ¬ 0 ≤ x ^^^ y → ¬ x - x / y * y = 0 → jMod x y = x - x / y * y + y := fun a b => by rw [jMod, if_neg a, if_neg b]
  refine XR.iload_n d_J_floorMod_0 rfl ?_
  refine XR.iload_n d_J_floorMod_1 rfl ?_
  refine XR.irem d_J_floorMod_2 hy ?_
  refine XR.istore_n d_J_floorMod_3 (xle rfl) rfl ?_
  refine XR.iload_n d_J_floorMod_4 rfl ?_
  refine XR.iload_n d_J_floorMod_5 rfl ?_
  refine XR.ixor d_J_floorMod_6 ?_
  refine XR.if_ge d_J_floorMod_7 (tgt := 18) (by decide) (fun h7 => ?_) (fun h7 => ?_)
  · refine XR.iload_n d_J_floorMod_18 rfl ?_
    refine XR.xreturn d_J_floorMod_19 rfl ?_
    first | exact ⟨by rw [q1 h7], rfl⟩ | exact ⟨by rw [q2 h7 h11], rfl⟩
  refine XR.iload_n d_J_floorMod_10 rfl ?_
  refine XR.if_eq d_J_floorMod_11 (tgt := 18) (by decide) (fun h11 => ?_) (fun h11 => ?_)
  · refine XR.iload_n d_J_floorMod_18 rfl ?_
    refine XR.xreturn d_J_floorMod_19 rfl ?_
    first | exact ⟨by rw [q1 h7], rfl⟩ | exact ⟨by rw [q2 h7 h11], rfl⟩
  refine XR.iload_n d_J_floorMod_14 rfl ?_
  refine XR.iload_n d_J_floorMod_15 rfl ?_
  refine XR.iadd d_J_floorMod_16 ?_
  refine XR.xreturn d_J_floorMod_17 rfl ?_
  exact ⟨by rw [q3 h7 h11], rfl⟩
theorem c_J_floorDiv (hy : ¬ y = 0) : XC E i_J_floorDiv 1 0 0 [.int x, .int y] (xm σ) (xok (some (.int (jDiv x y))) (xm σ)) := by
  refine XC.ofF (by decide +kernel) cd_J_floorDiv rfl (xle rfl) ?_
  have q1 : 0 ≤ x ^^^ y → jDiv x y = x / y := fun a => by rw [jDiv, if_pos a]
  have q2 : ¬ 0 ≤ x ^^^ y → x / y * y = x → jDiv x y = x / y := fun a b => by rw [jDiv, if_neg a, if_pos b]
  have q3 : ¬ 0 ≤ x ^^^ y → ¬ x / y * y = x → jDiv x y = x / y - 1 := fun a b => by rw [jDiv, if_neg a, if_neg b]
  refine XR.iload_n d_J_floorDiv_0 rfl ?_
  refine XR.iload_n d_J_floorDiv_1 rfl ?_
  refine XR.idiv d_J_floorDiv_2 hy ?_
  refine XR.istore_n d_J_floorDiv_3 (xle rfl) rfl ?_
  refine XR.iload_n d_J_floorDiv_4 rfl ?_
  refine XR.iload_n d_J_floorDiv_5 rfl ?_
  refine XR.ixor d_J_floorDiv_6 ?_
  refine XR.if_ge d_J_floorDiv_7 (tgt := 21) (by decide) (fun h7 => ?_) (fun h7 => ?_)
  · refine XR.iload_n d_J_floorDiv_21 rfl ?_
    refine XR.xreturn d_J_floorDiv_22 rfl ?_
    first | exact ⟨by rw [q1 h7], rfl⟩ | exact ⟨by rw [q2 h7 h14], rfl⟩
  refine XR.iload_n d_J_floorDiv_10 rfl ?_
  refine XR.iload_n d_J_floorDiv_11 rfl ?_
  refine XR.imul d_J_floorDiv_12 ?_
  refine XR.iload_n d_J_floorDiv_13 rfl ?_
  refine XR.icmp_eq d_J_floorDiv_14 (tgt := 21) (by decide) (fun h14 => ?_) (fun h14 => ?_)
  · refine XR.iload_n d_J_floorDiv_21 rfl ?_
    refine XR.xreturn d_J_floorDiv_22 rfl ?_
    first | exact ⟨by rw [q1 h7], rfl⟩ | exact ⟨by rw [q2 h7 h14], rfl⟩
  refine XR.iload_n d_J_floorDiv_17 rfl ?_
  refine XR.iconst d_J_floorDiv_18 (v := 1) (by decide) ?_
  refine XR.isub d_J_floorDiv_19 ?_
  refine XR.xreturn d_J_floorDiv_20 rfl ?_
  exact ⟨by rw [q3 h7 h14], rfl⟩
theorem c_B_placeOf : XC E i_B_placeOf 2 0 0 [.int x] (xm σ) (xok (some (.int (bPl x))) (xm σ)) := by
  refine XC.ofF (by decide +kernel) cd_B_placeOf rfl (xle rfl) ?_
  refine XR.iload_n d_B_placeOf_0 rfl ?_
  refine XR.sipush d_B_placeOf_1 (v := 1024) (by decide) ?_
  refine XR.cS (as := [_, _]) d_B_placeOf_4 l_B_234 ks_J_floorMod (c_J_floorMod (by decide)) rfl (xle rfl) (xle rfl) ?_
  refine XR.iconst d_B_placeOf_7 (v := 2) (by decide) ?_
  refine XR.idiv d_B_placeOf_8 (by decide) ?_
  refine XR.xreturn d_B_placeOf_9 rfl ?_
  exact ⟨rfl, rfl⟩
theorem c_B_versionOf : XC E i_B_versionOf 2 0 0 [.int x] (xm σ) (xok (some (.int (bVe x))) (xm σ)) := by
  refine XC.ofF (by decide +kernel) cd_B_versionOf rfl (xle rfl) ?_
  refine XR.iload_n d_B_versionOf_0 rfl ?_
  refine XR.sipush d_B_versionOf_1 (v := 1024) (by decide) ?_
  refine XR.cS (as := [_, _]) d_B_versionOf_4 l_B_237 ks_J_floorDiv (c_J_floorDiv (by decide)) rfl (xle rfl) (xle rfl) ?_
  refine XR.xreturn d_B_versionOf_7 rfl ?_
  exact ⟨rfl, rfl⟩
theorem jMod_i (k : Int32) : (jMod k 1024).toInt = k.toInt % 1024 := by
  have h0 : (0 : Int32).toInt = 0 := by decide
  have h1 : (1024 : Int32).toInt = 1024 := by decide
  have hb := xrg k
  have hr := rem1024 k
  by_cases h : 0 ≤ k
  · have h' : 0 ≤ k.toInt := by rw [Int32.le_iff_toInt_le, h0] at h; exact h
    rw [if_pos h'] at hr
    rw [jMod, if_pos ((xor_nn k).mpr h), hr]
  · have h' : ¬ 0 ≤ k.toInt := by rw [Int32.le_iff_toInt_le, h0] at h; exact h
    rw [if_neg h'] at hr
    rw [jMod, if_neg (fun q => h ((xor_nn k).mp q))]
    split
    · next e => rw [ti_eq, h0, hr] at e; rw [hr]; omega
    · next e =>
      rw [ti_eq, h0, hr] at e
      rw [tiA (by rw [hr, h1]; omega) (by rw [hr, h1]; omega), hr, h1]
      omega
theorem jDiv_i (k : Int32) : (jDiv k 1024).toInt = k.toInt / 1024 := by
  have h0 : (0 : Int32).toInt = 0 := by decide
  have h1 : (1024 : Int32).toInt = 1024 := by decide
  have h2 : (1 : Int32).toInt = 1 := by decide
  have hb := xrg k
  have hd := div1024 k
  by_cases h : 0 ≤ k
  · have h' : 0 ≤ k.toInt := by rw [Int32.le_iff_toInt_le, h0] at h; exact h
    rw [if_pos h'] at hd
    rw [jDiv, if_pos ((xor_nn k).mpr h), hd]
  · have h' : ¬ 0 ≤ k.toInt := by rw [Int32.le_iff_toInt_le, h0] at h; exact h
    rw [if_neg h'] at hd
    have e1 : (k / 1024 * 1024).toInt = -((-k.toInt) / 1024) * 1024 := by rw [tiM (by rw [hd, h1]; omega) (by rw [hd, h1]; omega), hd, h1]
    rw [jDiv, if_neg (fun q => h ((xor_nn k).mp q))]
    split
    · next e => rw [ti_eq, e1] at e; rw [hd]; omega
    · next e =>
      rw [ti_eq, e1] at e
      rw [tiS (by rw [hd, h2]; omega) (by rw [hd, h2]; omega), hd, h2]
      omega
theorem bPl_i (k : Int32) : (bPl k).toInt = k.toInt % 1024 / 2 := by
  have h2 : (2 : Int32).toInt = 2 := by decide
  have h := jMod_i k
  rw [bPl, Int32.toInt_div, h, h2, tdiv_pos _ (by omega), bm32 (by omega) (by omega)]
theorem bVe_i (k : Int32) : (bVe k).toInt = k.toInt / 1024 := jDiv_i k
theorem bPl_nn (k : Int32) : ¬ bPl k < 0 := by
  have h0 : (0 : Int32).toInt = 0 := by decide
  rw [Int32.lt_iff_toInt_lt, bPl_i, h0]
  omega
theorem bAl_in (h : bAl σ x = true) : vp_in (bPl x) 192 ∧ ¬ σ 9 (xn (bPl x)) = -1 := by
  simp only [bAl, sHas, Bool.and_eq_true, Bool.not_eq_true', decide_eq_false_iff_not] at h
  refine ⟨vp_in_lt (bPl_nn x) h.1.1.1 (by decide), ?_⟩
  have := h.1.1.2
  simpa [sTk] using this
theorem c_B_isAlive (hw : wOK σ) : XC E i_B_isAlive 3 0 0 [.ref (xB E + 0), .int x] (xm σ) (xok (some (.int (bz (bAl σ x)))) (xm σ)) := by
  refine XC.ofF (by decide +kernel) cd_B_isAlive rfl (xle rfl) ?_
  have g1 : sHas σ (bPl x) (bVe x) = true → vp_in (bPl x) 192 ∧ vp_in (σ 9 (xn (bPl x))) 40 := fun h => by
    simp only [sHas, Bool.and_eq_true, Bool.not_eq_true', decide_eq_false_iff_not] at h
    have h1 := vp_in_lt (bPl_nn x) h.1.1 (by decide : (192 : Int32).toInt = 192)
    refine ⟨h1, (hw _ (vp_in_xn h1)).resolve_left ?_⟩
    have := h.1.2
    simpa [sTk] using this
  have z : ¬ bz (sHas σ (bPl x) (bVe x)) = 0 → sHas σ (bPl x) (bVe x) = true := fun h => by rw [bz_z] at h; simpa using h
  refine XR.iload_n d_B_isAlive_0 rfl ?_
  refine XR.cS (as := [_]) d_B_isAlive_1 l_B_67 ks_B_placeOf (c_B_placeOf) rfl (xle rfl) (xle rfl) ?_
  refine XR.istore_n d_B_isAlive_4 (xle rfl) rfl ?_
  refine XR.aload_n d_B_isAlive_5 rfl ?_
  refine XR.getref d_B_isAlive_6 (xle rfl) rfl rfl uin_B (fk := 1) (xle rfl) f_B_19 rfl (xle rfl) ?_
  refine XR.iload_n d_B_isAlive_9 rfl ?_
  refine XR.iload_n d_B_isAlive_10 rfl ?_
  refine XR.cS (as := [_]) d_B_isAlive_11 l_B_175 ks_B_versionOf (c_B_versionOf) rfl (xle rfl) (xle rfl) ?_
  refine XR.cV (as := [_, _]) d_B_isAlive_14 l_B_178 kv_S_hasPage (c_S_hasPage (bPl_nn x)) rfl (xle rfl) rfl rfl (xle rfl) (xle rfl) ?_
  refine XR.if_eq d_B_isAlive_17 (tgt := 42) (by decide) (fun h17 => ?_) (fun h17 => ?_)
  · refine XR.iconst d_B_isAlive_42 (v := 0) (by decide) ?_
    refine XR.zret0 d_B_isAlive_43 rfl ?_
    exact xok_0 (by simp_all [bAl, bz_z])
  refine XR.aload_n d_B_isAlive_20 rfl ?_
  refine XR.getref d_B_isAlive_21 (xle rfl) rfl rfl uin_B (fk := 0) (xle rfl) f_B_10 rfl (xle rfl) ?_
  refine XR.aload_n d_B_isAlive_24 rfl ?_
  refine XR.getref d_B_isAlive_25 (xle rfl) rfl rfl uin_B (fk := 1) (xle rfl) f_B_19 rfl (xle rfl) ?_
  refine XR.iload_n d_B_isAlive_28 rfl ?_
  refine XR.cV (as := [_]) d_B_isAlive_29 l_B_74 kv_S_ownerOf (c_S_ownerOf (g1 (z h17)).1) rfl (xle rfl) rfl rfl (xle rfl) (xle rfl) ?_
  refine XR.cV (as := [_]) d_B_isAlive_32 l_B_77 kv_T_isDying (c_T_isDying (g1 (z h17)).2) rfl (xle rfl) rfl rfl (xle rfl) (xle rfl) ?_
  refine XR.if_ne d_B_isAlive_35 (tgt := 42) (by decide) (fun h35 => ?_) (fun h35 => ?_)
  · refine XR.iconst d_B_isAlive_42 (v := 0) (by decide) ?_
    refine XR.zret0 d_B_isAlive_43 rfl ?_
    exact xok_0 (by simp_all [bAl, bz_z])
  refine XR.iconst d_B_isAlive_38 (v := 1) (by decide) ?_
  refine XR.goto d_B_isAlive_39 (tgt := 43) (by decide) ?_
  refine XR.zret1 d_B_isAlive_43 rfl ?_
  exact xok_1 (by simp_all [bAl, bz_z])
theorem c_B_requireAlive (hw : wOK σ) : XC E i_B_requireAlive 6 0 0 [.ref (xB E + 0), .int x] (xm σ) (xtry (bAl σ x = false) "java/util/NoSuchElementException" (xm σ) none (xm σ)) := by
  refine XC.ofF (by decide +kernel) cd_B_requireAlive rfl (xle rfl) ?_
  refine XR.aload_n d_B_requireAlive_0 rfl ?_
  refine XR.iload_n d_B_requireAlive_1 rfl ?_
  refine XR.cV (as := [_]) d_B_requireAlive_2 l_B_222 kv_B_isAlive (c_B_isAlive hw) rfl (xle rfl) rfl rfl (xle rfl) (xle rfl) ?_
  refine XR.if_ne d_B_requireAlive_5 (tgt := 16) (by decide) (fun h5 => ?_) (fun h5 => ?_)
  · refine XR.return_ d_B_requireAlive_16 rfl ?_
    exact ⟨fun h => absurd (by rw [h]; rfl) h5, fun _ => ⟨rfl, rfl⟩⟩
  refine XR.throw (names := xnames) d_B_requireAlive_8 d_B_requireAlive_11 d_B_requireAlive_12 d_B_requireAlive_15 c_B_225 in_java_util_NoSuchElementException it_java_util_NoSuchElementException fit_NoSuchElementException xnames_fit ta_NoSuchElementException (xnlt rfl) (fun _ hx => absurd hx List.not_mem_nil) (xle rfl) (xle rfl) ?_
  exact ⟨fun _ => ⟨rfl, rfl⟩, fun h => absurd (by rw [bz_z] at h5; exact h5) h⟩
theorem c_B_requireBank : XC E i_B_requireBank 7 0 0 [.ref (xB E + 0), .int x] (xm σ) (xtry (tBk σ x = false) "java/lang/IndexOutOfBoundsException" (xm σ) none (xm σ)) := by
  refine XC.ofF (by decide +kernel) cd_B_requireBank rfl (xle rfl) ?_
  refine XR.aload_n d_B_requireBank_0 rfl ?_
  refine XR.getref d_B_requireBank_1 (xle rfl) rfl rfl uin_B (fk := 0) (xle rfl) f_B_10 rfl (xle rfl) ?_
  refine XR.iload_n d_B_requireBank_4 rfl ?_
  refine XR.cV (as := [_]) d_B_requireBank_5 l_B_190 kv_T_isBank (c_T_isBank) rfl (xle rfl) rfl rfl (xle rfl) (xle rfl) ?_
  refine XR.cSt (as := [_]) d_B_requireBank_8 l_B_96 ks_B_requireIndex (c_B_requireIndex) rfl (xle rfl) (xle rfl) rfl (fun h8 => ?_) (fun h8 => ?_)
  · exact ⟨fun _ => ⟨rfl, rfl⟩, fun h => absurd (by rw [bz_z] at h8; exact h8) h⟩
  refine XR.return_ d_B_requireBank_11 rfl ?_
  exact ⟨fun h => absurd (by rw [h]; rfl) h8, fun _ => ⟨rfl, rfl⟩⟩
theorem c_B_requireLive (hx : vp_in x 40) : XC E i_B_requireLive 7 0 0 [.ref (xB E + 0), .int x] (xm σ) (xtry (¬ σ 2 (xn x) = 0) "java/lang/IllegalStateException" (xm σ) none (xm σ)) := by
  refine XC.ofF (by decide +kernel) cd_B_requireLive rfl (xle rfl) ?_
  refine XR.aload_n d_B_requireLive_0 rfl ?_
  refine XR.getref d_B_requireLive_1 (xle rfl) rfl rfl uin_B (fk := 0) (xle rfl) f_B_10 rfl (xle rfl) ?_
  refine XR.iload_n d_B_requireLive_4 rfl ?_
  refine XR.cV (as := [_]) d_B_requireLive_5 l_B_163 kv_T_stateOf (c_T_stateOf hx) rfl (xle rfl) rfl rfl (xle rfl) (xle rfl) ?_
  refine XR.if_ne d_B_requireLive_8 (tgt := 15) (by decide) (fun h8 => ?_) (fun h8 => ?_)
  · refine XR.iconst d_B_requireLive_15 (v := 0) (by decide) ?_
    refine XR.cSt (as := [_]) d_B_requireLive_16 l_B_115 ks_B_requireState (c_B_requireState) rfl (xle rfl) (xle rfl) rfl (fun h16 => ?_) (fun h16 => ?_)
    · first | exact ⟨fun _ => ⟨rfl, rfl⟩, fun h => absurd h8 h⟩ | exact absurd h16 (by decide)
    refine XR.return_ d_B_requireLive_19 rfl ?_
    first | exact ⟨fun h => absurd h8 h, fun _ => ⟨rfl, rfl⟩⟩ | exact absurd rfl h16
  refine XR.iconst d_B_requireLive_11 (v := 1) (by decide) ?_
  refine XR.goto d_B_requireLive_12 (tgt := 16) (by decide) ?_
  refine XR.cSt (as := [_]) d_B_requireLive_16 l_B_115 ks_B_requireState (c_B_requireState) rfl (xle rfl) (xle rfl) rfl (fun h16 => ?_) (fun h16 => ?_)
  · first | exact ⟨fun _ => ⟨rfl, rfl⟩, fun h => absurd h8 h⟩ | exact absurd h16 (by decide)
  refine XR.return_ d_B_requireLive_19 rfl ?_
  first | exact ⟨fun h => absurd h8 h, fun _ => ⟨rfl, rfl⟩⟩ | exact absurd rfl h16
theorem c_B_requireOtherThanRoot : XC E i_B_requireOtherThanRoot 8 0 0 [.ref (xB E + 0), .int x] (xm σ) (fun o w => w = xm σ ∧ o = (if tBk σ x = false then .inr "java/lang/IndexOutOfBoundsException" else if x = 0 then .inr "java/lang/IllegalArgumentException" else .inl none)) := by
  refine XC.ofF (by decide +kernel) cd_B_requireOtherThanRoot rfl (xle rfl) ?_
  refine XR.aload_n d_B_requireOtherThanRoot_0 rfl ?_
  refine XR.iload_n d_B_requireOtherThanRoot_1 rfl ?_
  refine XR.cVt (as := [_]) d_B_requireOtherThanRoot_2 l_B_27 kv_B_requireBank (c_B_requireBank) rfl (xle rfl) rfl rfl (xle rfl) (xle rfl) rfl (fun h2 => ?_) (fun h2 => ?_)
  · exact ⟨rfl, by rw [if_pos h2]⟩
  refine XR.iload_n d_B_requireOtherThanRoot_5 rfl ?_
  refine XR.if_eq d_B_requireOtherThanRoot_6 (tgt := 13) (by decide) (fun h6 => ?_) (fun h6 => ?_)
  · refine XR.iconst d_B_requireOtherThanRoot_13 (v := 0) (by decide) ?_
    refine XR.cSt (as := [_]) d_B_requireOtherThanRoot_14 l_B_35 ks_B_requireArgument (c_B_requireArgument) rfl (xle rfl) (xle rfl) rfl (fun h14 => ?_) (fun h14 => ?_)
    · first | exact ⟨rfl, by rw [if_neg h2, if_pos h6]⟩ | exact absurd h14 (by decide)
    refine XR.return_ d_B_requireOtherThanRoot_17 rfl ?_
    first | exact ⟨rfl, by rw [if_neg h2, if_neg h6]⟩ | exact absurd rfl h14
  refine XR.iconst d_B_requireOtherThanRoot_9 (v := 1) (by decide) ?_
  refine XR.goto d_B_requireOtherThanRoot_10 (tgt := 14) (by decide) ?_
  refine XR.cSt (as := [_]) d_B_requireOtherThanRoot_14 l_B_35 ks_B_requireArgument (c_B_requireArgument) rfl (xle rfl) (xle rfl) rfl (fun h14 => ?_) (fun h14 => ?_)
  · first | exact ⟨rfl, by rw [if_neg h2, if_pos h6]⟩ | exact absurd h14 (by decide)
  refine XR.return_ d_B_requireOtherThanRoot_17 rfl ?_
  first | exact ⟨rfl, by rw [if_neg h2, if_neg h6]⟩ | exact absurd rfl h14
theorem c_B_refuse : XC E i_B_refuse 6 0 0 [.ref (xB E + 0), .int x] (xm σ) (fun o w => o = .inr "java/lang/UnsupportedOperationException" ∧ w = xm (xu σ 0 2 x)) := by
  refine XC.ofF (by decide +kernel) cd_B_refuse rfl (xle rfl) ?_
  refine XR.aload_n d_B_refuse_0 rfl ?_
  refine XR.iload_n d_B_refuse_1 rfl ?_
  refine XR.putfield d_B_refuse_2 (xle rfl) (fun _ => rfl) rfl uin_B tyB_ok nmB (fk := 2) (xle rfl) f_B_23 rfl rfl (fun _ => rfl) (fun _ => xle rfl) ?_
  refine XR.throw (names := xnames) d_B_refuse_5 d_B_refuse_8 d_B_refuse_9 d_B_refuse_12 c_B_219 in_java_lang_UnsupportedOperationException it_java_lang_UnsupportedOperationException fit_UnsupportedOperationException xnames_fit ta_UnsupportedOperationException (xnlt rfl) (fun _ hx => absurd hx List.not_mem_nil) (xle rfl) (xle rfl) ?_
  exact ⟨rfl, rfl⟩
end XBanks
end
section
/-! the class's face -/
abbrev eI : String := "java/lang/IndexOutOfBoundsException"
abbrev eA : String := "java/lang/IllegalArgumentException"
abbrev eS : String := "java/lang/IllegalStateException"
abbrev eU : String := "java/lang/UnsupportedOperationException"
abbrev eN : String := "java/util/NoSuchElementException"
/-- it ends so -/
def xfn (r : xO × xS) : xO → xWd → Prop := fun o w => o = r.1 ∧ w = xm r.2
abbrev rI (x : Int32) : xO := .inl (some (.int x))
section XFaceRules
variable {E : xE} {mi mj : xMI} {d kc ks pc d' : Nat} {Post : xO → xWd → Prop} {L st as st0 : List Value} {w : xWd}
theorem XR.cVt2 {index q ci N : Nat} {C X1 X2 : String} {Tu : u_T} {fs : List Value} {c1 c2 : Prop} [Decidable c1] [Decidable c2] (hd : decode (xcc mi) pc = .ok (.invokevirtual index, 3)) (hl : Cond.methodLink (xy mi).cls index (xy mj) ∈ xTs) (hk : xKV mj C as.length) (hM : XC E mj d' 0 0 (.ref (xB E + q) :: as) w (fun o w1 => w1 = w ∧ o = (if c1 then .inr X1 else if c2 then .inr X2 else .inl none)))
    (hst0 : st0 = as.reverse ++ .ref (xB E + q) :: st) (hq : q < w.1) (he : xen E w.2.1 q (w.2.2 q) = .inr (ci, fs)) (hc : vwCl[ci]? = some (C, Tu, N)) (hdd : d' + 1 ≤ d) (hst : (st.map fun v => v.category).sum + xnL mj ≤ 17) (hno : xhs mi = [])
    (k1 : c1 → Post (.inr X1) w) (k2 : ¬ c1 → c2 → Post (.inr X2) w) (k : ¬ c1 → ¬ c2 → XR E mi d kc ks Post (pc + 3) L st w) : XR E mi d kc ks Post pc L st0 w := by
  have hlv : ∀ {X : String}, Post (.inr X) w → XT E mi d (kc - 0) (ks - 0) Post pc L X w := fun h => XT.leave (by rw [hno]; intro x hx; cases hx) h
  by_cases h1 : c1
  · simp only [if_pos h1] at hM
    exact XR.callV hd hl hk.1 hk.2.1 hk.2.2.1 hk.2.2.2.1 hk.2.2.2.2.1 rfl hq he hc hk.2.2.2.2.2 hst0 hM hdd hst (Nat.zero_le _) (Nat.zero_le _) (fun u w1 h => by obtain ⟨-, h⟩ := h; cases h) (fun C w1 h => by obtain ⟨rfl, h⟩ := h; cases h; exact hlv (k1 h1))
  · simp only [if_neg h1] at hM
    by_cases h2 : c2
    · simp only [if_pos h2] at hM
      exact XR.callV hd hl hk.1 hk.2.1 hk.2.2.1 hk.2.2.2.1 hk.2.2.2.2.1 rfl hq he hc hk.2.2.2.2.2 hst0 hM hdd hst (Nat.zero_le _) (Nat.zero_le _) (fun u w1 h => by obtain ⟨-, h⟩ := h; cases h) (fun C w1 h => by obtain ⟨rfl, h⟩ := h; cases h; exact hlv (k2 h1 h2))
    · simp only [if_neg h2] at hM
      exact XR.callV hd hl hk.1 hk.2.1 hk.2.2.1 hk.2.2.2.1 hk.2.2.2.2.1 rfl hq he hc hk.2.2.2.2.2 hst0 hM hdd hst (Nat.zero_le _) (Nat.zero_le _) (fun u w1 h => by obtain ⟨rfl, h⟩ := h; cases h; exact k h1 h2) (fun C w1 h => by obtain ⟨-, h⟩ := h; cases h)
theorem XR.cVx {index q ci N : Nat} {C X : String} {Tu : u_T} {fs : List Value} {wC : xWd} (hd : decode (xcc mi) pc = .ok (.invokevirtual index, 3)) (hl : Cond.methodLink (xy mi).cls index (xy mj) ∈ xTs) (hk : xKV mj C as.length) (hM : XC E mj d' 0 0 (.ref (xB E + q) :: as) w (fun o w1 => o = .inr X ∧ w1 = wC))
    (hst0 : st0 = as.reverse ++ .ref (xB E + q) :: st) (hq : q < w.1) (he : xen E w.2.1 q (w.2.2 q) = .inr (ci, fs)) (hc : vwCl[ci]? = some (C, Tu, N)) (hdd : d' + 1 ≤ d) (hst : (st.map fun v => v.category).sum + xnL mj ≤ 17) (hno : xhs mi = [])
    (k1 : Post (.inr X) wC) : XR E mi d kc ks Post pc L st0 w :=
  XR.callV hd hl hk.1 hk.2.1 hk.2.2.1 hk.2.2.2.1 hk.2.2.2.2.1 rfl hq he hc hk.2.2.2.2.2 hst0 hM hdd hst (Nat.zero_le _) (Nat.zero_le _) (fun u w1 h => by obtain ⟨h, -⟩ := h; cases h) (fun C w1 h => by obtain ⟨h, rfl⟩ := h; cases h; exact XT.leave (by rw [hno]; intro x hx; cases hx) k1)
theorem XR.cVf {index q ci N : Nat} {C : String} {Tu : u_T} {fs : List Value} {r : xO × xS} (hd : decode (xcc mi) pc = .ok (.invokevirtual index, 3)) (hl : Cond.methodLink (xy mi).cls index (xy mj) ∈ xTs) (hk : xKV mj C as.length) (hM : XC E mj d' 0 0 (.ref (xB E + q) :: as) w (xfn r))
    (hst0 : st0 = as.reverse ++ .ref (xB E + q) :: st) (hq : q < w.1) (he : xen E w.2.1 q (w.2.2 q) = .inr (ci, fs)) (hc : vwCl[ci]? = some (C, Tu, N)) (hdd : d' + 1 ≤ d) (hst : (st.map fun v => v.category).sum + xnL mj ≤ 17) (hno : xhs mi = [])
    (k1 : ∀ X, r.1 = .inr X → Post (.inr X) (xm r.2)) (k : ∀ v, r.1 = .inl v → XR E mi d kc ks Post (pc + 3) L (v.toList ++ st) (xm r.2)) : XR E mi d kc ks Post pc L st0 w :=
  XR.callV hd hl hk.1 hk.2.1 hk.2.2.1 hk.2.2.2.1 hk.2.2.2.2.1 rfl hq he hc hk.2.2.2.2.2 hst0 hM hdd hst (Nat.zero_le _) (Nat.zero_le _) (fun u w1 h => by obtain ⟨h, rfl⟩ := h; exact k u h.symm) (fun C w1 h => by obtain ⟨h, rfl⟩ := h; exact XT.leave (by rw [hno]; intro x hx; cases hx) (k1 C h.symm))
end XFaceRules
theorem tBk_in {σ : xS} {x : Int32} (h : ¬ tBk σ x = false) : vp_in x 40 := by
  simp only [tBk, Bool.not_eq_false, Bool.and_eq_true, Bool.not_eq_true', decide_eq_false_iff_not] at h
  exact vp_in_lt h.1.1 h.1.2 (by decide)
theorem tLunF_in {σ : xS} : ∀ (f i : Nat), i + f = 40 → ¬ tLunF σ f i = -1 → vp_in (tLunF σ f i) 40
  | 0, i, _, h => absurd rfl h
  | f + 1, i, hi, h => by
    simp only [tLunF] at h ⊢
    split at h
    · next e => rw [if_pos e]; exact vp_in_nI (by omega) (by decide)
    · next e => rw [if_neg e]; exact tLunF_in f (i + 1) (by omega) h
theorem tLun_in {σ : xS} (h : ¬ tLun σ = -1) : vp_in (tLun σ) 40 := tLunF_in 39 1 rfl h
def cBank (σ : xS) (x y : Int32) : xO × xS :=
  if tBk σ x = false then (.inr eI, σ) else if bz (bUp y) = 0 then (.inr eA, σ) else if ¬ σ 2 (xn x) = 0 then (.inr eS, σ) else if tLun σ = -1 then (.inr eU, xu σ 0 2 (-1))
  else if nI (tDep σ x) < 6 then (rI (tLun σ), tOpen σ (tLun σ) x y) else (.inr eU, xu σ 0 2 (-1))
def bTk (σ : xS) (x n : Int32) : Int32 := if σ 5 (xn x) < n then σ 5 (xn x) else n
abbrev bNbS (σ : xS) (x n : Int32) : xS := sFi (tAu (xu σ 5 (xn x) (σ 5 (xn x) + -bTk σ x n)) x (n - bTk σ x n)) (xn (sLf σ n)) (xn n) x
def bNb (σ : xS) (x n : Int32) : xO × xS :=
  if ¬ tRf σ x (n - bTk σ x n) = -1 then (.inr eU, xu σ 0 2 (tRf σ x (n - bTk σ x n))) else if sLf σ n = -1 then (.inr eU, xu σ 0 2 (-1))
  else (rI (1024 * bNbS σ x n 8 (xn (sLf σ n)) + 2 * sLf σ n), bNbS σ x n)
def cLimit (σ : xS) (x y : Int32) : xO × xS :=
  if tBk σ x = false then (.inr eI, σ) else if bz (bUp y) = 0 then (.inr eA, σ) else if x = 0 then (.inr eA, σ) else if y < σ 6 (xn x) then (.inr eS, σ) else if bz (tDy σ x) = 0 then (rI (σ 4 (xn x)), xu σ 4 (xn x) y) else (.inr eS, σ)
def cReserve (σ : xS) (x y : Int32) : xO × xS :=
  if tBk σ x = false then (.inr eI, σ) else if bz (bUp y) = 0 then (.inr eA, σ) else if ¬ σ 2 (xn x) = 0 then (.inr eS, σ) else if ¬ tRf σ x y = -1 then (.inr eU, xu σ 0 2 (tRf σ x y))
  else (rI (tAu (xu σ 5 (xn x) (σ 5 (xn x) + y)) x y 5 (xn x)), tAu (xu σ 5 (xn x) (σ 5 (xn x) + y)) x y)
def cUnreserve (σ : xS) (x y : Int32) : xO × xS :=
  if tBk σ x = false then (.inr eI, σ) else if y < 0 then (.inr eA, σ) else if σ 5 (xn x) < y then (.inr eA, σ)
  else (rI (tAu (xu σ 5 (xn x) (σ 5 (xn x) + -y)) x (-y) 5 (xn x)), tAu (xu σ 5 (xn x) (σ 5 (xn x) + -y)) x (-y))
def cFreeze (σ : xS) (x y : Int32) : xO × xS :=
  if tBk σ x = false then (.inr eI, σ) else if x = 0 then (.inr eA, σ) else if bz (tDy σ x) = 0 then
    (if y = 0 then (if σ 2 (xn x) = 1 then (rI 1, xu σ 2 (xn x) 0) else (rI 0, xu σ 2 (xn x) 0)) else (if σ 2 (xn x) = 1 then (rI 1, xu σ 2 (xn x) 1) else (rI 0, xu σ 2 (xn x) 1)))
  else (.inr eS, σ)
section XFace
variable {E : xE} {σ : xS} {x y n : Int32}
theorem c_B_requireUse (hp : pOK σ) (hx : vp_in x 40) : XC E i_B_requireUse 7 0 0 [.ref (xB E + 0), .int x, .int n] (xm σ) (xtry (¬ tRf σ x n = -1) eU (xm (xu σ 0 2 (tRf σ x n))) none (xm σ)) := by
  refine XC.ofF (by decide +kernel) cd_B_requireUse rfl (xle rfl) ?_
  refine XR.aload_n d_B_requireUse_0 rfl ?_
  refine XR.getref d_B_requireUse_1 (xle rfl) rfl rfl uin_B (fk := 0) (xle rfl) f_B_10 rfl (xle rfl) ?_
  refine XR.iload_n d_B_requireUse_4 rfl ?_
  refine XR.iload_n d_B_requireUse_5 rfl ?_
  refine XR.cV (as := [_, _]) d_B_requireUse_6 l_B_106 kv_T_refuserOf (c_T_refuserOf hp (Or.inr hx)) rfl (xle rfl) rfl rfl (xle rfl) (xle rfl) ?_
  refine XR.istore_n d_B_requireUse_9 (xle rfl) rfl ?_
  refine XR.iload_n d_B_requireUse_10 rfl ?_
  refine XR.iconst d_B_requireUse_11 (v := -1) (by decide) ?_
  refine XR.icmp_eq d_B_requireUse_12 (tgt := 20) (by decide) (fun h12 => ?_) (fun h12 => ?_)
  · refine XR.return_ d_B_requireUse_20 rfl ?_
    exact ⟨fun h => absurd h12 h, fun _ => ⟨rfl, rfl⟩⟩
  refine XR.aload_n d_B_requireUse_15 rfl ?_
  refine XR.iload_n d_B_requireUse_16 rfl ?_
  refine XR.cVx (as := [_]) d_B_requireUse_17 l_B_50 kv_B_refuse (c_B_refuse) rfl (xle rfl) rfl rfl (xle rfl) (xle rfl) rfl ?_
  exact ⟨fun _ => ⟨rfl, rfl⟩, fun h => absurd h12 h⟩
theorem c_B_bank (hp : pOK σ) : XC E i_B_bank 8 0 0 [.ref (xB E + 0), .int x, .int y] (xm σ) (xfn (cBank σ x y)) := by
  refine XC.ofF (by decide +kernel) cd_B_bank rfl (xle rfl) ?_
  refine XR.aload_n d_B_bank_0 rfl ?_
  refine XR.iload_n d_B_bank_1 rfl ?_
  refine XR.cVt (as := [_]) d_B_bank_2 l_B_27 kv_B_requireBank (c_B_requireBank) rfl (xle rfl) rfl rfl (xle rfl) (xle rfl) rfl (fun h2 => ?_) (fun h2 => ?_)
  · exact ⟨by rw [cBank, if_pos h2], by rw [cBank, if_pos h2]⟩
  refine XR.iload_n d_B_bank_5 rfl ?_
  refine XR.cS (as := [_]) d_B_bank_6 l_B_31 ks_B_isUpToAllPages (c_B_isUpToAllPages) rfl (xle rfl) (xle rfl) ?_
  refine XR.cSt (as := [_]) d_B_bank_9 l_B_35 ks_B_requireArgument (c_B_requireArgument) rfl (xle rfl) (xle rfl) rfl (fun h9 => ?_) (fun h9 => ?_)
  · exact ⟨by rw [cBank, if_neg h2, if_pos h9], by rw [cBank, if_neg h2, if_pos h9]⟩
  refine XR.aload_n d_B_bank_12 rfl ?_
  refine XR.iload_n d_B_bank_13 rfl ?_
  refine XR.cVt (as := [_]) d_B_bank_14 l_B_39 kv_B_requireLive (c_B_requireLive (tBk_in h2)) rfl (xle rfl) rfl rfl (xle rfl) (xle rfl) rfl (fun h14 => ?_) (fun h14 => ?_)
  · exact ⟨by rw [cBank, if_neg h2, if_neg h9, if_pos h14], by rw [cBank, if_neg h2, if_neg h9, if_pos h14]⟩
  refine XR.aload_n d_B_bank_17 rfl ?_
  refine XR.getref d_B_bank_18 (xle rfl) rfl rfl uin_B (fk := 0) (xle rfl) f_B_10 rfl (xle rfl) ?_
  refine XR.cV (as := []) d_B_bank_21 l_B_42 kv_T_leastUnusedNumber (c_T_leastUnusedNumber) rfl (xle rfl) rfl rfl (xle rfl) (xle rfl) ?_
  refine XR.istore_n d_B_bank_24 (xle rfl) rfl ?_
  refine XR.iload_n d_B_bank_25 rfl ?_
  refine XR.iconst d_B_bank_26 (v := -1) (by decide) ?_
  refine XR.icmp_eq d_B_bank_27 (tgt := 43) (by decide) (fun h27 => ?_) (fun h27 => ?_)
  · refine XR.aload_n d_B_bank_43 rfl ?_
    refine XR.iconst d_B_bank_44 (v := -1) (by decide) ?_
    refine XR.cVx (as := [_]) d_B_bank_45 l_B_50 kv_B_refuse (c_B_refuse) rfl (xle rfl) rfl rfl (xle rfl) (xle rfl) rfl ?_
    exact ⟨by rw [cBank, if_neg h2, if_neg h9, if_neg h14, if_pos h27], by rw [cBank, if_neg h2, if_neg h9, if_neg h14, if_pos h27]⟩
  refine XR.aload_n d_B_bank_30 rfl ?_
  refine XR.getref d_B_bank_31 (xle rfl) rfl rfl uin_B (fk := 0) (xle rfl) f_B_10 rfl (xle rfl) ?_
  refine XR.iload_n d_B_bank_34 rfl ?_
  refine XR.cV (as := [_]) d_B_bank_35 l_B_46 kv_T_depthOf (c_T_depthOf hp (tBk_in h2)) rfl (xle rfl) rfl rfl (xle rfl) (xle rfl) ?_
  refine XR.bipush d_B_bank_38 (v := 6) (by decide) ?_
  refine XR.icmp_lt d_B_bank_40 (tgt := 48) (by decide) (fun h40 => ?_) (fun h40 => ?_)
  · refine XR.aload_n d_B_bank_48 rfl ?_
    refine XR.getref d_B_bank_49 (xle rfl) rfl rfl uin_B (fk := 0) (xle rfl) f_B_10 rfl (xle rfl) ?_
    refine XR.iload_n d_B_bank_52 rfl ?_
    refine XR.iload_n d_B_bank_53 rfl ?_
    refine XR.iload_n d_B_bank_54 rfl ?_
    refine XR.cV (as := [_, _, _]) d_B_bank_55 l_B_53 kv_T_open (c_T_open (tLun_in h27)) rfl (xle rfl) rfl rfl (xle rfl) (xle rfl) ?_
    refine XR.iload_n d_B_bank_58 rfl ?_
    refine XR.xreturn d_B_bank_59 rfl ?_
    exact ⟨by rw [cBank, if_neg h2, if_neg h9, if_neg h14, if_neg h27, if_pos h40], by rw [cBank, if_neg h2, if_neg h9, if_neg h14, if_neg h27, if_pos h40]⟩
  refine XR.aload_n d_B_bank_43 rfl ?_
  refine XR.iconst d_B_bank_44 (v := -1) (by decide) ?_
  refine XR.cVx (as := [_]) d_B_bank_45 l_B_50 kv_B_refuse (c_B_refuse) rfl (xle rfl) rfl rfl (xle rfl) (xle rfl) rfl ?_
  exact ⟨by rw [cBank, if_neg h2, if_neg h9, if_neg h14, if_neg h27, if_neg h40], by rw [cBank, if_neg h2, if_neg h9, if_neg h14, if_neg h27, if_neg h40]⟩
theorem c_B_limit (hp : pOK σ) : XC E i_B_limit 8 0 0 [.ref (xB E + 0), .int x, .int y] (xm σ) (xfn (cLimit σ x y)) := by
  refine XC.ofF (by decide +kernel) cd_B_limit rfl (xle rfl) ?_
  refine XR.aload_n d_B_limit_0 rfl ?_
  refine XR.iload_n d_B_limit_1 rfl ?_
  refine XR.cVt (as := [_]) d_B_limit_2 l_B_27 kv_B_requireBank (c_B_requireBank) rfl (xle rfl) rfl rfl (xle rfl) (xle rfl) rfl (fun h2 => ?_) (fun h2 => ?_)
  · exact ⟨by rw [cLimit, if_pos h2], by rw [cLimit, if_pos h2]⟩
  refine XR.iload_n d_B_limit_5 rfl ?_
  refine XR.cS (as := [_]) d_B_limit_6 l_B_31 ks_B_isUpToAllPages (c_B_isUpToAllPages) rfl (xle rfl) (xle rfl) ?_
  refine XR.if_eq d_B_limit_9 (tgt := 20) (by decide) (fun h9 => ?_) (fun h9 => ?_)
  · refine XR.iconst d_B_limit_20 (v := 0) (by decide) ?_
    refine XR.cSt (as := [_]) d_B_limit_21 l_B_35 ks_B_requireArgument (c_B_requireArgument) rfl (xle rfl) (xle rfl) rfl (fun h21 => ?_) (fun h21 => ?_)
    · exact ⟨by rw [cLimit, if_neg h2, if_pos h9], by rw [cLimit, if_neg h2, if_pos h9]⟩
    exact absurd rfl h21
  refine XR.iload_n d_B_limit_12 rfl ?_
  refine XR.if_eq d_B_limit_13 (tgt := 20) (by decide) (fun h13 => ?_) (fun h13 => ?_)
  · refine XR.iconst d_B_limit_20 (v := 0) (by decide) ?_
    refine XR.cSt (as := [_]) d_B_limit_21 l_B_35 ks_B_requireArgument (c_B_requireArgument) rfl (xle rfl) (xle rfl) rfl (fun h21 => ?_) (fun h21 => ?_)
    · exact ⟨by rw [cLimit, if_neg h2, if_neg h9, if_pos h13], by rw [cLimit, if_neg h2, if_neg h9, if_pos h13]⟩
    exact absurd rfl h21
  refine XR.iconst d_B_limit_16 (v := 1) (by decide) ?_
  refine XR.goto d_B_limit_17 (tgt := 21) (by decide) ?_
  refine XR.cSt (as := [_]) d_B_limit_21 l_B_35 ks_B_requireArgument (c_B_requireArgument) rfl (xle rfl) (xle rfl) rfl (fun h21 => ?_) (fun h21 => ?_)
  · exact absurd h21 (by decide)
  refine XR.aload_n d_B_limit_24 rfl ?_
  refine XR.getref d_B_limit_25 (xle rfl) rfl rfl uin_B (fk := 0) (xle rfl) f_B_10 rfl (xle rfl) ?_
  refine XR.iload_n d_B_limit_28 rfl ?_
  refine XR.cV (as := [_]) d_B_limit_29 l_B_112 kv_T_useOf (c_T_useOf (tBk_in h2)) rfl (xle rfl) rfl rfl (xle rfl) (xle rfl) ?_
  refine XR.iload_n d_B_limit_32 rfl ?_
  refine XR.icmp_gt d_B_limit_33 (tgt := 51) (by decide) (fun h33 => ?_) (fun h33 => ?_)
  · refine XR.iconst d_B_limit_51 (v := 0) (by decide) ?_
    refine XR.cSt (as := [_]) d_B_limit_52 l_B_115 ks_B_requireState (c_B_requireState) rfl (xle rfl) (xle rfl) rfl (fun h52 => ?_) (fun h52 => ?_)
    · exact ⟨by rw [cLimit, if_neg h2, if_neg h9, if_neg h13, if_pos h33], by rw [cLimit, if_neg h2, if_neg h9, if_neg h13, if_pos h33]⟩
    exact absurd rfl h52
  refine XR.aload_n d_B_limit_36 rfl ?_
  refine XR.getref d_B_limit_37 (xle rfl) rfl rfl uin_B (fk := 0) (xle rfl) f_B_10 rfl (xle rfl) ?_
  refine XR.iload_n d_B_limit_40 rfl ?_
  refine XR.cV (as := [_]) d_B_limit_41 l_B_77 kv_T_isDying (c_T_isDying (tBk_in h2)) rfl (xle rfl) rfl rfl (xle rfl) (xle rfl) ?_
  refine XR.if_ne d_B_limit_44 (tgt := 51) (by decide) (fun h44 => ?_) (fun h44 => ?_)
  · refine XR.iconst d_B_limit_51 (v := 0) (by decide) ?_
    refine XR.cSt (as := [_]) d_B_limit_52 l_B_115 ks_B_requireState (c_B_requireState) rfl (xle rfl) (xle rfl) rfl (fun h52 => ?_) (fun h52 => ?_)
    · exact ⟨by rw [cLimit, if_neg h2, if_neg h9, if_neg h13, if_neg h33, if_neg h44], by rw [cLimit, if_neg h2, if_neg h9, if_neg h13, if_neg h33, if_neg h44]⟩
    exact absurd rfl h52
  refine XR.iconst d_B_limit_47 (v := 1) (by decide) ?_
  refine XR.goto d_B_limit_48 (tgt := 52) (by decide) ?_
  refine XR.cSt (as := [_]) d_B_limit_52 l_B_115 ks_B_requireState (c_B_requireState) rfl (xle rfl) (xle rfl) rfl (fun h52 => ?_) (fun h52 => ?_)
  · exact absurd h52 (by decide)
  refine XR.aload_n d_B_limit_55 rfl ?_
  refine XR.getref d_B_limit_56 (xle rfl) rfl rfl uin_B (fk := 0) (xle rfl) f_B_10 rfl (xle rfl) ?_
  refine XR.iload_n d_B_limit_59 rfl ?_
  refine XR.iload_n d_B_limit_60 rfl ?_
  refine XR.cV (as := [_, _]) d_B_limit_61 l_B_118 kv_T_replaceLimit (c_T_replaceLimit (tBk_in h2)) rfl (xle rfl) rfl rfl (xle rfl) (xle rfl) ?_
  refine XR.xreturn d_B_limit_64 rfl ?_
  exact ⟨by rw [cLimit, if_neg h2, if_neg h9, if_neg h13, if_neg h33, if_pos h44], by rw [cLimit, if_neg h2, if_neg h9, if_neg h13, if_neg h33, if_pos h44]⟩
theorem c_B_reserve (hp : pOK σ) : XC E i_B_reserve 8 0 0 [.ref (xB E + 0), .int x, .int y] (xm σ) (xfn (cReserve σ x y)) := by
  refine XC.ofF (by decide +kernel) cd_B_reserve rfl (xle rfl) ?_
  have hp2 : pOK (xu σ 5 (xn x) (σ 5 (xn x) + y)) := hp.of (xu_other (by decide))
  refine XR.aload_n d_B_reserve_0 rfl ?_
  refine XR.iload_n d_B_reserve_1 rfl ?_
  refine XR.cVt (as := [_]) d_B_reserve_2 l_B_27 kv_B_requireBank (c_B_requireBank) rfl (xle rfl) rfl rfl (xle rfl) (xle rfl) rfl (fun h2 => ?_) (fun h2 => ?_)
  · exact ⟨by rw [cReserve, if_pos h2], by rw [cReserve, if_pos h2]⟩
  refine XR.iload_n d_B_reserve_5 rfl ?_
  refine XR.cS (as := [_]) d_B_reserve_6 l_B_31 ks_B_isUpToAllPages (c_B_isUpToAllPages) rfl (xle rfl) (xle rfl) ?_
  refine XR.cSt (as := [_]) d_B_reserve_9 l_B_35 ks_B_requireArgument (c_B_requireArgument) rfl (xle rfl) (xle rfl) rfl (fun h9 => ?_) (fun h9 => ?_)
  · exact ⟨by rw [cReserve, if_neg h2, if_pos h9], by rw [cReserve, if_neg h2, if_pos h9]⟩
  refine XR.aload_n d_B_reserve_12 rfl ?_
  refine XR.iload_n d_B_reserve_13 rfl ?_
  refine XR.cVt (as := [_]) d_B_reserve_14 l_B_39 kv_B_requireLive (c_B_requireLive (tBk_in h2)) rfl (xle rfl) rfl rfl (xle rfl) (xle rfl) rfl (fun h14 => ?_) (fun h14 => ?_)
  · exact ⟨by rw [cReserve, if_neg h2, if_neg h9, if_pos h14], by rw [cReserve, if_neg h2, if_neg h9, if_pos h14]⟩
  refine XR.aload_n d_B_reserve_17 rfl ?_
  refine XR.iload_n d_B_reserve_18 rfl ?_
  refine XR.iload_n d_B_reserve_19 rfl ?_
  refine XR.cVt (as := [_, _]) d_B_reserve_20 l_B_121 kv_B_requireUse (c_B_requireUse hp (tBk_in h2)) rfl (xle rfl) rfl rfl (xle rfl) (xle rfl) rfl (fun h20 => ?_) (fun h20 => ?_)
  · exact ⟨by rw [cReserve, if_neg h2, if_neg h9, if_neg h14, if_pos h20], by rw [cReserve, if_neg h2, if_neg h9, if_neg h14, if_pos h20]⟩
  refine XR.aload_n d_B_reserve_23 rfl ?_
  refine XR.getref d_B_reserve_24 (xle rfl) rfl rfl uin_B (fk := 0) (xle rfl) f_B_10 rfl (xle rfl) ?_
  refine XR.iload_n d_B_reserve_27 rfl ?_
  refine XR.iload_n d_B_reserve_28 rfl ?_
  refine XR.cV (as := [_, _]) d_B_reserve_29 l_B_124 kv_T_addReserved (c_T_addReserved (tBk_in h2)) rfl (xle rfl) rfl rfl (xle rfl) (xle rfl) ?_
  refine XR.aload_n d_B_reserve_32 rfl ?_
  refine XR.getref d_B_reserve_33 (xle rfl) rfl rfl uin_B (fk := 0) (xle rfl) f_B_10 rfl (xle rfl) ?_
  refine XR.iload_n d_B_reserve_36 rfl ?_
  refine XR.iload_n d_B_reserve_37 rfl ?_
  refine XR.cV (as := [_, _]) d_B_reserve_38 l_B_89 kv_T_addUse (c_T_addUse hp2 (Or.inr (tBk_in h2))) rfl (xle rfl) rfl rfl (xle rfl) (xle rfl) ?_
  refine XR.aload_n d_B_reserve_41 rfl ?_
  refine XR.getref d_B_reserve_42 (xle rfl) rfl rfl uin_B (fk := 0) (xle rfl) f_B_10 rfl (xle rfl) ?_
  refine XR.iload_n d_B_reserve_45 rfl ?_
  refine XR.cV (as := [_]) d_B_reserve_46 l_B_127 kv_T_reservedBy (c_T_reservedBy (tBk_in h2)) rfl (xle rfl) rfl rfl (xle rfl) (xle rfl) ?_
  refine XR.xreturn d_B_reserve_49 rfl ?_
  exact ⟨by rw [cReserve, if_neg h2, if_neg h9, if_neg h14, if_neg h20], by rw [cReserve, if_neg h2, if_neg h9, if_neg h14, if_neg h20]⟩
theorem c_B_unreserve (hp : pOK σ) : XC E i_B_unreserve 8 0 0 [.ref (xB E + 0), .int x, .int y] (xm σ) (xfn (cUnreserve σ x y)) := by
  refine XC.ofF (by decide +kernel) cd_B_unreserve rfl (xle rfl) ?_
  have hp2 : pOK (xu σ 5 (xn x) (σ 5 (xn x) + -y)) := hp.of (xu_other (by decide))
  refine XR.aload_n d_B_unreserve_0 rfl ?_
  refine XR.iload_n d_B_unreserve_1 rfl ?_
  refine XR.cVt (as := [_]) d_B_unreserve_2 l_B_27 kv_B_requireBank (c_B_requireBank) rfl (xle rfl) rfl rfl (xle rfl) (xle rfl) rfl (fun h2 => ?_) (fun h2 => ?_)
  · exact ⟨by rw [cUnreserve, if_pos h2], by rw [cUnreserve, if_pos h2]⟩
  refine XR.iload_n d_B_unreserve_5 rfl ?_
  refine XR.if_lt d_B_unreserve_6 (tgt := 25) (by decide) (fun h6 => ?_) (fun h6 => ?_)
  · refine XR.iconst d_B_unreserve_25 (v := 0) (by decide) ?_
    refine XR.cSt (as := [_]) d_B_unreserve_26 l_B_35 ks_B_requireArgument (c_B_requireArgument) rfl (xle rfl) (xle rfl) rfl (fun h26 => ?_) (fun h26 => ?_)
    · exact ⟨by rw [cUnreserve, if_neg h2, if_pos h6], by rw [cUnreserve, if_neg h2, if_pos h6]⟩
    exact absurd rfl h26
  refine XR.iload_n d_B_unreserve_9 rfl ?_
  refine XR.aload_n d_B_unreserve_10 rfl ?_
  refine XR.getref d_B_unreserve_11 (xle rfl) rfl rfl uin_B (fk := 0) (xle rfl) f_B_10 rfl (xle rfl) ?_
  refine XR.iload_n d_B_unreserve_14 rfl ?_
  refine XR.cV (as := [_]) d_B_unreserve_15 l_B_127 kv_T_reservedBy (c_T_reservedBy (tBk_in h2)) rfl (xle rfl) rfl rfl (xle rfl) (xle rfl) ?_
  refine XR.icmp_gt d_B_unreserve_18 (tgt := 25) (by decide) (fun h18 => ?_) (fun h18 => ?_)
  · refine XR.iconst d_B_unreserve_25 (v := 0) (by decide) ?_
    refine XR.cSt (as := [_]) d_B_unreserve_26 l_B_35 ks_B_requireArgument (c_B_requireArgument) rfl (xle rfl) (xle rfl) rfl (fun h26 => ?_) (fun h26 => ?_)
    · exact ⟨by rw [cUnreserve, if_neg h2, if_neg h6, if_pos h18], by rw [cUnreserve, if_neg h2, if_neg h6, if_pos h18]⟩
    exact absurd rfl h26
  refine XR.iconst d_B_unreserve_21 (v := 1) (by decide) ?_
  refine XR.goto d_B_unreserve_22 (tgt := 26) (by decide) ?_
  refine XR.cSt (as := [_]) d_B_unreserve_26 l_B_35 ks_B_requireArgument (c_B_requireArgument) rfl (xle rfl) (xle rfl) rfl (fun h26 => ?_) (fun h26 => ?_)
  · exact absurd h26 (by decide)
  refine XR.aload_n d_B_unreserve_29 rfl ?_
  refine XR.getref d_B_unreserve_30 (xle rfl) rfl rfl uin_B (fk := 0) (xle rfl) f_B_10 rfl (xle rfl) ?_
  refine XR.iload_n d_B_unreserve_33 rfl ?_
  refine XR.iload_n d_B_unreserve_34 rfl ?_
  refine XR.ineg d_B_unreserve_35 ?_
  refine XR.cV (as := [_, _]) d_B_unreserve_36 l_B_124 kv_T_addReserved (c_T_addReserved (tBk_in h2)) rfl (xle rfl) rfl rfl (xle rfl) (xle rfl) ?_
  refine XR.aload_n d_B_unreserve_39 rfl ?_
  refine XR.getref d_B_unreserve_40 (xle rfl) rfl rfl uin_B (fk := 0) (xle rfl) f_B_10 rfl (xle rfl) ?_
  refine XR.iload_n d_B_unreserve_43 rfl ?_
  refine XR.iload_n d_B_unreserve_44 rfl ?_
  refine XR.ineg d_B_unreserve_45 ?_
  refine XR.cV (as := [_, _]) d_B_unreserve_46 l_B_89 kv_T_addUse (c_T_addUse hp2 (Or.inr (tBk_in h2))) rfl (xle rfl) rfl rfl (xle rfl) (xle rfl) ?_
  refine XR.aload_n d_B_unreserve_49 rfl ?_
  refine XR.getref d_B_unreserve_50 (xle rfl) rfl rfl uin_B (fk := 0) (xle rfl) f_B_10 rfl (xle rfl) ?_
  refine XR.iload_n d_B_unreserve_53 rfl ?_
  refine XR.cV (as := [_]) d_B_unreserve_54 l_B_127 kv_T_reservedBy (c_T_reservedBy (tBk_in h2)) rfl (xle rfl) rfl rfl (xle rfl) (xle rfl) ?_
  refine XR.xreturn d_B_unreserve_57 rfl ?_
  exact ⟨by rw [cUnreserve, if_neg h2, if_neg h6, if_neg h18], by rw [cUnreserve, if_neg h2, if_neg h6, if_neg h18]⟩
theorem c_B_freeze : XC E i_B_freeze 9 0 0 [.ref (xB E + 0), .int x, .int y] (xm σ) (xfn (cFreeze σ x y)) := by
  refine XC.ofF (by decide +kernel) cd_B_freeze rfl (xle rfl) ?_
  refine XR.aload_n d_B_freeze_0 rfl ?_
  refine XR.iload_n d_B_freeze_1 rfl ?_
  refine XR.cVt2 (as := [_]) d_B_freeze_2 l_B_130 kv_B_requireOtherThanRoot (c_B_requireOtherThanRoot) rfl (xle rfl) rfl rfl (xle rfl) (xle rfl) rfl (fun h2a => ?_) (fun h2a h2b => ?_) (fun h2a h2b => ?_)
  · exact ⟨by rw [cFreeze, if_pos h2a], by rw [cFreeze, if_pos h2a]⟩
  · exact ⟨by rw [cFreeze, if_neg h2a, if_pos h2b], by rw [cFreeze, if_neg h2a, if_pos h2b]⟩
  refine XR.aload_n d_B_freeze_5 rfl ?_
  refine XR.getref d_B_freeze_6 (xle rfl) rfl rfl uin_B (fk := 0) (xle rfl) f_B_10 rfl (xle rfl) ?_
  refine XR.iload_n d_B_freeze_9 rfl ?_
  refine XR.cV (as := [_]) d_B_freeze_10 l_B_77 kv_T_isDying (c_T_isDying (tBk_in h2a)) rfl (xle rfl) rfl rfl (xle rfl) (xle rfl) ?_
  refine XR.if_ne d_B_freeze_13 (tgt := 20) (by decide) (fun h13 => ?_) (fun h13 => ?_)
  · refine XR.iconst d_B_freeze_20 (v := 0) (by decide) ?_
    refine XR.cSt (as := [_]) d_B_freeze_21 l_B_115 ks_B_requireState (c_B_requireState) rfl (xle rfl) (xle rfl) rfl (fun h21 => ?_) (fun h21 => ?_)
    · exact ⟨by rw [cFreeze, if_neg h2a, if_neg h2b, if_neg h13], by rw [cFreeze, if_neg h2a, if_neg h2b, if_neg h13]⟩
    exact absurd rfl h21
  refine XR.iconst d_B_freeze_16 (v := 1) (by decide) ?_
  refine XR.goto d_B_freeze_17 (tgt := 21) (by decide) ?_
  refine XR.cSt (as := [_]) d_B_freeze_21 l_B_115 ks_B_requireState (c_B_requireState) rfl (xle rfl) (xle rfl) rfl (fun h21 => ?_) (fun h21 => ?_)
  · exact absurd h21 (by decide)
  refine XR.aload_n d_B_freeze_24 rfl ?_
  refine XR.getref d_B_freeze_25 (xle rfl) rfl rfl uin_B (fk := 0) (xle rfl) f_B_10 rfl (xle rfl) ?_
  refine XR.iload_n d_B_freeze_28 rfl ?_
  refine XR.iload_n d_B_freeze_29 rfl ?_
  refine XR.if_eq d_B_freeze_30 (tgt := 37) (by decide) (fun h30 => ?_) (fun h30 => ?_)
  · refine XR.iconst d_B_freeze_37 (v := 0) (by decide) ?_
    refine XR.cV (as := [_, _]) d_B_freeze_38 l_B_133 kv_T_replaceState (c_T_replaceState (tBk_in h2a)) rfl (xle rfl) rfl rfl (xle rfl) (xle rfl) ?_
    refine XR.iconst d_B_freeze_41 (v := 1) (by decide) ?_
    refine XR.icmp_ne d_B_freeze_42 (tgt := 49) (by decide) (fun h42 => ?_) (fun h42 => ?_)
    · refine XR.iconst d_B_freeze_49 (v := 0) (by decide) ?_
      refine XR.zret0 d_B_freeze_50 rfl ?_
      exact ⟨by rw [cFreeze, if_neg h2a, if_neg h2b, if_pos h13, if_pos h30, if_neg h42], by rw [cFreeze, if_neg h2a, if_neg h2b, if_pos h13, if_pos h30, if_neg h42]⟩
    refine XR.iconst d_B_freeze_45 (v := 1) (by decide) ?_
    refine XR.goto d_B_freeze_46 (tgt := 50) (by decide) ?_
    refine XR.zret1 d_B_freeze_50 rfl ?_
    exact ⟨by rw [cFreeze, if_neg h2a, if_neg h2b, if_pos h13, if_pos h30, if_pos h42], by rw [cFreeze, if_neg h2a, if_neg h2b, if_pos h13, if_pos h30, if_pos h42]⟩
  refine XR.iconst d_B_freeze_33 (v := 1) (by decide) ?_
  refine XR.goto d_B_freeze_34 (tgt := 38) (by decide) ?_
  refine XR.cV (as := [_, _]) d_B_freeze_38 l_B_133 kv_T_replaceState (c_T_replaceState (tBk_in h2a)) rfl (xle rfl) rfl rfl (xle rfl) (xle rfl) ?_
  refine XR.iconst d_B_freeze_41 (v := 1) (by decide) ?_
  refine XR.icmp_ne d_B_freeze_42 (tgt := 49) (by decide) (fun h42 => ?_) (fun h42 => ?_)
  · refine XR.iconst d_B_freeze_49 (v := 0) (by decide) ?_
    refine XR.zret0 d_B_freeze_50 rfl ?_
    exact ⟨by rw [cFreeze, if_neg h2a, if_neg h2b, if_pos h13, if_neg h30, if_neg h42], by rw [cFreeze, if_neg h2a, if_neg h2b, if_pos h13, if_neg h30, if_neg h42]⟩
  refine XR.iconst d_B_freeze_45 (v := 1) (by decide) ?_
  refine XR.goto d_B_freeze_46 (tgt := 50) (by decide) ?_
  refine XR.zret1 d_B_freeze_50 rfl ?_
  exact ⟨by rw [cFreeze, if_neg h2a, if_neg h2b, if_pos h13, if_neg h30, if_pos h42], by rw [cFreeze, if_neg h2a, if_neg h2b, if_pos h13, if_neg h30, if_pos h42]⟩
end XFace
end
section
/-! the class's face, second half -/
theorem tClF_other {q : Nat} (hq : q ≠ 2) : ∀ (f i : Nat) (σ : xS), tClF f i σ q = σ q
  | 0, _, _ => rfl
  | f + 1, i, σ => by
    simp only [tClF]
    rw [tClF_other hq f _ _]
    split
    · exact xu_other hq
    · rfl
theorem tCl_other {σ : xS} {q : Nat} (hq : q ≠ 2) : tCl σ q = σ q := tClF_other hq 40 0 σ
theorem tCdF_other {top : Int32} {q : Nat} (h2 : q ≠ 2) (h5 : q ≠ 5) (h6 : q ≠ 6) : ∀ (f i : Nat) (σ : xS), tCdF top f i σ q = σ q
  | 0, _, _ => rfl
  | f + 1, i, σ => by
    simp only [tCdF]
    rw [tCdF_other h2 h5 h6 f _ _]
    split
    · rw [xu_other h5, tAu_other h6, xu_other h2]
    · rfl
theorem tCd_other {σ : xS} {top : Int32} {q : Nat} (h2 : q ≠ 2) (h5 : q ≠ 5) (h6 : q ≠ 6) : tCd σ top q = σ q := tCdF_other h2 h5 h6 40 0 σ
def bDyP (σ : xS) (p : Nat) : Bool := sTk σ p && tDy σ (σ 9 p)
def bDp (σ : xS) : Nat := xcn (bDyP σ) 192
def bWoP (σ : xS) (p : Nat) : Bool := sTk σ p && !tBk σ (σ 9 p)
/-- work: from the place i on, 'left' pages still to free -/
def bWoF : Nat → Nat → Int32 → xS → xS
  | 0, _, _, σ => σ
  | f + 1, i, left, σ => if left ≤ 0 then σ else if bDyP σ i = true then bWoF f (i + 1) (left - 1) (xu (tAu σ (σ 9 i) (-1)) 9 i (-1)) else bWoF f (i + 1) left σ
def cDestroy (σ : xS) (x : Int32) : xO × xS :=
  if tBk σ x = false then (.inr eI, σ) else if x = 0 then (.inr eA, σ) else if bz (tDy σ x) = 0 then (rI (nI (bDp (tCl (tCd σ x)))), tCl (tCd σ x)) else (.inr eS, σ)
def cHandUp (σ : xS) (m : Nat) (x : Int32) : xO × xS :=
  if tBk σ x = false then (.inr eI, σ) else if x = 0 then (.inr eA, σ) else if bz (tDy σ x) = 0 then (rI (nI (sOwn σ x)), tMg (sGa σ m x (σ 3 (xn x))) x) else (.inr eS, σ)
def cWeak (σ : xS) (x : Int32) : xO × xS := if bAl σ x = false then (.inr eN, σ) else (rI (x ||| 1), σ)
def cOwner (σ : xS) (x : Int32) : xO × xS := if bAl σ x = false then (.inr eN, σ) else (rI (σ 9 (xn (bPl x))), σ)
def cRead (σ : xS) (x y : Int32) : xO × xS := if bAl σ x = false then (.inr eN, σ) else if bz (bWord y) = 0 then (.inr eI, σ) else (rI (σ 11 (xn (bPl x * 4 + y))), σ)
def cWrite (σ : xS) (x y v : Int32) : xO × xS :=
  if bAl σ x = false then (.inr eN, σ) else if bz (bStrong x) = 0 then (.inr eA, σ) else if bz (bWord y) = 0 then (.inr eI, σ) else (rI (σ 11 (xn (bPl x * 4 + y))), xu σ 11 (xn (bPl x * 4 + y)) v)
abbrev cSellS (σ : xS) (m : Nat) (x : Int32) : xS := tAu (sGap (xu σ 9 (xn (bPl x)) (-1)) m) (σ 9 (xn (bPl x))) (-1)
def cSell (σ : xS) (m : Nat) (x : Int32) : xO × xS :=
  if bAl σ x = false then (.inr eN, σ) else if bz (bStrong x) = 0 then (.inr eA, σ) else (rI (σ 9 (xn (bPl x))), cSellS σ m x)
def cRunKey (σ : xS) (x y : Int32) : xO × xS :=
  if bAl σ x = false then (.inr eN, σ) else if bz (bStrong x) = 0 then (.inr eA, σ) else if y < 0 then (.inr eA, σ) else if 16 ≤ y then (.inr eA, σ)
  else if bz (sSame σ (bPl x) (bPl x + y)) = 0 then (rI 0, σ) else if bz (tDy σ (σ 9 (xn (bPl x + y)))) = 0 then (rI (1024 * σ 8 (xn (bPl x + y)) + 2 * (bPl x + y)), σ) else (rI 0, σ)
def cPage (σ : xS) (m : Nat) (x y : Int32) : xO × xS :=
  if tBk σ x = false then (.inr eI, σ) else if sPl σ m x y = -1 then (.inr eI, σ) else if bz (tDy σ x) = 0 then (rI (1024 * σ 8 (xn (sPl σ m x y)) + 2 * sPl σ m x y), σ) else (rI 0, σ)
theorem bW_in {k y : Int32} (hk : vp_in k 192) (hy : ¬ bz (bWord y) = 0) : vp_in (k * 4 + y) 768 := by
  have h0 : (0 : Int32).toInt = 0 := by decide
  have h4 : (4 : Int32).toInt = 4 := by decide
  rw [bz_z] at hy
  simp only [bWord, Bool.not_eq_false, Bool.and_eq_true, Bool.not_eq_true', decide_eq_false_iff_not, Int32.lt_iff_toInt_lt, Int32.le_iff_toInt_le, h0, h4] at hy
  obtain ⟨h1, h2⟩ := vp_in_iff.mp hk
  have e1 : (k * 4).toInt = k.toInt * 4 := by rw [tiM (by rw [h4]; omega) (by rw [h4]; omega), h4]
  rw [vp_in_iff, tiA (by rw [e1]; omega) (by rw [e1]; omega), e1]
  omega
theorem sPlF_in {σ : xS} {b k : Int32} {m : Nat} (h : ∀ i, i < m → vp_in (σ 12 i) 192) : ∀ (f i : Nat) (j : Int32), i + f = m → ¬ sPlF σ b k f i j = -1 → vp_in (sPlF σ b k f i j) 192
  | 0, _, _, _, hn => absurd rfl hn
  | f + 1, i, j, hi, hn => by
    simp only [sPlF] at hn ⊢
    split at hn
    · next e =>
      rw [if_pos e]
      split at hn
      · next e2 => rw [if_pos e2]; exact h i (by omega)
      · next e2 => rw [if_neg e2]; exact sPlF_in h f (i + 1) _ (by omega) hn
    · next e => rw [if_neg e]; exact sPlF_in h f (i + 1) _ (by omega) hn
theorem sGapF_other {q : Nat} (hq : q ≠ 12) : ∀ (f i k : Nat) (σ : xS), (sGapF f i k σ).2 q = σ q
  | 0, _, _, _ => rfl
  | f + 1, i, k, σ => by
    simp only [sGapF]
    split
    · rw [sGapF_other hq f _ _ _, xu_other hq]
    · rw [sGapF_other hq f _ _ _]
theorem sGap_other {q : Nat} (hq : q ≠ 12) (h7 : q ≠ 7) (σ : xS) (m : Nat) : sGap σ m q = σ q := by rw [sGap, xu_other h7, sGapF_other hq]
theorem sGap_3 (σ : xS) (m : Nat) : sGap σ m 3 = σ 3 := sGap_other (by decide) (by decide) σ m
theorem sGaF_other {x y : Int32} {q : Nat} (h12 : q ≠ 12) (h9 : q ≠ 9) (h13 : q ≠ 13) : ∀ (f i k g : Nat) (σ : xS), (sGaF x y f i k g σ).2.2 q = σ q
  | 0, _, _, _, _ => rfl
  | f + 1, i, k, g, σ => by
    simp only [sGaF]
    split
    · rw [sGaF_other h12 h9 h13 f _ _ _ _, xu_other h13, xu_other h9]
    · rw [sGaF_other h12 h9 h13 f _ _ _ _, xu_other h12]
theorem sGa_other {x y : Int32} {q : Nat} (h12 : q ≠ 12) (h9 : q ≠ 9) (h13 : q ≠ 13) (σ : xS) (m : Nat) : sGa σ m x y q = σ q := by rw [sGa, sGaE, xup_ne h12, sGaF_other h12 h9 h13]
theorem sGa_3 {x y : Int32} (σ : xS) (m : Nat) : sGa σ m x y 3 = σ 3 := sGa_other (by decide) (by decide) (by decide) σ m
section XFace2
variable {E : xE} {σ : xS} {x y v n : Int32}
theorem wOK_in (hw : wOK σ) {p : Nat} (hp : p < 192) (h : sTk σ p = true) : vp_in (σ 9 p) 40 := (hw p hp).resolve_left (by simpa [sTk] using h)
theorem c_B_isDyingPage (hw : wOK σ) (hx : vp_in x 192) : XC E i_B_isDyingPage 2 0 0 [.ref (xB E + 0), .int x] (xm σ) (xok (some (.int (bz (bDyP σ (xn x))))) (xm σ)) := by
  refine XC.ofF (by decide +kernel) cd_B_isDyingPage rfl (xle rfl) ?_
  have z : ¬ bz (sTk σ (xn x)) = 0 → sTk σ (xn x) = true := fun h => by rw [bz_z] at h; simpa using h
  refine XR.aload_n d_B_isDyingPage_0 rfl ?_
  refine XR.getref d_B_isDyingPage_1 (xle rfl) rfl rfl uin_B (fk := 1) (xle rfl) f_B_19 rfl (xle rfl) ?_
  refine XR.iload_n d_B_isDyingPage_4 rfl ?_
  refine XR.cV (as := [_]) d_B_isDyingPage_5 l_B_205 kv_S_isTaken (c_S_isTaken hx) rfl (xle rfl) rfl rfl (xle rfl) (xle rfl) ?_
  refine XR.if_eq d_B_isDyingPage_8 (tgt := 33) (by decide) (fun h8 => ?_) (fun h8 => ?_)
  · refine XR.iconst d_B_isDyingPage_33 (v := 0) (by decide) ?_
    refine XR.zret0 d_B_isDyingPage_34 rfl ?_
    exact xok_0 (by simp_all [bDyP, bz_z])
  refine XR.aload_n d_B_isDyingPage_11 rfl ?_
  refine XR.getref d_B_isDyingPage_12 (xle rfl) rfl rfl uin_B (fk := 0) (xle rfl) f_B_10 rfl (xle rfl) ?_
  refine XR.aload_n d_B_isDyingPage_15 rfl ?_
  refine XR.getref d_B_isDyingPage_16 (xle rfl) rfl rfl uin_B (fk := 1) (xle rfl) f_B_19 rfl (xle rfl) ?_
  refine XR.iload_n d_B_isDyingPage_19 rfl ?_
  refine XR.cV (as := [_]) d_B_isDyingPage_20 l_B_74 kv_S_ownerOf (c_S_ownerOf hx) rfl (xle rfl) rfl rfl (xle rfl) (xle rfl) ?_
  refine XR.cV (as := [_]) d_B_isDyingPage_23 l_B_77 kv_T_isDying (c_T_isDying (wOK_in hw (vp_in_xn hx) (z h8))) rfl (xle rfl) rfl rfl (xle rfl) (xle rfl) ?_
  refine XR.if_eq d_B_isDyingPage_26 (tgt := 33) (by decide) (fun h26 => ?_) (fun h26 => ?_)
  · refine XR.iconst d_B_isDyingPage_33 (v := 0) (by decide) ?_
    refine XR.zret0 d_B_isDyingPage_34 rfl ?_
    exact xok_0 (by simp_all [bDyP, bz_z])
  refine XR.iconst d_B_isDyingPage_29 (v := 1) (by decide) ?_
  refine XR.goto d_B_isDyingPage_30 (tgt := 34) (by decide) ?_
  refine XR.zret1 d_B_isDyingPage_34 rfl ?_
  exact xok_1 (by simp_all [bDyP, bz_z])
theorem c_B_isWithoutBank (hx : vp_in x 192) : XC E i_B_isWithoutBank 2 0 0 [.ref (xB E + 0), .int x] (xm σ) (xok (some (.int (bz (bWoP σ (xn x))))) (xm σ)) := by
  refine XC.ofF (by decide +kernel) cd_B_isWithoutBank rfl (xle rfl) ?_
  refine XR.aload_n d_B_isWithoutBank_0 rfl ?_
  refine XR.getref d_B_isWithoutBank_1 (xle rfl) rfl rfl uin_B (fk := 1) (xle rfl) f_B_19 rfl (xle rfl) ?_
  refine XR.iload_n d_B_isWithoutBank_4 rfl ?_
  refine XR.cV (as := [_]) d_B_isWithoutBank_5 l_B_205 kv_S_isTaken (c_S_isTaken hx) rfl (xle rfl) rfl rfl (xle rfl) (xle rfl) ?_
  refine XR.if_eq d_B_isWithoutBank_8 (tgt := 33) (by decide) (fun h8 => ?_) (fun h8 => ?_)
  · refine XR.iconst d_B_isWithoutBank_33 (v := 0) (by decide) ?_
    refine XR.zret0 d_B_isWithoutBank_34 rfl ?_
    exact xok_0 (by simp_all [bWoP, bz_z])
  refine XR.aload_n d_B_isWithoutBank_11 rfl ?_
  refine XR.getref d_B_isWithoutBank_12 (xle rfl) rfl rfl uin_B (fk := 0) (xle rfl) f_B_10 rfl (xle rfl) ?_
  refine XR.aload_n d_B_isWithoutBank_15 rfl ?_
  refine XR.getref d_B_isWithoutBank_16 (xle rfl) rfl rfl uin_B (fk := 1) (xle rfl) f_B_19 rfl (xle rfl) ?_
  refine XR.iload_n d_B_isWithoutBank_19 rfl ?_
  refine XR.cV (as := [_]) d_B_isWithoutBank_20 l_B_74 kv_S_ownerOf (c_S_ownerOf hx) rfl (xle rfl) rfl rfl (xle rfl) (xle rfl) ?_
  refine XR.cV (as := [_]) d_B_isWithoutBank_23 l_B_190 kv_T_isBank (c_T_isBank) rfl (xle rfl) rfl rfl (xle rfl) (xle rfl) ?_
  refine XR.if_ne d_B_isWithoutBank_26 (tgt := 33) (by decide) (fun h26 => ?_) (fun h26 => ?_)
  · refine XR.iconst d_B_isWithoutBank_33 (v := 0) (by decide) ?_
    refine XR.zret0 d_B_isWithoutBank_34 rfl ?_
    exact xok_0 (by simp_all [bWoP, bz_z])
  refine XR.iconst d_B_isWithoutBank_29 (v := 1) (by decide) ?_
  refine XR.goto d_B_isWithoutBank_30 (tgt := 34) (by decide) ?_
  refine XR.zret1 d_B_isWithoutBank_34 rfl ?_
  exact xok_1 (by simp_all [bWoP, bz_z])
theorem c_B_dyingPages (hw : wOK σ) : XC E i_B_dyingPages 3 0 0 [.ref (xB E + 0)] (xm σ) (xok (some (.int (nI (bDp σ)))) (xm σ)) := by
  refine XC.ofF (by decide +kernel) cd_B_dyingPages rfl (xle rfl) ?_
  have loop : ∀ (f i k : Nat), i + f = 192 → k = xcn (bDyP σ) i → XR E i_B_dyingPages 3 0 0 (xok (some (.int (nI (bDp σ)))) (xm σ)) 4 [.ref (xB E + 0), .int (nI k), .int (nI i)] [] (xm σ) := by
    intro f
    induction f with
    | zero =>
      intro i k hi hk
      have : i = 192 := by omega
      subst this; subst hk
      refine XR.iload_n d_B_dyingPages_4 rfl ?_
      refine XR.sipush d_B_dyingPages_5 (v := 192) (by decide) ?_
      refine XR.icmp_ge d_B_dyingPages_8 (tgt := 28) (by decide) (fun _ => ?_) (fun h => absurd (by decide) h)
      refine XR.iload_n d_B_dyingPages_28 rfl ?_
      refine XR.xreturn d_B_dyingPages_29 rfl ?_
      exact ⟨rfl, rfl⟩
    | succ f ih =>
      intro i k hi hk
      have ei : xn (nI i) = i := nI_clamp (by omega)
      refine XR.iload_n d_B_dyingPages_4 rfl ?_
      refine XR.sipush d_B_dyingPages_5 (v := 192) (by decide) ?_
      refine XR.icmp_ge d_B_dyingPages_8 (tgt := 28) (by decide) (fun h => absurd h (nn_le (n := 192) (by omega) (by decide))) (fun _ => ?_)
      refine XR.aload_n d_B_dyingPages_11 rfl ?_
      refine XR.iload_n d_B_dyingPages_12 rfl ?_
      refine XR.cV (as := [_]) d_B_dyingPages_13 l_B_145 kv_B_isDyingPage (c_B_isDyingPage hw (vp_in_nI (by omega) (by decide))) rfl (xle rfl) rfl rfl (xle rfl) (xle rfl) ?_
      refine XR.if_eq d_B_dyingPages_16 (tgt := 22) (by decide) (fun h16 => ?_) (fun h16 => ?_)
      · refine XR.iincN d_B_dyingPages_22 rfl (xle rfl) rfl ?_
        refine XR.goto d_B_dyingPages_25 (tgt := 4) (by decide) ?_
        exact ih (i + 1) _ (by omega) (by clear ih; simp_all [xcn, bz_z])
      refine XR.iincN d_B_dyingPages_19 rfl (xle rfl) rfl ?_
      refine XR.iincN d_B_dyingPages_22 rfl (xle rfl) rfl ?_
      refine XR.goto d_B_dyingPages_25 (tgt := 4) (by decide) ?_
      exact ih (i + 1) _ (by omega) (by clear ih; simp_all [xcn, bz_z])
  refine XR.iconst d_B_dyingPages_0 (v := nI 0) (by decide) ?_
  refine XR.istore_n d_B_dyingPages_1 (xle rfl) rfl ?_
  refine XR.iconst d_B_dyingPages_2 (v := nI 0) (by decide) ?_
  refine XR.istore_n d_B_dyingPages_3 (xle rfl) rfl ?_
  exact loop 192 0 0 rfl rfl
theorem c_B_weak (hw : wOK σ) : XC E i_B_weak 7 0 0 [.ref (xB E + 0), .int x] (xm σ) (xfn (cWeak σ x)) := by
  refine XC.ofF (by decide +kernel) cd_B_weak rfl (xle rfl) ?_
  refine XR.aload_n d_B_weak_0 rfl ?_
  refine XR.iload_n d_B_weak_1 rfl ?_
  refine XR.cVt (as := [_]) d_B_weak_2 l_B_61 kv_B_requireAlive (c_B_requireAlive hw) rfl (xle rfl) rfl rfl (xle rfl) (xle rfl) rfl (fun h2 => ?_) (fun h2 => ?_)
  · exact ⟨by rw [cWeak, if_pos h2], by rw [cWeak, if_pos h2]⟩
  refine XR.iload_n d_B_weak_5 rfl ?_
  refine XR.iconst d_B_weak_6 (v := 1) (by decide) ?_
  refine XR.ior d_B_weak_7 ?_
  refine XR.xreturn d_B_weak_8 rfl ?_
  exact ⟨by rw [cWeak, if_neg h2], by rw [cWeak, if_neg h2]⟩
theorem c_B_owner (hw : wOK σ) : XC E i_B_owner 7 0 0 [.ref (xB E + 0), .int x] (xm σ) (xfn (cOwner σ x)) := by
  refine XC.ofF (by decide +kernel) cd_B_owner rfl (xle rfl) ?_
  have q : ¬ bAl σ x = false → vp_in (bPl x) 192 := fun h => (bAl_in (by simpa using h)).1
  refine XR.aload_n d_B_owner_0 rfl ?_
  refine XR.iload_n d_B_owner_1 rfl ?_
  refine XR.cVt (as := [_]) d_B_owner_2 l_B_61 kv_B_requireAlive (c_B_requireAlive hw) rfl (xle rfl) rfl rfl (xle rfl) (xle rfl) rfl (fun h2 => ?_) (fun h2 => ?_)
  · exact ⟨by rw [cOwner, if_pos h2], by rw [cOwner, if_pos h2]⟩
  refine XR.aload_n d_B_owner_5 rfl ?_
  refine XR.getref d_B_owner_6 (xle rfl) rfl rfl uin_B (fk := 1) (xle rfl) f_B_19 rfl (xle rfl) ?_
  refine XR.iload_n d_B_owner_9 rfl ?_
  refine XR.cS (as := [_]) d_B_owner_10 l_B_67 ks_B_placeOf (c_B_placeOf) rfl (xle rfl) (xle rfl) ?_
  refine XR.cV (as := [_]) d_B_owner_13 l_B_74 kv_S_ownerOf (c_S_ownerOf (q h2)) rfl (xle rfl) rfl rfl (xle rfl) (xle rfl) ?_
  refine XR.xreturn d_B_owner_16 rfl ?_
  exact ⟨by rw [cOwner, if_neg h2], by rw [cOwner, if_neg h2]⟩
theorem c_B_read (hw : wOK σ) : XC E i_B_read 7 0 0 [.ref (xB E + 0), .int x, .int y] (xm σ) (xfn (cRead σ x y)) := by
  refine XC.ofF (by decide +kernel) cd_B_read rfl (xle rfl) ?_
  have q : ¬ bAl σ x = false → vp_in (bPl x) 192 := fun h => (bAl_in (by simpa using h)).1
  refine XR.aload_n d_B_read_0 rfl ?_
  refine XR.iload_n d_B_read_1 rfl ?_
  refine XR.cVt (as := [_]) d_B_read_2 l_B_61 kv_B_requireAlive (c_B_requireAlive hw) rfl (xle rfl) rfl rfl (xle rfl) (xle rfl) rfl (fun h2 => ?_) (fun h2 => ?_)
  · exact ⟨by rw [cRead, if_pos h2], by rw [cRead, if_pos h2]⟩
  refine XR.iload_n d_B_read_5 rfl ?_
  refine XR.cS (as := [_]) d_B_read_6 l_B_93 ks_B_isWord (c_B_isWord) rfl (xle rfl) (xle rfl) ?_
  refine XR.cSt (as := [_]) d_B_read_9 l_B_96 ks_B_requireIndex (c_B_requireIndex) rfl (xle rfl) (xle rfl) rfl (fun h9 => ?_) (fun h9 => ?_)
  · exact ⟨by rw [cRead, if_neg h2, if_pos h9], by rw [cRead, if_neg h2, if_pos h9]⟩
  refine XR.aload_n d_B_read_12 rfl ?_
  refine XR.getref d_B_read_13 (xle rfl) rfl rfl uin_B (fk := 1) (xle rfl) f_B_19 rfl (xle rfl) ?_
  refine XR.iload_n d_B_read_16 rfl ?_
  refine XR.cS (as := [_]) d_B_read_17 l_B_67 ks_B_placeOf (c_B_placeOf) rfl (xle rfl) (xle rfl) ?_
  refine XR.iload_n d_B_read_20 rfl ?_
  refine XR.cV (as := [_, _]) d_B_read_21 l_B_99 kv_S_wordAt (c_S_wordAt (bW_in (q h2) h9)) rfl (xle rfl) rfl rfl (xle rfl) (xle rfl) ?_
  refine XR.xreturn d_B_read_24 rfl ?_
  exact ⟨by rw [cRead, if_neg h2, if_neg h9], by rw [cRead, if_neg h2, if_neg h9]⟩
theorem c_B_write (hw : wOK σ) : XC E i_B_write 7 0 0 [.ref (xB E + 0), .int x, .int y, .int v] (xm σ) (xfn (cWrite σ x y v)) := by
  refine XC.ofF (by decide +kernel) cd_B_write rfl (xle rfl) ?_
  have q : ¬ bAl σ x = false → vp_in (bPl x) 192 := fun h => (bAl_in (by simpa using h)).1
  refine XR.aload_n d_B_write_0 rfl ?_
  refine XR.iload_n d_B_write_1 rfl ?_
  refine XR.cVt (as := [_]) d_B_write_2 l_B_61 kv_B_requireAlive (c_B_requireAlive hw) rfl (xle rfl) rfl rfl (xle rfl) (xle rfl) rfl (fun h2 => ?_) (fun h2 => ?_)
  · exact ⟨by rw [cWrite, if_pos h2], by rw [cWrite, if_pos h2]⟩
  refine XR.iload_n d_B_write_5 rfl ?_
  refine XR.cS (as := [_]) d_B_write_6 l_B_64 ks_B_isStrong (c_B_isStrong) rfl (xle rfl) (xle rfl) ?_
  refine XR.cSt (as := [_]) d_B_write_9 l_B_35 ks_B_requireArgument (c_B_requireArgument) rfl (xle rfl) (xle rfl) rfl (fun h9 => ?_) (fun h9 => ?_)
  · exact ⟨by rw [cWrite, if_neg h2, if_pos h9], by rw [cWrite, if_neg h2, if_pos h9]⟩
  refine XR.iload_n d_B_write_12 rfl ?_
  refine XR.cS (as := [_]) d_B_write_13 l_B_93 ks_B_isWord (c_B_isWord) rfl (xle rfl) (xle rfl) ?_
  refine XR.cSt (as := [_]) d_B_write_16 l_B_96 ks_B_requireIndex (c_B_requireIndex) rfl (xle rfl) (xle rfl) rfl (fun h16 => ?_) (fun h16 => ?_)
  · exact ⟨by rw [cWrite, if_neg h2, if_neg h9, if_pos h16], by rw [cWrite, if_neg h2, if_neg h9, if_pos h16]⟩
  refine XR.aload_n d_B_write_19 rfl ?_
  refine XR.getref d_B_write_20 (xle rfl) rfl rfl uin_B (fk := 1) (xle rfl) f_B_19 rfl (xle rfl) ?_
  refine XR.iload_n d_B_write_23 rfl ?_
  refine XR.cS (as := [_]) d_B_write_24 l_B_67 ks_B_placeOf (c_B_placeOf) rfl (xle rfl) (xle rfl) ?_
  refine XR.iload_n d_B_write_27 rfl ?_
  refine XR.iload_n d_B_write_28 rfl ?_
  refine XR.cV (as := [_, _, _]) d_B_write_29 l_B_102 kv_S_replaceWord (c_S_replaceWord (bW_in (q h2) h16)) rfl (xle rfl) rfl rfl (xle rfl) (xle rfl) ?_
  refine XR.xreturn d_B_write_32 rfl ?_
  exact ⟨by rw [cWrite, if_neg h2, if_neg h9, if_neg h16], by rw [cWrite, if_neg h2, if_neg h9, if_neg h16]⟩
theorem c_B_runKey (hw : wOK σ) : XC E i_B_runKey 7 0 0 [.ref (xB E + 0), .int x, .int y] (xm σ) (xfn (cRunKey σ x y)) := by
  refine XC.ofF (by decide +kernel) cd_B_runKey rfl (xle rfl) ?_
  have q : ¬ bAl σ x = false → vp_in (bPl x) 192 := fun h => (bAl_in (by simpa using h)).1
  have q2 : ¬ bAl σ x = false → ¬ y < 0 → ¬ 16 ≤ y → ¬ bPl x + y < 0 := fun h h1 h2 => by
    obtain ⟨g1, g2⟩ := vp_in_iff.mp (q h)
    have h0 : (0 : Int32).toInt = 0 := by decide
    have h16 : (16 : Int32).toInt = 16 := by decide
    rw [Int32.lt_iff_toInt_lt, h0] at h1 ⊢
    rw [Int32.le_iff_toInt_le, h16] at h2
    rw [tiA (by omega) (by omega)]
    omega
  have q3 : ¬ bAl σ x = false → ¬ y < 0 → ¬ 16 ≤ y → ¬ bz (sSame σ (bPl x) (bPl x + y)) = 0 → vp_in (bPl x + y) 192 ∧ vp_in (σ 9 (xn (bPl x + y))) 40 := fun h h1 h2 h3 => by
    rw [bz_z] at h3
    simp only [sSame, Bool.not_eq_false, Bool.and_eq_true, Bool.not_eq_true', decide_eq_false_iff_not] at h3
    have g := vp_in_lt (q2 h h1 h2) h3.1.1 (by decide : (192 : Int32).toInt = 192)
    exact ⟨g, wOK_in hw (vp_in_xn g) h3.1.2⟩
  refine XR.aload_n d_B_runKey_0 rfl ?_
  refine XR.iload_n d_B_runKey_1 rfl ?_
  refine XR.cVt (as := [_]) d_B_runKey_2 l_B_61 kv_B_requireAlive (c_B_requireAlive hw) rfl (xle rfl) rfl rfl (xle rfl) (xle rfl) rfl (fun h2 => ?_) (fun h2 => ?_)
  · exact ⟨by rw [cRunKey, if_pos h2], by rw [cRunKey, if_pos h2]⟩
  refine XR.iload_n d_B_runKey_5 rfl ?_
  refine XR.cS (as := [_]) d_B_runKey_6 l_B_64 ks_B_isStrong (c_B_isStrong) rfl (xle rfl) (xle rfl) ?_
  refine XR.if_eq d_B_runKey_9 (tgt := 26) (by decide) (fun h9 => ?_) (fun h9 => ?_)
  · refine XR.iconst d_B_runKey_26 (v := 0) (by decide) ?_
    refine XR.cSt (as := [_]) d_B_runKey_27 l_B_35 ks_B_requireArgument (c_B_requireArgument) rfl (xle rfl) (xle rfl) rfl (fun h27 => ?_) (fun h27 => ?_)
    · exact ⟨by rw [cRunKey, if_neg h2, if_pos h9], by rw [cRunKey, if_neg h2, if_pos h9]⟩
    exact absurd rfl h27
  refine XR.iload_n d_B_runKey_12 rfl ?_
  refine XR.if_lt d_B_runKey_13 (tgt := 26) (by decide) (fun h13 => ?_) (fun h13 => ?_)
  · refine XR.iconst d_B_runKey_26 (v := 0) (by decide) ?_
    refine XR.cSt (as := [_]) d_B_runKey_27 l_B_35 ks_B_requireArgument (c_B_requireArgument) rfl (xle rfl) (xle rfl) rfl (fun h27 => ?_) (fun h27 => ?_)
    · exact ⟨by rw [cRunKey, if_neg h2, if_neg h9, if_pos h13], by rw [cRunKey, if_neg h2, if_neg h9, if_pos h13]⟩
    exact absurd rfl h27
  refine XR.iload_n d_B_runKey_16 rfl ?_
  refine XR.bipush d_B_runKey_17 (v := 16) (by decide) ?_
  refine XR.icmp_ge d_B_runKey_19 (tgt := 26) (by decide) (fun h19 => ?_) (fun h19 => ?_)
  · refine XR.iconst d_B_runKey_26 (v := 0) (by decide) ?_
    refine XR.cSt (as := [_]) d_B_runKey_27 l_B_35 ks_B_requireArgument (c_B_requireArgument) rfl (xle rfl) (xle rfl) rfl (fun h27 => ?_) (fun h27 => ?_)
    · exact ⟨by rw [cRunKey, if_neg h2, if_neg h9, if_neg h13, if_pos h19], by rw [cRunKey, if_neg h2, if_neg h9, if_neg h13, if_pos h19]⟩
    exact absurd rfl h27
  refine XR.iconst d_B_runKey_22 (v := 1) (by decide) ?_
  refine XR.goto d_B_runKey_23 (tgt := 27) (by decide) ?_
  refine XR.cSt (as := [_]) d_B_runKey_27 l_B_35 ks_B_requireArgument (c_B_requireArgument) rfl (xle rfl) (xle rfl) rfl (fun h27 => ?_) (fun h27 => ?_)
  · exact absurd h27 (by decide)
  refine XR.iload_n d_B_runKey_30 rfl ?_
  refine XR.cS (as := [_]) d_B_runKey_31 l_B_67 ks_B_placeOf (c_B_placeOf) rfl (xle rfl) (xle rfl) ?_
  refine XR.istore_n d_B_runKey_34 (xle rfl) rfl ?_
  refine XR.iload_n d_B_runKey_35 rfl ?_
  refine XR.iload_n d_B_runKey_36 rfl ?_
  refine XR.iadd d_B_runKey_37 ?_
  refine XR.istore d_B_runKey_38 (xle rfl) rfl ?_
  refine XR.aload_n d_B_runKey_40 rfl ?_
  refine XR.getref d_B_runKey_41 (xle rfl) rfl rfl uin_B (fk := 1) (xle rfl) f_B_19 rfl (xle rfl) ?_
  refine XR.iload_n d_B_runKey_44 rfl ?_
  refine XR.iload d_B_runKey_45 rfl ?_
  refine XR.cV (as := [_, _]) d_B_runKey_47 l_B_70 kv_S_isSameRun (c_S_isSameRun (q h2) (q2 h2 h13 h19)) rfl (xle rfl) rfl rfl (xle rfl) (xle rfl) ?_
  refine XR.if_eq d_B_runKey_50 (tgt := 72) (by decide) (fun h50 => ?_) (fun h50 => ?_)
  · refine XR.iconst d_B_runKey_72 (v := 0) (by decide) ?_
    refine XR.xreturn d_B_runKey_73 rfl ?_
    exact ⟨by rw [cRunKey, if_neg h2, if_neg h9, if_neg h13, if_neg h19, if_pos h50], by rw [cRunKey, if_neg h2, if_neg h9, if_neg h13, if_neg h19, if_pos h50]⟩
  refine XR.aload_n d_B_runKey_53 rfl ?_
  refine XR.getref d_B_runKey_54 (xle rfl) rfl rfl uin_B (fk := 0) (xle rfl) f_B_10 rfl (xle rfl) ?_
  refine XR.aload_n d_B_runKey_57 rfl ?_
  refine XR.getref d_B_runKey_58 (xle rfl) rfl rfl uin_B (fk := 1) (xle rfl) f_B_19 rfl (xle rfl) ?_
  refine XR.iload d_B_runKey_61 rfl ?_
  refine XR.cV (as := [_]) d_B_runKey_63 l_B_74 kv_S_ownerOf (c_S_ownerOf (q3 h2 h13 h19 h50).1) rfl (xle rfl) rfl rfl (xle rfl) (xle rfl) ?_
  refine XR.cV (as := [_]) d_B_runKey_66 l_B_77 kv_T_isDying (c_T_isDying (q3 h2 h13 h19 h50).2) rfl (xle rfl) rfl rfl (xle rfl) (xle rfl) ?_
  refine XR.if_eq d_B_runKey_69 (tgt := 74) (by decide) (fun h69 => ?_) (fun h69 => ?_)
  · refine XR.aload_n d_B_runKey_74 rfl ?_
    refine XR.getref d_B_runKey_75 (xle rfl) rfl rfl uin_B (fk := 1) (xle rfl) f_B_19 rfl (xle rfl) ?_
    refine XR.iload d_B_runKey_78 rfl ?_
    refine XR.cV (as := [_]) d_B_runKey_80 l_B_80 kv_S_strongKey (c_S_strongKey (q3 h2 h13 h19 h50).1) rfl (xle rfl) rfl rfl (xle rfl) (xle rfl) ?_
    refine XR.xreturn d_B_runKey_83 rfl ?_
    exact ⟨by rw [cRunKey, if_neg h2, if_neg h9, if_neg h13, if_neg h19, if_neg h50, if_pos h69], by rw [cRunKey, if_neg h2, if_neg h9, if_neg h13, if_neg h19, if_neg h50, if_pos h69]⟩
  refine XR.iconst d_B_runKey_72 (v := 0) (by decide) ?_
  refine XR.xreturn d_B_runKey_73 rfl ?_
  exact ⟨by rw [cRunKey, if_neg h2, if_neg h9, if_neg h13, if_neg h19, if_neg h50, if_neg h69], by rw [cRunKey, if_neg h2, if_neg h9, if_neg h13, if_neg h19, if_neg h50, if_neg h69]⟩
theorem c_B_sell {m : Nat} (hp : pOK σ) (hw : wOK σ) (ho : oOK σ m) : XC E i_B_sell 7 0 0 [.ref (xB E + 0), .int x] (xm σ) (xfn (cSell σ m x)) := by
  refine XC.ofF (by decide +kernel) cd_B_sell rfl (xle rfl) ?_
  have q : ¬ bAl σ x = false → vp_in (bPl x) 192 := fun h => (bAl_in (by simpa using h)).1
  have ho2 : oOK (xu σ 9 (xn (bPl x)) (-1)) m := ho
  have hp2 : pOK (sGap (xu σ 9 (xn (bPl x)) (-1)) m) := hp.of (sGap_3 _ _)
  refine XR.aload_n d_B_sell_0 rfl ?_
  refine XR.iload_n d_B_sell_1 rfl ?_
  refine XR.cVt (as := [_]) d_B_sell_2 l_B_61 kv_B_requireAlive (c_B_requireAlive hw) rfl (xle rfl) rfl rfl (xle rfl) (xle rfl) rfl (fun h2 => ?_) (fun h2 => ?_)
  · exact ⟨by rw [cSell, if_pos h2], by rw [cSell, if_pos h2]⟩
  refine XR.iload_n d_B_sell_5 rfl ?_
  refine XR.cS (as := [_]) d_B_sell_6 l_B_64 ks_B_isStrong (c_B_isStrong) rfl (xle rfl) (xle rfl) ?_
  refine XR.cSt (as := [_]) d_B_sell_9 l_B_35 ks_B_requireArgument (c_B_requireArgument) rfl (xle rfl) (xle rfl) rfl (fun h9 => ?_) (fun h9 => ?_)
  · exact ⟨by rw [cSell, if_neg h2, if_pos h9], by rw [cSell, if_neg h2, if_pos h9]⟩
  refine XR.iload_n d_B_sell_12 rfl ?_
  refine XR.cS (as := [_]) d_B_sell_13 l_B_67 ks_B_placeOf (c_B_placeOf) rfl (xle rfl) (xle rfl) ?_
  refine XR.istore_n d_B_sell_16 (xle rfl) rfl ?_
  refine XR.aload_n d_B_sell_17 rfl ?_
  refine XR.getref d_B_sell_18 (xle rfl) rfl rfl uin_B (fk := 1) (xle rfl) f_B_19 rfl (xle rfl) ?_
  refine XR.iload_n d_B_sell_21 rfl ?_
  refine XR.cV (as := [_]) d_B_sell_22 l_B_74 kv_S_ownerOf (c_S_ownerOf (q h2)) rfl (xle rfl) rfl rfl (xle rfl) (xle rfl) ?_
  refine XR.istore_n d_B_sell_25 (xle rfl) rfl ?_
  refine XR.aload_n d_B_sell_26 rfl ?_
  refine XR.getref d_B_sell_27 (xle rfl) rfl rfl uin_B (fk := 1) (xle rfl) f_B_19 rfl (xle rfl) ?_
  refine XR.iload_n d_B_sell_30 rfl ?_
  refine XR.cV (as := [_]) d_B_sell_31 l_B_83 kv_S_vacate (c_S_vacate (q h2)) rfl (xle rfl) rfl rfl (xle rfl) (xle rfl) ?_
  refine XR.aload_n d_B_sell_34 rfl ?_
  refine XR.getref d_B_sell_35 (xle rfl) rfl rfl uin_B (fk := 1) (xle rfl) f_B_19 rfl (xle rfl) ?_
  refine XR.cV (as := []) d_B_sell_38 l_B_86 kv_S_closeGaps (c_S_closeGaps ho2) rfl (xle rfl) rfl rfl (xle rfl) (xle rfl) ?_
  refine XR.aload_n d_B_sell_41 rfl ?_
  refine XR.getref d_B_sell_42 (xle rfl) rfl rfl uin_B (fk := 0) (xle rfl) f_B_10 rfl (xle rfl) ?_
  refine XR.iload_n d_B_sell_45 rfl ?_
  refine XR.iconst d_B_sell_46 (v := -1) (by decide) ?_
  refine XR.cV (as := [_, _]) d_B_sell_47 l_B_89 kv_T_addUse (c_T_addUse hp2 (hw _ (vp_in_xn (q h2)))) rfl (xle rfl) rfl rfl (xle rfl) (xle rfl) ?_
  refine XR.iload_n d_B_sell_50 rfl ?_
  refine XR.xreturn d_B_sell_51 rfl ?_
  exact ⟨by rw [cSell, if_neg h2, if_neg h9], by rw [cSell, if_neg h2, if_neg h9]⟩
theorem c_B_page {m : Nat} (ho : oOK σ m) : XC E i_B_page 8 0 0 [.ref (xB E + 0), .int x, .int y] (xm σ) (xfn (cPage σ m x y)) := by
  refine XC.ofF (by decide +kernel) cd_B_page rfl (xle rfl) ?_
  have q : ¬ sPl σ m x y = -1 → vp_in (sPl σ m x y) 192 := fun h => sPlF_in ho.2.2 m 0 0 (by omega) h
  refine XR.aload_n d_B_page_0 rfl ?_
  refine XR.iload_n d_B_page_1 rfl ?_
  refine XR.cVt (as := [_]) d_B_page_2 l_B_27 kv_B_requireBank (c_B_requireBank) rfl (xle rfl) rfl rfl (xle rfl) (xle rfl) rfl (fun h2 => ?_) (fun h2 => ?_)
  · exact ⟨by rw [cPage, if_pos h2], by rw [cPage, if_pos h2]⟩
  refine XR.aload_n d_B_page_5 rfl ?_
  refine XR.getref d_B_page_6 (xle rfl) rfl rfl uin_B (fk := 1) (xle rfl) f_B_19 rfl (xle rfl) ?_
  refine XR.iload_n d_B_page_9 rfl ?_
  refine XR.iload_n d_B_page_10 rfl ?_
  refine XR.cV (as := [_, _]) d_B_page_11 l_B_172 kv_S_placeOfOwned (c_S_placeOfOwned ho) rfl (xle rfl) rfl rfl (xle rfl) (xle rfl) ?_
  refine XR.istore_n d_B_page_14 (xle rfl) rfl ?_
  refine XR.iload_n d_B_page_15 rfl ?_
  refine XR.iconst d_B_page_16 (v := -1) (by decide) ?_
  refine XR.icmp_eq d_B_page_17 (tgt := 24) (by decide) (fun h17 => ?_) (fun h17 => ?_)
  · refine XR.iconst d_B_page_24 (v := 0) (by decide) ?_
    refine XR.cSt (as := [_]) d_B_page_25 l_B_96 ks_B_requireIndex (c_B_requireIndex) rfl (xle rfl) (xle rfl) rfl (fun h25 => ?_) (fun h25 => ?_)
    · exact ⟨by rw [cPage, if_neg h2, if_pos h17], by rw [cPage, if_neg h2, if_pos h17]⟩
    exact absurd rfl h25
  refine XR.iconst d_B_page_20 (v := 1) (by decide) ?_
  refine XR.goto d_B_page_21 (tgt := 25) (by decide) ?_
  refine XR.cSt (as := [_]) d_B_page_25 l_B_96 ks_B_requireIndex (c_B_requireIndex) rfl (xle rfl) (xle rfl) rfl (fun h25 => ?_) (fun h25 => ?_)
  · exact absurd h25 (by decide)
  refine XR.aload_n d_B_page_28 rfl ?_
  refine XR.getref d_B_page_29 (xle rfl) rfl rfl uin_B (fk := 0) (xle rfl) f_B_10 rfl (xle rfl) ?_
  refine XR.iload_n d_B_page_32 rfl ?_
  refine XR.cV (as := [_]) d_B_page_33 l_B_77 kv_T_isDying (c_T_isDying (tBk_in h2)) rfl (xle rfl) rfl rfl (xle rfl) (xle rfl) ?_
  refine XR.if_eq d_B_page_36 (tgt := 43) (by decide) (fun h36 => ?_) (fun h36 => ?_)
  · refine XR.aload_n d_B_page_43 rfl ?_
    refine XR.getref d_B_page_44 (xle rfl) rfl rfl uin_B (fk := 1) (xle rfl) f_B_19 rfl (xle rfl) ?_
    refine XR.iload_n d_B_page_47 rfl ?_
    refine XR.cV (as := [_]) d_B_page_48 l_B_80 kv_S_strongKey (c_S_strongKey (q h17)) rfl (xle rfl) rfl rfl (xle rfl) (xle rfl) ?_
    refine XR.xreturn d_B_page_51 rfl ?_
    exact ⟨by rw [cPage, if_neg h2, if_neg h17, if_pos h36], by rw [cPage, if_neg h2, if_neg h17, if_pos h36]⟩
  refine XR.iconst d_B_page_39 (v := 0) (by decide) ?_
  refine XR.goto d_B_page_40 (tgt := 51) (by decide) ?_
  refine XR.xreturn d_B_page_51 rfl ?_
  exact ⟨by rw [cPage, if_neg h2, if_neg h17, if_neg h36], by rw [cPage, if_neg h2, if_neg h17, if_neg h36]⟩
theorem c_B_destroy (hp : pOK σ) (hw : wOK σ) : XC E i_B_destroy 9 0 0 [.ref (xB E + 0), .int x] (xm σ) (xfn (cDestroy σ x)) := by
  refine XC.ofF (by decide +kernel) cd_B_destroy rfl (xle rfl) ?_
  have hw2 : wOK (tCl (tCd σ x)) := fun p h => by rw [tCl_other (by decide), tCd_other (by decide) (by decide) (by decide)]; exact hw p h
  refine XR.aload_n d_B_destroy_0 rfl ?_
  refine XR.iload_n d_B_destroy_1 rfl ?_
  refine XR.cVt2 (as := [_]) d_B_destroy_2 l_B_130 kv_B_requireOtherThanRoot (c_B_requireOtherThanRoot) rfl (xle rfl) rfl rfl (xle rfl) (xle rfl) rfl (fun h2a => ?_) (fun h2a h2b => ?_) (fun h2a h2b => ?_)
  · exact ⟨by rw [cDestroy, if_pos h2a], by rw [cDestroy, if_pos h2a]⟩
  · exact ⟨by rw [cDestroy, if_neg h2a, if_pos h2b], by rw [cDestroy, if_neg h2a, if_pos h2b]⟩
  refine XR.aload_n d_B_destroy_5 rfl ?_
  refine XR.getref d_B_destroy_6 (xle rfl) rfl rfl uin_B (fk := 0) (xle rfl) f_B_10 rfl (xle rfl) ?_
  refine XR.iload_n d_B_destroy_9 rfl ?_
  refine XR.cV (as := [_]) d_B_destroy_10 l_B_77 kv_T_isDying (c_T_isDying (tBk_in h2a)) rfl (xle rfl) rfl rfl (xle rfl) (xle rfl) ?_
  refine XR.if_ne d_B_destroy_13 (tgt := 20) (by decide) (fun h13 => ?_) (fun h13 => ?_)
  · refine XR.iconst d_B_destroy_20 (v := 0) (by decide) ?_
    refine XR.cSt (as := [_]) d_B_destroy_21 l_B_115 ks_B_requireState (c_B_requireState) rfl (xle rfl) (xle rfl) rfl (fun h21 => ?_) (fun h21 => ?_)
    · exact ⟨by rw [cDestroy, if_neg h2a, if_neg h2b, if_neg h13], by rw [cDestroy, if_neg h2a, if_neg h2b, if_neg h13]⟩
    exact absurd rfl h21
  refine XR.iconst d_B_destroy_16 (v := 1) (by decide) ?_
  refine XR.goto d_B_destroy_17 (tgt := 21) (by decide) ?_
  refine XR.cSt (as := [_]) d_B_destroy_21 l_B_115 ks_B_requireState (c_B_requireState) rfl (xle rfl) (xle rfl) rfl (fun h21 => ?_) (fun h21 => ?_)
  · exact absurd h21 (by decide)
  refine XR.aload_n d_B_destroy_24 rfl ?_
  refine XR.getref d_B_destroy_25 (xle rfl) rfl rfl uin_B (fk := 0) (xle rfl) f_B_10 rfl (xle rfl) ?_
  refine XR.iload_n d_B_destroy_28 rfl ?_
  refine XR.cV (as := [_]) d_B_destroy_29 l_B_136 kv_T_condemn (c_T_condemn hp) rfl (xle rfl) rfl rfl (xle rfl) (xle rfl) ?_
  refine XR.aload_n d_B_destroy_32 rfl ?_
  refine XR.getref d_B_destroy_33 (xle rfl) rfl rfl uin_B (fk := 0) (xle rfl) f_B_10 rfl (xle rfl) ?_
  refine XR.cV (as := []) d_B_destroy_36 l_B_139 kv_T_closeEmptyDying (c_T_closeEmptyDying) rfl (xle rfl) rfl rfl (xle rfl) (xle rfl) ?_
  refine XR.aload_n d_B_destroy_39 rfl ?_
  refine XR.cV (as := []) d_B_destroy_40 l_B_142 kv_B_dyingPages (c_B_dyingPages hw2) rfl (xle rfl) rfl rfl (xle rfl) (xle rfl) ?_
  refine XR.xreturn d_B_destroy_43 rfl ?_
  exact ⟨by rw [cDestroy, if_neg h2a, if_neg h2b, if_pos h13], by rw [cDestroy, if_neg h2a, if_neg h2b, if_pos h13]⟩
theorem c_B_handUp {m : Nat} (ho : oOK σ m) (hh : ¬ tBk σ x = false → ¬ x = 0 → vp_in (σ 3 (xn x)) 40) : XC E i_B_handUp 9 0 0 [.ref (xB E + 0), .int x] (xm σ) (xfn (cHandUp σ m x)) := by
  refine XC.ofF (by decide +kernel) cd_B_handUp rfl (xle rfl) ?_
  have q : ¬ tBk σ x = false → ¬ x = 0 → vp_in (sGa σ m x (σ 3 (xn x)) 3 (xn x)) 40 := fun a b => by rw [sGa_3]; exact hh a b
  refine XR.aload_n d_B_handUp_0 rfl ?_
  refine XR.iload_n d_B_handUp_1 rfl ?_
  refine XR.cVt2 (as := [_]) d_B_handUp_2 l_B_130 kv_B_requireOtherThanRoot (c_B_requireOtherThanRoot) rfl (xle rfl) rfl rfl (xle rfl) (xle rfl) rfl (fun h2a => ?_) (fun h2a h2b => ?_) (fun h2a h2b => ?_)
  · exact ⟨by rw [cHandUp, if_pos h2a], by rw [cHandUp, if_pos h2a]⟩
  · exact ⟨by rw [cHandUp, if_neg h2a, if_pos h2b], by rw [cHandUp, if_neg h2a, if_pos h2b]⟩
  refine XR.aload_n d_B_handUp_5 rfl ?_
  refine XR.getref d_B_handUp_6 (xle rfl) rfl rfl uin_B (fk := 0) (xle rfl) f_B_10 rfl (xle rfl) ?_
  refine XR.iload_n d_B_handUp_9 rfl ?_
  refine XR.cV (as := [_]) d_B_handUp_10 l_B_77 kv_T_isDying (c_T_isDying (tBk_in h2a)) rfl (xle rfl) rfl rfl (xle rfl) (xle rfl) ?_
  refine XR.if_ne d_B_handUp_13 (tgt := 20) (by decide) (fun h13 => ?_) (fun h13 => ?_)
  · refine XR.iconst d_B_handUp_20 (v := 0) (by decide) ?_
    refine XR.cSt (as := [_]) d_B_handUp_21 l_B_115 ks_B_requireState (c_B_requireState) rfl (xle rfl) (xle rfl) rfl (fun h21 => ?_) (fun h21 => ?_)
    · exact ⟨by rw [cHandUp, if_neg h2a, if_neg h2b, if_neg h13], by rw [cHandUp, if_neg h2a, if_neg h2b, if_neg h13]⟩
    exact absurd rfl h21
  refine XR.iconst d_B_handUp_16 (v := 1) (by decide) ?_
  refine XR.goto d_B_handUp_17 (tgt := 21) (by decide) ?_
  refine XR.cSt (as := [_]) d_B_handUp_21 l_B_115 ks_B_requireState (c_B_requireState) rfl (xle rfl) (xle rfl) rfl (fun h21 => ?_) (fun h21 => ?_)
  · exact absurd h21 (by decide)
  refine XR.aload_n d_B_handUp_24 rfl ?_
  refine XR.getref d_B_handUp_25 (xle rfl) rfl rfl uin_B (fk := 1) (xle rfl) f_B_19 rfl (xle rfl) ?_
  refine XR.iload_n d_B_handUp_28 rfl ?_
  refine XR.cV (as := [_]) d_B_handUp_29 l_B_148 kv_S_ownedBy (c_S_ownedBy) rfl (xle rfl) rfl rfl (xle rfl) (xle rfl) ?_
  refine XR.istore_n d_B_handUp_32 (xle rfl) rfl ?_
  refine XR.aload_n d_B_handUp_33 rfl ?_
  refine XR.getref d_B_handUp_34 (xle rfl) rfl rfl uin_B (fk := 1) (xle rfl) f_B_19 rfl (xle rfl) ?_
  refine XR.iload_n d_B_handUp_37 rfl ?_
  refine XR.aload_n d_B_handUp_38 rfl ?_
  refine XR.getref d_B_handUp_39 (xle rfl) rfl rfl uin_B (fk := 0) (xle rfl) f_B_10 rfl (xle rfl) ?_
  refine XR.iload_n d_B_handUp_42 rfl ?_
  refine XR.cV (as := [_]) d_B_handUp_43 l_B_151 kv_T_parentOf (c_T_parentOf (tBk_in h2a)) rfl (xle rfl) rfl rfl (xle rfl) (xle rfl) ?_
  refine XR.cV (as := [_, _]) d_B_handUp_46 l_B_154 kv_S_giveAll (c_S_giveAll ho) rfl (xle rfl) rfl rfl (xle rfl) (xle rfl) ?_
  refine XR.aload_n d_B_handUp_49 rfl ?_
  refine XR.getref d_B_handUp_50 (xle rfl) rfl rfl uin_B (fk := 0) (xle rfl) f_B_10 rfl (xle rfl) ?_
  refine XR.iload_n d_B_handUp_53 rfl ?_
  refine XR.cV (as := [_]) d_B_handUp_54 l_B_157 kv_T_mergeIntoParent (c_T_mergeIntoParent (tBk_in h2a) (q h2a h2b)) rfl (xle rfl) rfl rfl (xle rfl) (xle rfl) ?_
  refine XR.iload_n d_B_handUp_57 rfl ?_
  refine XR.xreturn d_B_handUp_58 rfl ?_
  exact ⟨by rw [cHandUp, if_neg h2a, if_neg h2b, if_pos h13], by rw [cHandUp, if_neg h2a, if_neg h2b, if_pos h13]⟩
theorem c_B_refused : XC E i_B_refused 1 0 0 [.ref (xB E + 0)] (xm σ) (xok (some (.int (σ 0 2))) (xm σ)) := by
  refine XC.ofF (by decide +kernel) cd_B_refused rfl (xle rfl) ?_
  refine XR.aload_n d_B_refused_0 rfl ?_
  refine XR.getint d_B_refused_1 (xle rfl) rfl rfl uin_B (fk := 2) (xle rfl) f_B_23 rfl ?_
  refine XR.xreturn d_B_refused_4 rfl ?_
  exact ⟨rfl, rfl⟩
end XFace2
end
section
/-! the class's face, the rest -/
def cMove (σ : xS) (m : Nat) (x y : Int32) : xO × xS :=
  if bAl σ x = false then (.inr eN, σ) else if bz (bStrong x) = 0 then (.inr eA, σ) else if tBk σ y = false then (.inr eI, σ) else if ¬ σ 2 (xn y) = 0 then (.inr eS, σ)
  else if tRf (tAu σ (σ 9 (xn (bPl x))) (-1)) y 1 = -1 then
    (rI (σ 9 (xn (bPl x))), sGive (sGap (xu (tAu (tAu σ (σ 9 (xn (bPl x))) (-1)) y 1) 9 (xn (bPl x)) (-1)) m) (bPl x) y)
  else (.inr eU, xu (tAu (tAu σ (σ 9 (xn (bPl x))) (-1)) (σ 9 (xn (bPl x))) 1) 0 2 (tRf (tAu σ (σ 9 (xn (bPl x))) (-1)) y 1))
def cBuy (σ : xS) (x : Int32) : xO × xS := if tBk σ x = false then (.inr eI, σ) else if ¬ σ 2 (xn x) = 0 then (.inr eS, σ) else bNb σ x (nI 1)
def cBuyRun (σ : xS) (x y : Int32) : xO × xS :=
  if tBk σ x = false then (.inr eI, σ) else if y < 1 then (.inr eA, σ) else if 16 < y then (.inr eA, σ) else if ¬ σ 2 (xn x) = 0 then (.inr eS, σ) else bNb σ x y
abbrev cWorkS (σ : xS) (m : Nat) (x : Int32) : xS := tCl (sGap (bWoF 192 0 x σ) m)
def cWork (σ : xS) (m : Nat) (x : Int32) : xO × xS := if bz (bUp x) = 0 then (.inr eA, σ) else (rI (nI (bDp (cWorkS σ m x))), cWorkS σ m x)
def cTold (σ : xS) (x y : Int32) : xO × xS :=
  if tBk σ x = false then (.inr eI, σ) else if y.toInt < 0 ∨ 7 < y.toInt then (.inr eA, σ)
  else (rI (if y.toInt = 0 then σ 6 (xn x) else if y.toInt = 1 then nI (sOwn σ x) else if y.toInt = 2 then σ 5 (xn x) else if y.toInt = 3 then σ 4 (xn x) else if y.toInt = 4 then σ 3 (xn x) else if y.toInt = 5 then nI (tDep σ x) else if y.toInt = 6 then σ 2 (xn x) else nI (tSz σ x)), σ)
def cCount (σ : xS) (y : Int32) : Int32 :=
  if y.toInt = 0 then nI (xcn (sFr σ) 192) else if y.toInt = 1 then 192 - σ 7 6 - nI (xcn (sFr σ) 192) else if y.toInt = 2 then σ 7 6 else if y.toInt = 3 then nI (tSz σ 0) else -1
theorem bNb_int (σ : xS) (x n : Int32) (v : Option Value) (h : (bNb σ x n).1 = .inl v) : ∃ k, v = some (.int k) := by
  unfold bNb at h
  split at h
  · cases h
  · split at h
    · cases h
    · cases h; exact ⟨_, rfl⟩
theorem bWoF_other {q : Nat} (h6 : q ≠ 6) (h9 : q ≠ 9) : ∀ (f i : Nat) (l : Int32) (σ : xS), bWoF f i l σ q = σ q
  | 0, _, _, _ => rfl
  | f + 1, i, l, σ => by
    simp only [bWoF]
    split
    · rfl
    · split
      · rw [bWoF_other h6 h9 f _ _ _, xu_other h9, tAu_other h6]
      · rw [bWoF_other h6 h9 f _ _ _]
theorem xnI {n : Nat} (h : n < 2 ^ 31) : xn (nI n) = n := nI_clamp h
section XFace3
variable {E : xE} {σ : xS} {x y v n : Int32}
theorem c_B_move {m : Nat} (hp : pOK σ) (hw : wOK σ) (ho : oOK σ m) (hg : ∀ τ : xS, τ 7 = σ 7 → τ 12 = σ 12 → (∀ p, ¬ p = xn (bPl x) → τ 9 p = σ 9 p) → τ 9 (xn (bPl x)) = -1 → ¬ bAl σ x = false → vp_in (sGap τ m 7 6) 192) :
    XC E i_B_move 8 0 0 [.ref (xB E + 0), .int x, .int y] (xm σ) (xfn (cMove σ m x y)) := by
  refine XC.ofF (by decide +kernel) cd_B_move rfl (xle rfl) ?_
  have q : ¬ bAl σ x = false → vp_in (bPl x) 192 := fun h => (bAl_in (by simpa using h)).1
  have hw1 : ¬ bAl σ x = false → σ 9 (xn (bPl x)) = -1 ∨ vp_in (σ 9 (xn (bPl x))) 40 := fun h => hw _ (vp_in_xn (q h))
  have hp1 : pOK (tAu σ (σ 9 (xn (bPl x))) (-1)) := hp.of (tAu_other (by decide))
  have ho1 : oOK (xu (tAu (tAu σ (σ 9 (xn (bPl x))) (-1)) y 1) 9 (xn (bPl x)) (-1)) m := by
    refine ⟨?_, ho.2.1, fun i hi => ?_⟩
    · rw [xu_other (by decide), tAu_other (by decide), tAu_other (by decide)]; exact ho.1
    · rw [xu_other (by decide), tAu_other (by decide), tAu_other (by decide)]; exact ho.2.2 i hi
  have hg1 : ¬ bAl σ x = false → vp_in (sGap (xu (tAu (tAu σ (σ 9 (xn (bPl x))) (-1)) y 1) 9 (xn (bPl x)) (-1)) m 7 6) 192 := fun h => by
    refine hg _ ?_ ?_ (fun p hp => ?_) (xu_same _ _ _ _) h
    · rw [xu_other (by decide), tAu_other (by decide), tAu_other (by decide)]
    · rw [xu_other (by decide), tAu_other (by decide), tAu_other (by decide)]
    · rw [xu_at, if_neg hp, tAu_other (by decide), tAu_other (by decide)]
  refine XR.aload_n d_B_move_0 rfl ?_
  refine XR.iload_n d_B_move_1 rfl ?_
  refine XR.cVt (as := [_]) d_B_move_2 l_B_61 kv_B_requireAlive (c_B_requireAlive hw) rfl (xle rfl) rfl rfl (xle rfl) (xle rfl) rfl (fun h2 => ?_) (fun h2 => ?_)
  · exact ⟨by rw [cMove, if_pos h2], by rw [cMove, if_pos h2]⟩
  refine XR.iload_n d_B_move_5 rfl ?_
  refine XR.cS (as := [_]) d_B_move_6 l_B_64 ks_B_isStrong (c_B_isStrong) rfl (xle rfl) (xle rfl) ?_
  refine XR.cSt (as := [_]) d_B_move_9 l_B_35 ks_B_requireArgument (c_B_requireArgument) rfl (xle rfl) (xle rfl) rfl (fun h9 => ?_) (fun h9 => ?_)
  · exact ⟨by rw [cMove, if_neg h2, if_pos h9], by rw [cMove, if_neg h2, if_pos h9]⟩
  refine XR.aload_n d_B_move_12 rfl ?_
  refine XR.iload_n d_B_move_13 rfl ?_
  refine XR.cVt (as := [_]) d_B_move_14 l_B_27 kv_B_requireBank (c_B_requireBank) rfl (xle rfl) rfl rfl (xle rfl) (xle rfl) rfl (fun h14 => ?_) (fun h14 => ?_)
  · exact ⟨by rw [cMove, if_neg h2, if_neg h9, if_pos h14], by rw [cMove, if_neg h2, if_neg h9, if_pos h14]⟩
  refine XR.aload_n d_B_move_17 rfl ?_
  refine XR.iload_n d_B_move_18 rfl ?_
  refine XR.cVt (as := [_]) d_B_move_19 l_B_39 kv_B_requireLive (c_B_requireLive (tBk_in h14)) rfl (xle rfl) rfl rfl (xle rfl) (xle rfl) rfl (fun h19 => ?_) (fun h19 => ?_)
  · exact ⟨by rw [cMove, if_neg h2, if_neg h9, if_neg h14, if_pos h19], by rw [cMove, if_neg h2, if_neg h9, if_neg h14, if_pos h19]⟩
  refine XR.iload_n d_B_move_22 rfl ?_
  refine XR.cS (as := [_]) d_B_move_23 l_B_67 ks_B_placeOf (c_B_placeOf) rfl (xle rfl) (xle rfl) ?_
  refine XR.istore_n d_B_move_26 (xle rfl) rfl ?_
  refine XR.aload_n d_B_move_27 rfl ?_
  refine XR.getref d_B_move_28 (xle rfl) rfl rfl uin_B (fk := 1) (xle rfl) f_B_19 rfl (xle rfl) ?_
  refine XR.iload_n d_B_move_31 rfl ?_
  refine XR.cV (as := [_]) d_B_move_32 l_B_74 kv_S_ownerOf (c_S_ownerOf (q h2)) rfl (xle rfl) rfl rfl (xle rfl) (xle rfl) ?_
  refine XR.istore d_B_move_35 (xle rfl) rfl ?_
  refine XR.aload_n d_B_move_37 rfl ?_
  refine XR.getref d_B_move_38 (xle rfl) rfl rfl uin_B (fk := 0) (xle rfl) f_B_10 rfl (xle rfl) ?_
  refine XR.iload d_B_move_41 rfl ?_
  refine XR.iconst d_B_move_43 (v := -1) (by decide) ?_
  refine XR.cV (as := [_, _]) d_B_move_44 l_B_89 kv_T_addUse (c_T_addUse hp (hw1 h2)) rfl (xle rfl) rfl rfl (xle rfl) (xle rfl) ?_
  refine XR.aload_n d_B_move_47 rfl ?_
  refine XR.getref d_B_move_48 (xle rfl) rfl rfl uin_B (fk := 0) (xle rfl) f_B_10 rfl (xle rfl) ?_
  refine XR.iload_n d_B_move_51 rfl ?_
  refine XR.iconst d_B_move_52 (v := 1) (by decide) ?_
  refine XR.cV (as := [_, _]) d_B_move_53 l_B_106 kv_T_refuserOf (c_T_refuserOf hp1 (Or.inr (tBk_in h14))) rfl (xle rfl) rfl rfl (xle rfl) (xle rfl) ?_
  refine XR.istore d_B_move_56 (xle rfl) rfl ?_
  refine XR.iload d_B_move_58 rfl ?_
  refine XR.iconst d_B_move_60 (v := -1) (by decide) ?_
  refine XR.icmp_eq d_B_move_61 (tgt := 80) (by decide) (fun h61 => ?_) (fun h61 => ?_)
  · refine XR.aload_n d_B_move_80 rfl ?_
    refine XR.getref d_B_move_81 (xle rfl) rfl rfl uin_B (fk := 0) (xle rfl) f_B_10 rfl (xle rfl) ?_
    refine XR.iload_n d_B_move_84 rfl ?_
    refine XR.iconst d_B_move_85 (v := 1) (by decide) ?_
    refine XR.cV (as := [_, _]) d_B_move_86 l_B_89 kv_T_addUse (c_T_addUse hp1 (Or.inr (tBk_in h14))) rfl (xle rfl) rfl rfl (xle rfl) (xle rfl) ?_
    refine XR.aload_n d_B_move_89 rfl ?_
    refine XR.getref d_B_move_90 (xle rfl) rfl rfl uin_B (fk := 1) (xle rfl) f_B_19 rfl (xle rfl) ?_
    refine XR.iload_n d_B_move_93 rfl ?_
    refine XR.cV (as := [_]) d_B_move_94 l_B_83 kv_S_vacate (c_S_vacate (q h2)) rfl (xle rfl) rfl rfl (xle rfl) (xle rfl) ?_
    refine XR.aload_n d_B_move_97 rfl ?_
    refine XR.getref d_B_move_98 (xle rfl) rfl rfl uin_B (fk := 1) (xle rfl) f_B_19 rfl (xle rfl) ?_
    refine XR.cV (as := []) d_B_move_101 l_B_86 kv_S_closeGaps (c_S_closeGaps ho1) rfl (xle rfl) rfl rfl (xle rfl) (xle rfl) ?_
    refine XR.aload_n d_B_move_104 rfl ?_
    refine XR.getref d_B_move_105 (xle rfl) rfl rfl uin_B (fk := 1) (xle rfl) f_B_19 rfl (xle rfl) ?_
    refine XR.iload_n d_B_move_108 rfl ?_
    refine XR.iload_n d_B_move_109 rfl ?_
    refine XR.cV (as := [_, _]) d_B_move_110 l_B_109 kv_S_give (c_S_give (q h2) (hg1 h2)) rfl (xle rfl) rfl rfl (xle rfl) (xle rfl) ?_
    refine XR.iload d_B_move_113 rfl ?_
    refine XR.xreturn d_B_move_115 rfl ?_
    exact ⟨by rw [cMove, if_neg h2, if_neg h9, if_neg h14, if_neg h19, if_pos h61], by rw [cMove, if_neg h2, if_neg h9, if_neg h14, if_neg h19, if_pos h61]⟩
  refine XR.aload_n d_B_move_64 rfl ?_
  refine XR.getref d_B_move_65 (xle rfl) rfl rfl uin_B (fk := 0) (xle rfl) f_B_10 rfl (xle rfl) ?_
  refine XR.iload d_B_move_68 rfl ?_
  refine XR.iconst d_B_move_70 (v := 1) (by decide) ?_
  refine XR.cV (as := [_, _]) d_B_move_71 l_B_89 kv_T_addUse (c_T_addUse hp1 (hw1 h2)) rfl (xle rfl) rfl rfl (xle rfl) (xle rfl) ?_
  refine XR.aload_n d_B_move_74 rfl ?_
  refine XR.iload d_B_move_75 rfl ?_
  refine XR.cVx (as := [_]) d_B_move_77 l_B_50 kv_B_refuse (c_B_refuse) rfl (xle rfl) rfl rfl (xle rfl) (xle rfl) rfl ?_
  exact ⟨by rw [cMove, if_neg h2, if_neg h9, if_neg h14, if_neg h19, if_neg h61], by rw [cMove, if_neg h2, if_neg h9, if_neg h14, if_neg h19, if_neg h61]⟩
theorem c_B_buyNeighbours {m l : Nat} (hp : pOK σ) (hx : vp_in x 40) (hn : n = nI m) (hm1 : 1 ≤ m) (hm : m ≤ 16) (hl : σ 7 6 = nI l) (hf : ¬ sLf σ n = -1 → ∃ a, sLf σ n = nI a ∧ a + m ≤ 192 ∧ l + m ≤ 192) :
    XC E i_B_buyNeighbours 8 0 0 [.ref (xB E + 0), .int x, .int n] (xm σ) (xfn (bNb σ x n)) := by
  refine XC.ofF (by decide +kernel) cd_B_buyNeighbours rfl (xle rfl) ?_
  have hp1 : pOK (xu σ 5 (xn x) (σ 5 (xn x) + -bTk σ x n)) := hp.of (xu_other (by decide))
  have hfill : ¬ sLf σ n = -1 → XC E i_S_fill 2 0 0 [.ref (xB E + 7), .int (sLf σ n), .int n, .int x] (xm (tAu (xu σ 5 (xn x) (σ 5 (xn x) + -bTk σ x n)) x (n - bTk σ x n))) (xok none (xm (bNbS σ x n))) := fun h => by
    obtain ⟨a, e1, e2, e3⟩ := hf h
    have e4 : bNbS σ x n = sFi (tAu (xu σ 5 (xn x) (σ 5 (xn x) + -bTk σ x n)) x (n - bTk σ x n)) a m x := by
      show sFi _ (xn (sLf σ n)) (xn n) x = _
      rw [e1, hn, xnI (n := a) (by omega), xnI (n := m) (by omega)]
    rw [e4, e1]
    have := c_S_fill (E := E) (σ := tAu (xu σ 5 (xn x) (σ 5 (xn x) + -bTk σ x n)) x (n - bTk σ x n)) (b := x) (a := a) (m := m) (l := l) e2 (by rw [tAu_other (by decide), xu_other (by decide)]; exact hl) e3
    rw [← hn] at this
    exact this
  have hkey : ¬ sLf σ n = -1 → vp_in (sLf σ n) 192 := fun h => by
    obtain ⟨a, e1, e2, e3⟩ := hf h
    rw [e1]
    exact vp_in_nI (by omega) (by decide)
  have cmin : XC E i_J_min 1 0 0 [.int n, .int (σ 5 (xn x))] (xm σ) (xok (some (.int (bTk σ x n))) (xm σ)) := c_J_min
  refine XR.iload_n d_B_buyNeighbours_0 rfl ?_
  refine XR.aload_n d_B_buyNeighbours_1 rfl ?_
  refine XR.getref d_B_buyNeighbours_2 (xle rfl) rfl rfl uin_B (fk := 0) (xle rfl) f_B_10 rfl (xle rfl) ?_
  refine XR.iload_n d_B_buyNeighbours_5 rfl ?_
  refine XR.cV (as := [_]) d_B_buyNeighbours_6 l_B_127 kv_T_reservedBy (c_T_reservedBy hx) rfl (xle rfl) rfl rfl (xle rfl) (xle rfl) ?_
  refine XR.cS (as := [_, _]) d_B_buyNeighbours_9 l_B_208 ks_J_min (cmin) rfl (xle rfl) (xle rfl) ?_
  refine XR.istore_n d_B_buyNeighbours_12 (xle rfl) rfl ?_
  refine XR.aload_n d_B_buyNeighbours_13 rfl ?_
  refine XR.iload_n d_B_buyNeighbours_14 rfl ?_
  refine XR.iload_n d_B_buyNeighbours_15 rfl ?_
  refine XR.iload_n d_B_buyNeighbours_16 rfl ?_
  refine XR.isub d_B_buyNeighbours_17 ?_
  refine XR.cVt (as := [_, _]) d_B_buyNeighbours_18 l_B_121 kv_B_requireUse (c_B_requireUse hp hx) rfl (xle rfl) rfl rfl (xle rfl) (xle rfl) rfl (fun h18 => ?_) (fun h18 => ?_)
  · exact ⟨by rw [bNb, if_pos h18], by rw [bNb, if_pos h18]⟩
  refine XR.aload_n d_B_buyNeighbours_21 rfl ?_
  refine XR.getref d_B_buyNeighbours_22 (xle rfl) rfl rfl uin_B (fk := 1) (xle rfl) f_B_19 rfl (xle rfl) ?_
  refine XR.iload_n d_B_buyNeighbours_25 rfl ?_
  refine XR.cV (as := [_]) d_B_buyNeighbours_26 l_B_213 kv_S_leastFree (c_S_leastFree) rfl (xle rfl) rfl rfl (xle rfl) (xle rfl) ?_
  refine XR.istore d_B_buyNeighbours_29 (xle rfl) rfl ?_
  refine XR.iload d_B_buyNeighbours_31 rfl ?_
  refine XR.iconst d_B_buyNeighbours_33 (v := -1) (by decide) ?_
  refine XR.icmp_ne d_B_buyNeighbours_34 (tgt := 42) (by decide) (fun h34 => ?_) (fun h34 => ?_)
  · refine XR.aload_n d_B_buyNeighbours_42 rfl ?_
    refine XR.getref d_B_buyNeighbours_43 (xle rfl) rfl rfl uin_B (fk := 0) (xle rfl) f_B_10 rfl (xle rfl) ?_
    refine XR.iload_n d_B_buyNeighbours_46 rfl ?_
    refine XR.iload_n d_B_buyNeighbours_47 rfl ?_
    refine XR.ineg d_B_buyNeighbours_48 ?_
    refine XR.cV (as := [_, _]) d_B_buyNeighbours_49 l_B_124 kv_T_addReserved (c_T_addReserved hx) rfl (xle rfl) rfl rfl (xle rfl) (xle rfl) ?_
    refine XR.aload_n d_B_buyNeighbours_52 rfl ?_
    refine XR.getref d_B_buyNeighbours_53 (xle rfl) rfl rfl uin_B (fk := 0) (xle rfl) f_B_10 rfl (xle rfl) ?_
    refine XR.iload_n d_B_buyNeighbours_56 rfl ?_
    refine XR.iload_n d_B_buyNeighbours_57 rfl ?_
    refine XR.iload_n d_B_buyNeighbours_58 rfl ?_
    refine XR.isub d_B_buyNeighbours_59 ?_
    refine XR.cV (as := [_, _]) d_B_buyNeighbours_60 l_B_89 kv_T_addUse (c_T_addUse hp1 (Or.inr hx)) rfl (xle rfl) rfl rfl (xle rfl) (xle rfl) ?_
    refine XR.aload_n d_B_buyNeighbours_63 rfl ?_
    refine XR.getref d_B_buyNeighbours_64 (xle rfl) rfl rfl uin_B (fk := 1) (xle rfl) f_B_19 rfl (xle rfl) ?_
    refine XR.iload d_B_buyNeighbours_67 rfl ?_
    refine XR.iload_n d_B_buyNeighbours_69 rfl ?_
    refine XR.iload_n d_B_buyNeighbours_70 rfl ?_
    refine XR.cV (as := [_, _, _]) d_B_buyNeighbours_71 l_B_216 kv_S_fill (hfill h34) rfl (xle rfl) rfl rfl (xle rfl) (xle rfl) ?_
    refine XR.aload_n d_B_buyNeighbours_74 rfl ?_
    refine XR.getref d_B_buyNeighbours_75 (xle rfl) rfl rfl uin_B (fk := 1) (xle rfl) f_B_19 rfl (xle rfl) ?_
    refine XR.iload d_B_buyNeighbours_78 rfl ?_
    refine XR.cV (as := [_]) d_B_buyNeighbours_80 l_B_80 kv_S_strongKey (c_S_strongKey (hkey h34)) rfl (xle rfl) rfl rfl (xle rfl) (xle rfl) ?_
    refine XR.xreturn d_B_buyNeighbours_83 rfl ?_
    exact ⟨by rw [bNb, if_neg h18, if_neg h34], by rw [bNb, if_neg h18, if_neg h34]⟩
  refine XR.aload_n d_B_buyNeighbours_37 rfl ?_
  refine XR.iconst d_B_buyNeighbours_38 (v := -1) (by decide) ?_
  refine XR.cVx (as := [_]) d_B_buyNeighbours_39 l_B_50 kv_B_refuse (c_B_refuse) rfl (xle rfl) rfl rfl (xle rfl) (xle rfl) rfl ?_
  exact ⟨by rw [bNb, if_neg h18, if_pos h34], by rw [bNb, if_neg h18, if_pos h34]⟩
theorem c_B_buy {l : Nat} (hp : pOK σ) (hl : σ 7 6 = nI l) (hf : ¬ sLf σ (nI 1) = -1 → ∃ a, sLf σ (nI 1) = nI a ∧ a + 1 ≤ 192 ∧ l + 1 ≤ 192) : XC E i_B_buy 9 0 0 [.ref (xB E + 0), .int x] (xm σ) (xfn (cBuy σ x)) := by
  refine XC.ofF (by decide +kernel) cd_B_buy rfl (xle rfl) ?_
  refine XR.aload_n d_B_buy_0 rfl ?_
  refine XR.iload_n d_B_buy_1 rfl ?_
  refine XR.cVt (as := [_]) d_B_buy_2 l_B_27 kv_B_requireBank (c_B_requireBank) rfl (xle rfl) rfl rfl (xle rfl) (xle rfl) rfl (fun h2 => ?_) (fun h2 => ?_)
  · exact ⟨by rw [cBuy, if_pos h2], by rw [cBuy, if_pos h2]⟩
  refine XR.aload_n d_B_buy_5 rfl ?_
  refine XR.iload_n d_B_buy_6 rfl ?_
  refine XR.cVt (as := [_]) d_B_buy_7 l_B_39 kv_B_requireLive (c_B_requireLive (tBk_in h2)) rfl (xle rfl) rfl rfl (xle rfl) (xle rfl) rfl (fun h7 => ?_) (fun h7 => ?_)
  · exact ⟨by rw [cBuy, if_neg h2, if_pos h7], by rw [cBuy, if_neg h2, if_pos h7]⟩
  refine XR.aload_n d_B_buy_10 rfl ?_
  refine XR.iload_n d_B_buy_11 rfl ?_
  refine XR.iconst d_B_buy_12 (v := nI 1) (by decide) ?_
  refine XR.cVf (as := [_, _]) d_B_buy_13 l_B_57 kv_B_buyNeighbours (c_B_buyNeighbours (m := 1) hp (tBk_in h2) rfl (by decide) (by decide) hl hf) rfl (xle rfl) rfl rfl (xle rfl) (xle rfl) rfl (fun X hX => ?_) (fun v hv => ?_)
  · exact ⟨by rw [cBuy, if_neg h2, if_neg h7, hX], by rw [cBuy, if_neg h2, if_neg h7]⟩
  obtain ⟨k, rfl⟩ := bNb_int _ _ _ _ hv
  refine XR.xreturn d_B_buy_16 rfl ?_
  exact ⟨by rw [cBuy, if_neg h2, if_neg h7, hv], by rw [cBuy, if_neg h2, if_neg h7]⟩
theorem c_B_buyRun {l : Nat} (hp : pOK σ) (hl : σ 7 6 = nI l) (hf : ∀ m : Nat, 1 ≤ m → m ≤ 16 → ¬ sLf σ (nI m) = -1 → ∃ a, sLf σ (nI m) = nI a ∧ a + m ≤ 192 ∧ l + m ≤ 192) : XC E i_B_buyRun 9 0 0 [.ref (xB E + 0), .int x, .int y] (xm σ) (xfn (cBuyRun σ x y)) := by
  refine XC.ofF (by decide +kernel) cd_B_buyRun rfl (xle rfl) ?_
  have hy : ¬ y < 1 → ¬ 16 < y → ∃ m : Nat, y = nI m ∧ 1 ≤ m ∧ m ≤ 16 := fun a b => by
    have h1 : (1 : Int32).toInt = 1 := by decide
    have h16 : (16 : Int32).toInt = 16 := by decide
    rw [Int32.lt_iff_toInt_lt] at a b
    refine ⟨y.toInt.toNat, ?_, by omega, by omega⟩
    rw [ti_eq, nI_toInt (by omega)]
    omega
  have hcall : ¬ tBk σ x = false → ¬ y < 1 → ¬ 16 < y → XC E i_B_buyNeighbours 8 0 0 [.ref (xB E + 0), .int x, .int y] (xm σ) (xfn (bNb σ x y)) := fun a b c => by
    obtain ⟨m, rfl, h1, h2⟩ := hy b c
    exact c_B_buyNeighbours (m := m) hp (tBk_in a) rfl h1 h2 hl (hf m h1 h2)
  refine XR.aload_n d_B_buyRun_0 rfl ?_
  refine XR.iload_n d_B_buyRun_1 rfl ?_
  refine XR.cVt (as := [_]) d_B_buyRun_2 l_B_27 kv_B_requireBank (c_B_requireBank) rfl (xle rfl) rfl rfl (xle rfl) (xle rfl) rfl (fun h2 => ?_) (fun h2 => ?_)
  · exact ⟨by rw [cBuyRun, if_pos h2], by rw [cBuyRun, if_pos h2]⟩
  refine XR.iload_n d_B_buyRun_5 rfl ?_
  refine XR.iconst d_B_buyRun_6 (v := 1) (by decide) ?_
  refine XR.icmp_lt d_B_buyRun_7 (tgt := 20) (by decide) (fun h7 => ?_) (fun h7 => ?_)
  · refine XR.iconst d_B_buyRun_20 (v := 0) (by decide) ?_
    refine XR.cSt (as := [_]) d_B_buyRun_21 l_B_35 ks_B_requireArgument (c_B_requireArgument) rfl (xle rfl) (xle rfl) rfl (fun h21 => ?_) (fun h21 => ?_)
    · exact ⟨by rw [cBuyRun, if_neg h2, if_pos h7], by rw [cBuyRun, if_neg h2, if_pos h7]⟩
    exact absurd rfl h21
  refine XR.iload_n d_B_buyRun_10 rfl ?_
  refine XR.bipush d_B_buyRun_11 (v := 16) (by decide) ?_
  refine XR.icmp_gt d_B_buyRun_13 (tgt := 20) (by decide) (fun h13 => ?_) (fun h13 => ?_)
  · refine XR.iconst d_B_buyRun_20 (v := 0) (by decide) ?_
    refine XR.cSt (as := [_]) d_B_buyRun_21 l_B_35 ks_B_requireArgument (c_B_requireArgument) rfl (xle rfl) (xle rfl) rfl (fun h21 => ?_) (fun h21 => ?_)
    · exact ⟨by rw [cBuyRun, if_neg h2, if_neg h7, if_pos h13], by rw [cBuyRun, if_neg h2, if_neg h7, if_pos h13]⟩
    exact absurd rfl h21
  refine XR.iconst d_B_buyRun_16 (v := 1) (by decide) ?_
  refine XR.goto d_B_buyRun_17 (tgt := 21) (by decide) ?_
  refine XR.cSt (as := [_]) d_B_buyRun_21 l_B_35 ks_B_requireArgument (c_B_requireArgument) rfl (xle rfl) (xle rfl) rfl (fun h21 => ?_) (fun h21 => ?_)
  · exact absurd h21 (by decide)
  refine XR.aload_n d_B_buyRun_24 rfl ?_
  refine XR.iload_n d_B_buyRun_25 rfl ?_
  refine XR.cVt (as := [_]) d_B_buyRun_26 l_B_39 kv_B_requireLive (c_B_requireLive (tBk_in h2)) rfl (xle rfl) rfl rfl (xle rfl) (xle rfl) rfl (fun h26 => ?_) (fun h26 => ?_)
  · exact ⟨by rw [cBuyRun, if_neg h2, if_neg h7, if_neg h13, if_pos h26], by rw [cBuyRun, if_neg h2, if_neg h7, if_neg h13, if_pos h26]⟩
  refine XR.aload_n d_B_buyRun_29 rfl ?_
  refine XR.iload_n d_B_buyRun_30 rfl ?_
  refine XR.iload_n d_B_buyRun_31 rfl ?_
  refine XR.cVf (as := [_, _]) d_B_buyRun_32 l_B_57 kv_B_buyNeighbours (hcall h2 h7 h13) rfl (xle rfl) rfl rfl (xle rfl) (xle rfl) rfl (fun X hX => ?_) (fun v hv => ?_)
  · exact ⟨by rw [cBuyRun, if_neg h2, if_neg h7, if_neg h13, if_neg h26, hX], by rw [cBuyRun, if_neg h2, if_neg h7, if_neg h13, if_neg h26]⟩
  obtain ⟨k, rfl⟩ := bNb_int _ _ _ _ hv
  refine XR.xreturn d_B_buyRun_35 rfl ?_
  exact ⟨by rw [cBuyRun, if_neg h2, if_neg h7, if_neg h13, if_neg h26, hv], by rw [cBuyRun, if_neg h2, if_neg h7, if_neg h13, if_neg h26]⟩
theorem c_B_work {m : Nat} (hp : pOK σ) (hw : wOK σ) (ho : oOK σ m) : XC E i_B_work 9 0 0 [.ref (xB E + 0), .int x] (xm σ) (xfn (cWork σ m x)) := by
  refine XC.ofF (by decide +kernel) cd_B_work rfl (xle rfl) ?_
  have fin : ∀ (τ : xS), ¬ bz (bUp x) = 0 → wOK τ → oOK τ m → τ = bWoF 192 0 x σ → ∀ (L : List Value), L[0]? = some (.ref (xB E + 0)) → XR E i_B_work 9 0 0 (xfn (cWork σ m x)) 63 L [] (xm τ) := by
    intro τ hb hw ho he L hL
    have hw2 : wOK (tCl (sGap τ m)) := fun p h => by rw [tCl_other (by decide), sGap_other (by decide) (by decide)]; exact hw p h
    refine XR.locals (L' := [.ref (xB E + 0)]) (fun i v h => ?_) ?_
    · match i, h with
      | 0, h => cases h; exact hL
      | i + 1, h => simp at h
    refine XR.aload_n d_B_work_63 rfl ?_
    refine XR.getref d_B_work_64 (xle rfl) rfl rfl uin_B (fk := 1) (xle rfl) f_B_19 rfl (xle rfl) ?_
    refine XR.cV (as := []) d_B_work_67 l_B_86 kv_S_closeGaps (c_S_closeGaps ho) rfl (xle rfl) rfl rfl (xle rfl) (xle rfl) ?_
    refine XR.aload_n d_B_work_70 rfl ?_
    refine XR.getref d_B_work_71 (xle rfl) rfl rfl uin_B (fk := 0) (xle rfl) f_B_10 rfl (xle rfl) ?_
    refine XR.cV (as := []) d_B_work_74 l_B_139 kv_T_closeEmptyDying (c_T_closeEmptyDying) rfl (xle rfl) rfl rfl (xle rfl) (xle rfl) ?_
    refine XR.aload_n d_B_work_77 rfl ?_
    refine XR.cV (as := []) d_B_work_78 l_B_142 kv_B_dyingPages (c_B_dyingPages hw2) rfl (xle rfl) rfl rfl (xle rfl) (xle rfl) ?_
    refine XR.xreturn d_B_work_81 rfl ?_
    exact ⟨by rw [cWork, if_neg hb, he], by rw [cWork, if_neg hb, he]⟩
  have loop : ¬ bz (bUp x) = 0 → ∀ (f i : Nat) (left : Int32) (τ : xS), i + f = 192 → bWoF f i left τ = bWoF 192 0 x σ → pOK τ → wOK τ → oOK τ m → XR E i_B_work 9 0 0 (xfn (cWork σ m x)) 11 [.ref (xB E + 0), .int x, .int left, .int (nI i)] [] (xm τ) := by
    intro hb f
    induction f with
    | zero =>
      intro i left τ hi he hp hw ho
      have : i = 192 := by omega
      subst this
      refine XR.iload_n d_B_work_11 rfl ?_
      refine XR.sipush d_B_work_12 (v := 192) (by decide) ?_
      refine XR.icmp_ge d_B_work_15 (tgt := 63) (by decide) (fun _ => ?_) (fun h => absurd (by decide) h)
      exact fin τ hb hw ho he _ rfl
    | succ f ih =>
      intro i left τ hi he hp hw ho
      have ei : xn (nI i) = i := nI_clamp (by omega)
      have hi1 : vp_in (nI i) 192 := vp_in_nI (by omega) (by decide)
      have q1 : left ≤ 0 → bWoF (f + 1) i left τ = τ := fun a => by simp only [bWoF, if_pos a]
      have q2 : ¬ left ≤ 0 → bDyP τ i = true → bWoF (f + 1) i left τ = bWoF f (i + 1) (left - 1) (xu (tAu τ (τ 9 i) (-1)) 9 i (-1)) := fun a b => by simp only [bWoF, if_neg a, if_pos b]
      have q3 : ¬ left ≤ 0 → ¬ bDyP τ i = true → bWoF (f + 1) i left τ = bWoF f (i + 1) left τ := fun a b => by simp only [bWoF, if_neg a, if_neg b]
      have z1 : bz (bDyP τ (xn (nI i))) = 0 → ¬ bDyP τ i = true := fun h => by rw [ei, bz_z] at h; simp [h]
      have z2 : ¬ bz (bDyP τ (xn (nI i))) = 0 → bDyP τ i = true := fun h => by rw [ei, bz_z] at h; simpa using h
      have ho' : τ 9 (xn (nI i)) = -1 ∨ vp_in (τ 9 (xn (nI i))) 40 := by rw [ei]; exact hw i (by omega)
      have hp2 : pOK (xu (tAu τ (τ 9 i) (-1)) 9 i (-1)) := hp.of (by rw [xu_other (by decide), tAu_other (by decide)])
      have hw2 : wOK (xu (tAu τ (τ 9 i) (-1)) 9 i (-1)) := fun p h => by
        rw [xu_at]
        split
        · exact Or.inl rfl
        · rw [tAu_other (by decide)]; exact hw p h
      have ho2 : oOK (xu (tAu τ (τ 9 i) (-1)) 9 i (-1)) m := by
        refine ⟨?_, ho.2.1, fun j hj => ?_⟩
        · rw [xu_other (by decide), tAu_other (by decide)]; exact ho.1
        · rw [xu_other (by decide), tAu_other (by decide)]; exact ho.2.2 j hj
      refine XR.iload_n d_B_work_11 rfl ?_
      refine XR.sipush d_B_work_12 (v := 192) (by decide) ?_
      refine XR.icmp_ge d_B_work_15 (tgt := 63) (by decide) (fun h => absurd h (nn_le (n := 192) (by omega) (by decide))) (fun _ => ?_)
      refine XR.iload_n d_B_work_18 rfl ?_
      refine XR.if_le d_B_work_19 (tgt := 63) (by decide) (fun h19 => ?_) (fun h19 => ?_)
      · exact fin τ hb hw ho (by rw [← he, q1 h19]) _ rfl
      refine XR.aload_n d_B_work_22 rfl ?_
      refine XR.iload_n d_B_work_23 rfl ?_
      refine XR.cV (as := [_]) d_B_work_24 l_B_145 kv_B_isDyingPage (c_B_isDyingPage hw hi1) rfl (xle rfl) rfl rfl (xle rfl) (xle rfl) ?_
      refine XR.if_eq d_B_work_27 (tgt := 57) (by decide) (fun h27 => ?_) (fun h27 => ?_)
      · refine XR.iincN d_B_work_57 rfl (xle rfl) rfl ?_
        refine XR.goto d_B_work_60 (tgt := 11) (by decide) ?_
        first | exact ih (i + 1) _ _ (by omega) (by rw [← he, q3 h19 (z1 h27)]) hp hw ho | exact ih (i + 1) _ _ (by omega) (by rw [← he, q2 h19 (z2 h27)]) hp2 hw2 ho2
      refine XR.aload_n d_B_work_30 rfl ?_
      refine XR.getref d_B_work_31 (xle rfl) rfl rfl uin_B (fk := 0) (xle rfl) f_B_10 rfl (xle rfl) ?_
      refine XR.aload_n d_B_work_34 rfl ?_
      refine XR.getref d_B_work_35 (xle rfl) rfl rfl uin_B (fk := 1) (xle rfl) f_B_19 rfl (xle rfl) ?_
      refine XR.iload_n d_B_work_38 rfl ?_
      refine XR.cV (as := [_]) d_B_work_39 l_B_74 kv_S_ownerOf (c_S_ownerOf hi1) rfl (xle rfl) rfl rfl (xle rfl) (xle rfl) ?_
      refine XR.iconst d_B_work_42 (v := -1) (by decide) ?_
      refine XR.cV (as := [_, _]) d_B_work_43 l_B_89 kv_T_addUse (c_T_addUse hp ho') rfl (xle rfl) rfl rfl (xle rfl) (xle rfl) ?_
      refine XR.aload_n d_B_work_46 rfl ?_
      refine XR.getref d_B_work_47 (xle rfl) rfl rfl uin_B (fk := 1) (xle rfl) f_B_19 rfl (xle rfl) ?_
      refine XR.iload_n d_B_work_50 rfl ?_
      refine XR.cV (as := [_]) d_B_work_51 l_B_83 kv_S_vacate (c_S_vacate hi1) rfl (xle rfl) rfl rfl (xle rfl) (xle rfl) ?_
      rw [ei]
      refine XR.iincm d_B_work_54 rfl (xle rfl) rfl ?_
      refine XR.iincN d_B_work_57 rfl (xle rfl) rfl ?_
      refine XR.goto d_B_work_60 (tgt := 11) (by decide) ?_
      first | exact ih (i + 1) _ _ (by omega) (by rw [← he, q3 h19 (z1 h27)]) hp hw ho | exact ih (i + 1) _ _ (by omega) (by rw [← he, q2 h19 (z2 h27)]) hp2 hw2 ho2
  refine XR.iload_n d_B_work_0 rfl ?_
  refine XR.cS (as := [_]) d_B_work_1 l_B_31 ks_B_isUpToAllPages (c_B_isUpToAllPages) rfl (xle rfl) (xle rfl) ?_
  refine XR.cSt (as := [_]) d_B_work_4 l_B_35 ks_B_requireArgument (c_B_requireArgument) rfl (xle rfl) (xle rfl) rfl (fun h4 => ?_) (fun h4 => ?_)
  · exact ⟨by rw [cWork, if_pos h4], by rw [cWork, if_pos h4]⟩
  refine XR.iload_n d_B_work_7 rfl ?_
  refine XR.istore_n d_B_work_8 (xle rfl) rfl ?_
  refine XR.iconst d_B_work_9 (v := nI 0) (by decide) ?_
  refine XR.istore_n d_B_work_10 (xle rfl) rfl ?_
  exact loop h4 192 0 x σ rfl rfl hp hw ho
end XFace3
end
section
/-! told, count, astray -/
def bSt1 (σ : xS) (b : Nat) : Bool := tBk σ (nI b) && tStray σ (nI b) (nI (sOwn σ (nI b)))
def bSt2 (σ : xS) (p : Nat) : Bool := !(σ 13 p == bz (sTk σ p)) || bWoP σ p
def cAstray (σ : xS) (m : Nat) : Nat := xcn (bSt1 σ) 40 + xcn (bSt2 (sCoF m 0 (xfl σ 13 0 192))) 192
abbrev cAstrayS (σ : xS) (m : Nat) : xS := sCoF m 0 (xfl σ 13 0 192)
theorem sCoF_other {q : Nat} (hq : q ≠ 13) : ∀ (f i : Nat) (σ : xS), sCoF f i σ q = σ q
  | 0, _, _ => rfl
  | f + 1, i, σ => by simp only [sCoF]; rw [sCoF_other hq f _ _, xu_other hq]
theorem xcn_t {p : Nat → Bool} {n : Nat} (h : p n = true) : xcn p (n + 1) = xcn p n + 1 := by simp [xcn, h]
theorem xcn_f {p : Nat → Bool} {n : Nat} (h : p n = false) : xcn p (n + 1) = xcn p n := by simp [xcn, h]
section XFace4
variable {E : xE} {σ : xS} {x y v n : Int32}
theorem c_B_told (hp : pOK σ) : XC E i_B_told 8 0 0 [.ref (xB E + 0), .int x, .int y] (xm σ) (xfn (cTold σ x y)) := by
  refine XC.ofF (by decide +kernel) cd_B_told rfl (xle rfl) ?_
  refine XR.aload_n d_B_told_0 rfl ?_
  refine XR.iload_n d_B_told_1 rfl ?_
  refine XR.cVt (as := [_]) d_B_told_2 l_B_27 kv_B_requireBank (c_B_requireBank) rfl (xle rfl) rfl rfl (xle rfl) (xle rfl) rfl (fun h2 => ?_) (fun h2 => ?_)
  · exact ⟨by rw [cTold, if_pos h2], by rw [cTold, if_pos h2]⟩
  refine XR.iload_n d_B_told_5 rfl ?_
  skip
  by_cases ho : y.toInt < 0 ∨ 7 < y.toInt
  · refine XR.tableOut d_B_told_6 ho (tgt := 124) (by decide) ?_
    refine XR.throw (names := xnames) d_B_told_124 d_B_told_127 d_B_told_128 d_B_told_131 c_B_169 in_java_lang_IllegalArgumentException it_java_lang_IllegalArgumentException fit_IllegalArgumentException xnames_fit ta_IllegalArgumentException (xnlt rfl) (fun _ hx => absurd hx List.not_mem_nil) (xle rfl) (xle rfl) ?_
    exact ⟨by rw [cTold, if_neg h2, if_pos ho], by rw [cTold, if_neg h2, if_pos ho]⟩
  · have h8 : y.toInt = 0 ∨ y.toInt = 1 ∨ y.toInt = 2 ∨ y.toInt = 3 ∨ y.toInt = 4 ∨ y.toInt = 5 ∨ y.toInt = 6 ∨ y.toInt = 7 := by omega
    have hc : ∀ r : Int32, r = (if y.toInt = 0 then σ 6 (xn x) else if y.toInt = 1 then nI (sOwn σ x) else if y.toInt = 2 then σ 5 (xn x) else if y.toInt = 3 then σ 4 (xn x) else if y.toInt = 4 then σ 3 (xn x) else if y.toInt = 5 then nI (tDep σ x) else if y.toInt = 6 then σ 2 (xn x) else nI (tSz σ x)) → xfn (cTold σ x y) (.inl (some (.int r))) (xm σ) := fun r hr => ⟨by rw [cTold, if_neg h2, if_neg ho, ← hr], by rw [cTold, if_neg h2, if_neg ho]⟩
    rcases h8 with e | e | e | e | e | e | e | e
    · refine XR.tableIn d_B_told_6 (off := 46) (tgt := 52) (by omega) (by omega) (by rw [e]; rfl) (by decide) ?_
      refine XR.aload_n d_B_told_52 rfl ?_
      refine XR.getref d_B_told_53 (xle rfl) rfl rfl uin_B (fk := 0) (xle rfl) f_B_10 rfl (xle rfl) ?_
      refine XR.iload_n d_B_told_56 rfl ?_
      refine XR.cV (as := [_]) d_B_told_57 l_B_112 kv_T_useOf (c_T_useOf (tBk_in h2)) rfl (xle rfl) rfl rfl (xle rfl) (xle rfl) ?_
      refine XR.xreturn d_B_told_60 rfl ?_
      exact hc _ (by simp [e])
    · refine XR.tableIn d_B_told_6 (off := 55) (tgt := 61) (by omega) (by omega) (by rw [e]; rfl) (by decide) ?_
      refine XR.aload_n d_B_told_61 rfl ?_
      refine XR.getref d_B_told_62 (xle rfl) rfl rfl uin_B (fk := 1) (xle rfl) f_B_19 rfl (xle rfl) ?_
      refine XR.iload_n d_B_told_65 rfl ?_
      refine XR.cV (as := [_]) d_B_told_66 l_B_148 kv_S_ownedBy (c_S_ownedBy) rfl (xle rfl) rfl rfl (xle rfl) (xle rfl) ?_
      refine XR.xreturn d_B_told_69 rfl ?_
      exact hc _ (by simp [e])
    · refine XR.tableIn d_B_told_6 (off := 64) (tgt := 70) (by omega) (by omega) (by rw [e]; rfl) (by decide) ?_
      refine XR.aload_n d_B_told_70 rfl ?_
      refine XR.getref d_B_told_71 (xle rfl) rfl rfl uin_B (fk := 0) (xle rfl) f_B_10 rfl (xle rfl) ?_
      refine XR.iload_n d_B_told_74 rfl ?_
      refine XR.cV (as := [_]) d_B_told_75 l_B_127 kv_T_reservedBy (c_T_reservedBy (tBk_in h2)) rfl (xle rfl) rfl rfl (xle rfl) (xle rfl) ?_
      refine XR.xreturn d_B_told_78 rfl ?_
      exact hc _ (by simp [e])
    · refine XR.tableIn d_B_told_6 (off := 73) (tgt := 79) (by omega) (by omega) (by rw [e]; rfl) (by decide) ?_
      refine XR.aload_n d_B_told_79 rfl ?_
      refine XR.getref d_B_told_80 (xle rfl) rfl rfl uin_B (fk := 0) (xle rfl) f_B_10 rfl (xle rfl) ?_
      refine XR.iload_n d_B_told_83 rfl ?_
      refine XR.cV (as := [_]) d_B_told_84 l_B_160 kv_T_limitOf (c_T_limitOf (tBk_in h2)) rfl (xle rfl) rfl rfl (xle rfl) (xle rfl) ?_
      refine XR.xreturn d_B_told_87 rfl ?_
      exact hc _ (by simp [e])
    · refine XR.tableIn d_B_told_6 (off := 82) (tgt := 88) (by omega) (by omega) (by rw [e]; rfl) (by decide) ?_
      refine XR.aload_n d_B_told_88 rfl ?_
      refine XR.getref d_B_told_89 (xle rfl) rfl rfl uin_B (fk := 0) (xle rfl) f_B_10 rfl (xle rfl) ?_
      refine XR.iload_n d_B_told_92 rfl ?_
      refine XR.cV (as := [_]) d_B_told_93 l_B_151 kv_T_parentOf (c_T_parentOf (tBk_in h2)) rfl (xle rfl) rfl rfl (xle rfl) (xle rfl) ?_
      refine XR.xreturn d_B_told_96 rfl ?_
      exact hc _ (by simp [e])
    · refine XR.tableIn d_B_told_6 (off := 91) (tgt := 97) (by omega) (by omega) (by rw [e]; rfl) (by decide) ?_
      refine XR.aload_n d_B_told_97 rfl ?_
      refine XR.getref d_B_told_98 (xle rfl) rfl rfl uin_B (fk := 0) (xle rfl) f_B_10 rfl (xle rfl) ?_
      refine XR.iload_n d_B_told_101 rfl ?_
      refine XR.cV (as := [_]) d_B_told_102 l_B_46 kv_T_depthOf (c_T_depthOf hp (tBk_in h2)) rfl (xle rfl) rfl rfl (xle rfl) (xle rfl) ?_
      refine XR.xreturn d_B_told_105 rfl ?_
      exact hc _ (by simp [e])
    · refine XR.tableIn d_B_told_6 (off := 100) (tgt := 106) (by omega) (by omega) (by rw [e]; rfl) (by decide) ?_
      refine XR.aload_n d_B_told_106 rfl ?_
      refine XR.getref d_B_told_107 (xle rfl) rfl rfl uin_B (fk := 0) (xle rfl) f_B_10 rfl (xle rfl) ?_
      refine XR.iload_n d_B_told_110 rfl ?_
      refine XR.cV (as := [_]) d_B_told_111 l_B_163 kv_T_stateOf (c_T_stateOf (tBk_in h2)) rfl (xle rfl) rfl rfl (xle rfl) (xle rfl) ?_
      refine XR.xreturn d_B_told_114 rfl ?_
      exact hc _ (by simp [e])
    · refine XR.tableIn d_B_told_6 (off := 109) (tgt := 115) (by omega) (by omega) (by rw [e]; rfl) (by decide) ?_
      refine XR.aload_n d_B_told_115 rfl ?_
      refine XR.getref d_B_told_116 (xle rfl) rfl rfl uin_B (fk := 0) (xle rfl) f_B_10 rfl (xle rfl) ?_
      refine XR.iload_n d_B_told_119 rfl ?_
      refine XR.cV (as := [_]) d_B_told_120 l_B_166 kv_T_subtreeSize (c_T_subtreeSize hp) rfl (xle rfl) rfl rfl (xle rfl) (xle rfl) ?_
      refine XR.xreturn d_B_told_123 rfl ?_
      exact hc _ (by simp [e])
theorem c_B_count (hp : pOK σ) : XC E i_B_count 4 0 0 [.ref (xB E + 0), .int y] (xm σ) (xok (some (.int (cCount σ y))) (xm σ)) := by
  refine XC.ofF (by decide +kernel) cd_B_count rfl (xle rfl) ?_
  refine XR.iload_n d_B_count_0 rfl ?_
  skip
  by_cases ho : y.toInt < 0 ∨ 3 < y.toInt
  · refine XR.tableOut d_B_count_1 ho (tgt := 65) (by decide) ?_
    have e0 : ¬ y.toInt = 0 := by omega
    have e1 : ¬ y.toInt = 1 := by omega
    have e2 : ¬ y.toInt = 2 := by omega
    have e3 : ¬ y.toInt = 3 := by omega
    refine XR.iconst d_B_count_65 (v := -1) (by decide) ?_
    refine XR.xreturn d_B_count_66 rfl ?_
    exact ⟨by rw [cCount, if_neg e0, if_neg e1, if_neg e2, if_neg e3], rfl⟩
  · have h8 : y.toInt = 0 ∨ y.toInt = 1 ∨ y.toInt = 2 ∨ y.toInt = 3 := by omega
    rcases h8 with e | e | e | e
    · refine XR.tableIn d_B_count_1 (off := 31) (tgt := 32) (by omega) (by omega) (by rw [e]; rfl) (by decide) ?_
      refine XR.aload_n d_B_count_32 rfl ?_
      refine XR.getref d_B_count_33 (xle rfl) rfl rfl uin_B (fk := 1) (xle rfl) f_B_19 rfl (xle rfl) ?_
      refine XR.cV (as := []) d_B_count_36 l_B_181 kv_S_freePlaces (c_S_freePlaces) rfl (xle rfl) rfl rfl (xle rfl) (xle rfl) ?_
      refine XR.xreturn d_B_count_39 rfl ?_
      exact ⟨by rw [cCount, if_pos e], rfl⟩
    · refine XR.tableIn d_B_count_1 (off := 39) (tgt := 40) (by omega) (by omega) (by rw [e]; rfl) (by decide) ?_
      refine XR.aload_n d_B_count_40 rfl ?_
      refine XR.getref d_B_count_41 (xle rfl) rfl rfl uin_B (fk := 1) (xle rfl) f_B_19 rfl (xle rfl) ?_
      refine XR.cV (as := []) d_B_count_44 l_B_184 kv_S_retiredPlaces (c_S_retiredPlaces) rfl (xle rfl) rfl rfl (xle rfl) (xle rfl) ?_
      refine XR.xreturn d_B_count_47 rfl ?_
      exact ⟨by rw [cCount, if_neg (by omega), if_pos e], rfl⟩
    · refine XR.tableIn d_B_count_1 (off := 47) (tgt := 48) (by omega) (by omega) (by rw [e]; rfl) (by decide) ?_
      refine XR.aload_n d_B_count_48 rfl ?_
      refine XR.getref d_B_count_49 (xle rfl) rfl rfl uin_B (fk := 1) (xle rfl) f_B_19 rfl (xle rfl) ?_
      refine XR.cV (as := []) d_B_count_52 l_B_187 kv_S_pages (c_S_pages) rfl (xle rfl) rfl rfl (xle rfl) (xle rfl) ?_
      refine XR.xreturn d_B_count_55 rfl ?_
      exact ⟨by rw [cCount, if_neg (by omega), if_neg (by omega), if_pos e], rfl⟩
    · refine XR.tableIn d_B_count_1 (off := 55) (tgt := 56) (by omega) (by omega) (by rw [e]; rfl) (by decide) ?_
      refine XR.aload_n d_B_count_56 rfl ?_
      refine XR.getref d_B_count_57 (xle rfl) rfl rfl uin_B (fk := 0) (xle rfl) f_B_10 rfl (xle rfl) ?_
      refine XR.iconst d_B_count_60 (v := 0) (by decide) ?_
      refine XR.cV (as := [_]) d_B_count_61 l_B_166 kv_T_subtreeSize (c_T_subtreeSize hp) rfl (xle rfl) rfl rfl (xle rfl) (xle rfl) ?_
      refine XR.xreturn d_B_count_64 rfl ?_
      exact ⟨by rw [cCount, if_neg (by omega), if_neg (by omega), if_neg (by omega), if_pos e], rfl⟩
theorem c_B_astray {m : Nat} (hp : pOK σ) (ho : oOK σ m) : XC E i_B_astray 3 0 0 [.ref (xB E + 0)] (xm σ) (xok (some (.int (nI (cAstray σ m)))) (xm (cAstrayS σ m))) := by
  refine XC.ofF (by decide +kernel) cd_B_astray rfl (xle rfl) ?_
  have loop2 : ∀ (f i k : Nat), i + f = 192 → k = xcn (bSt1 σ) 40 + xcn (bSt2 (cAstrayS σ m)) i → XR E i_B_astray 3 0 0 (xok (some (.int (nI (cAstray σ m)))) (xm (cAstrayS σ m))) 58 [.ref (xB E + 0), .int (nI k), .int (nI i)] [] (xm (cAstrayS σ m)) := by
    intro f
    induction f with
    | zero =>
      intro i k hi hk
      have : i = 192 := by omega
      subst this; subst hk
      refine XR.iload_n d_B_astray_58 rfl ?_
      refine XR.sipush d_B_astray_59 (v := 192) (by decide) ?_
      refine XR.icmp_ge d_B_astray_62 (tgt := 93) (by decide) (fun _ => ?_) (fun h => absurd (by decide) h)
      refine XR.iload_n d_B_astray_93 rfl ?_
      refine XR.xreturn d_B_astray_94 rfl ?_
      exact ⟨rfl, rfl⟩
    | succ f ih =>
      intro i k hi hk
      have ei : xn (nI i) = i := nI_clamp (by omega)
      have hi1 : vp_in (nI i) 192 := vp_in_nI (by omega) (by decide)
      have q1 : bSt2 (cAstrayS σ m) i = true → k + 1 = xcn (bSt1 σ) 40 + xcn (bSt2 (cAstrayS σ m)) (i + 1) := fun h => by rw [xcn_t h, hk]; omega
      have q2 : bSt2 (cAstrayS σ m) i = false → k = xcn (bSt1 σ) 40 + xcn (bSt2 (cAstrayS σ m)) (i + 1) := fun h => by rw [xcn_f h, hk]
      refine XR.iload_n d_B_astray_58 rfl ?_
      refine XR.sipush d_B_astray_59 (v := 192) (by decide) ?_
      refine XR.icmp_ge d_B_astray_62 (tgt := 93) (by decide) (fun h => absurd h (nn_le (n := 192) (by omega) (by decide))) (fun _ => ?_)
      refine XR.aload_n d_B_astray_65 rfl ?_
      refine XR.getref d_B_astray_66 (xle rfl) rfl rfl uin_B (fk := 1) (xle rfl) f_B_19 rfl (xle rfl) ?_
      refine XR.iload_n d_B_astray_69 rfl ?_
      refine XR.cV (as := [_]) d_B_astray_70 l_B_199 kv_S_isListedWrongly (c_S_isListedWrongly hi1) rfl (xle rfl) rfl rfl (xle rfl) (xle rfl) ?_
      refine XR.if_ne d_B_astray_73 (tgt := 84) (by decide) (fun h73 => ?_) (fun h73 => ?_)
      · refine XR.iincN d_B_astray_84 rfl (xle rfl) rfl ?_
        refine XR.iincN d_B_astray_87 rfl (xle rfl) rfl ?_
        refine XR.goto d_B_astray_90 (tgt := 58) (by decide) ?_
        first | exact ih (i + 1) _ (by omega) (q1 (by clear ih q1 hk; simp_all [bSt2, bz_z])) | exact ih (i + 1) _ (by omega) (q2 (by clear ih q1 q2 hk; simp_all [bSt2, bz_z]))
      refine XR.aload_n d_B_astray_76 rfl ?_
      refine XR.iload_n d_B_astray_77 rfl ?_
      refine XR.cV (as := [_]) d_B_astray_78 l_B_202 kv_B_isWithoutBank (c_B_isWithoutBank hi1) rfl (xle rfl) rfl rfl (xle rfl) (xle rfl) ?_
      refine XR.if_eq d_B_astray_81 (tgt := 87) (by decide) (fun h81 => ?_) (fun h81 => ?_)
      · refine XR.iincN d_B_astray_87 rfl (xle rfl) rfl ?_
        refine XR.goto d_B_astray_90 (tgt := 58) (by decide) ?_
        first | exact ih (i + 1) _ (by omega) (q1 (by clear ih q1 hk; simp_all [bSt2, bz_z])) | exact ih (i + 1) _ (by omega) (q2 (by clear ih q1 q2 hk; simp_all [bSt2, bz_z]))
      refine XR.iincN d_B_astray_84 rfl (xle rfl) rfl ?_
      refine XR.iincN d_B_astray_87 rfl (xle rfl) rfl ?_
      refine XR.goto d_B_astray_90 (tgt := 58) (by decide) ?_
      first | exact ih (i + 1) _ (by omega) (q1 (by clear ih q1 hk; simp_all [bSt2, bz_z])) | exact ih (i + 1) _ (by omega) (q2 (by clear ih q1 q2 hk; simp_all [bSt2, bz_z]))
  have loop1 : ∀ (f i k : Nat), i + f = 40 → k = xcn (bSt1 σ) i → XR E i_B_astray 3 0 0 (xok (some (.int (nI (cAstray σ m)))) (xm (cAstrayS σ m))) 4 [.ref (xB E + 0), .int (nI k), .int (nI i)] [] (xm σ) := by
    intro f
    induction f with
    | zero =>
      intro i k hi hk
      have : i = 40 := by omega
      subst this; subst hk
      refine XR.iload_n d_B_astray_4 rfl ?_
      refine XR.bipush d_B_astray_5 (v := 40) (by decide) ?_
      refine XR.icmp_ge d_B_astray_7 (tgt := 49) (by decide) (fun _ => ?_) (fun h => absurd (by decide) h)
      refine XR.aload_n d_B_astray_49 rfl ?_
      refine XR.getref d_B_astray_50 (xle rfl) rfl rfl uin_B (fk := 1) (xle rfl) f_B_19 rfl (xle rfl) ?_
      refine XR.cV (as := []) d_B_astray_53 l_B_196 kv_S_countListings (c_S_countListings ho) rfl (xle rfl) rfl rfl (xle rfl) (xle rfl) ?_
      refine XR.iconst d_B_astray_56 (v := nI 0) (by decide) ?_
      refine XR.istore_n d_B_astray_57 (xle rfl) rfl ?_
      exact loop2 192 0 _ rfl rfl
    | succ f ih =>
      intro i k hi hk
      have hi1 : vp_in (nI i) 40 := vp_in_nI (by omega) (by decide)
      have q1 : bSt1 σ i = true → k + 1 = xcn (bSt1 σ) (i + 1) := fun h => by rw [xcn_t h, hk]
      have q2 : bSt1 σ i = false → k = xcn (bSt1 σ) (i + 1) := fun h => by rw [xcn_f h, hk]
      refine XR.iload_n d_B_astray_4 rfl ?_
      refine XR.bipush d_B_astray_5 (v := 40) (by decide) ?_
      refine XR.icmp_ge d_B_astray_7 (tgt := 49) (by decide) (fun h => absurd h (nn_le (n := 40) (by omega) (by decide))) (fun _ => ?_)
      refine XR.aload_n d_B_astray_10 rfl ?_
      refine XR.getref d_B_astray_11 (xle rfl) rfl rfl uin_B (fk := 0) (xle rfl) f_B_10 rfl (xle rfl) ?_
      refine XR.iload_n d_B_astray_14 rfl ?_
      refine XR.cV (as := [_]) d_B_astray_15 l_B_190 kv_T_isBank (c_T_isBank) rfl (xle rfl) rfl rfl (xle rfl) (xle rfl) ?_
      refine XR.if_eq d_B_astray_18 (tgt := 43) (by decide) (fun h18 => ?_) (fun h18 => ?_)
      · refine XR.iincN d_B_astray_43 rfl (xle rfl) rfl ?_
        refine XR.goto d_B_astray_46 (tgt := 4) (by decide) ?_
        first | exact ih (i + 1) _ (by omega) (q1 (by clear ih q1 hk loop2; simp_all [bSt1, bz_z])) | exact ih (i + 1) _ (by omega) (q2 (by clear ih q1 q2 hk loop2; simp_all [bSt1, bz_z]))
      refine XR.aload_n d_B_astray_21 rfl ?_
      refine XR.getref d_B_astray_22 (xle rfl) rfl rfl uin_B (fk := 0) (xle rfl) f_B_10 rfl (xle rfl) ?_
      refine XR.iload_n d_B_astray_25 rfl ?_
      refine XR.aload_n d_B_astray_26 rfl ?_
      refine XR.getref d_B_astray_27 (xle rfl) rfl rfl uin_B (fk := 1) (xle rfl) f_B_19 rfl (xle rfl) ?_
      refine XR.iload_n d_B_astray_30 rfl ?_
      refine XR.cV (as := [_]) d_B_astray_31 l_B_148 kv_S_ownedBy (c_S_ownedBy) rfl (xle rfl) rfl rfl (xle rfl) (xle rfl) ?_
      refine XR.cV (as := [_, _]) d_B_astray_34 l_B_193 kv_T_isStray (c_T_isStray hp hi1) rfl (xle rfl) rfl rfl (xle rfl) (xle rfl) ?_
      refine XR.if_eq d_B_astray_37 (tgt := 43) (by decide) (fun h37 => ?_) (fun h37 => ?_)
      · refine XR.iincN d_B_astray_43 rfl (xle rfl) rfl ?_
        refine XR.goto d_B_astray_46 (tgt := 4) (by decide) ?_
        first | exact ih (i + 1) _ (by omega) (q1 (by clear ih q1 hk loop2; simp_all [bSt1, bz_z])) | exact ih (i + 1) _ (by omega) (q2 (by clear ih q1 q2 hk loop2; simp_all [bSt1, bz_z]))
      refine XR.iincN d_B_astray_40 rfl (xle rfl) rfl ?_
      refine XR.iincN d_B_astray_43 rfl (xle rfl) rfl ?_
      refine XR.goto d_B_astray_46 (tgt := 4) (by decide) ?_
      first | exact ih (i + 1) _ (by omega) (q1 (by clear ih q1 hk loop2; simp_all [bSt1, bz_z])) | exact ih (i + 1) _ (by omega) (q2 (by clear ih q1 q2 hk loop2; simp_all [bSt1, bz_z]))
  refine XR.iconst d_B_astray_0 (v := nI 0) (by decide) ?_
  refine XR.istore_n d_B_astray_1 (xle rfl) rfl ?_
  refine XR.iconst d_B_astray_2 (v := nI 0) (by decide) ?_
  refine XR.istore_n d_B_astray_3 (xle rfl) rfl ?_
  exact loop1 40 0 0 rfl rfl
end XFace4
end
