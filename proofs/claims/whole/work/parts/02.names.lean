/-! names of the classes, their fields, the methods; the words that all contracts stand on -/
def RS : String := "PageBanks$Store"
def TS : u_T := fun k => match k with
  | 0 => ("PageBanks$Store", "version", "[I", true)
  | 1 => ("PageBanks$Store", "owners", "[I", true)
  | 2 => ("PageBanks$Store", "run", "[I", true)
  | 3 => ("PageBanks$Store", "words", "[I", true)
  | 4 => ("PageBanks$Store", "order", "[I", true)
  | 5 => ("PageBanks$Store", "spare", "[I", true)
  | 6 => ("PageBanks$Store", "listed", "I", false)
  | _ => ("PageBanks$Store", "runs", "I", false)
def tyS : Nat → FieldType := fun k => match k with
  | 0 => .array .int
  | 1 => .array .int
  | 2 => .array .int
  | 3 => .array .int
  | 4 => .array .int
  | 5 => .array .int
  | 6 => .int
  | _ => .int
theorem nmS : ∀ a, a < 8 → ∀ b, b < 8 → a ≠ b → (TS a).2.1 ≠ (TS b).2.1 := by decide +kernel
theorem tyS_ok : ∀ k, k < 8 → parseFieldDescriptor (TS k).2.2.1 = some (tyS k) := by decide +kernel
def RT : String := "PageBanks$Tree"
def TT : u_T := fun k => match k with
  | 0 => ("PageBanks$Tree", "state", "[I", true)
  | 1 => ("PageBanks$Tree", "parent", "[I", true)
  | 2 => ("PageBanks$Tree", "limits", "[I", true)
  | 3 => ("PageBanks$Tree", "reserved", "[I", true)
  | _ => ("PageBanks$Tree", "use", "[I", true)
def tyT : Nat → FieldType := fun k => match k with
  | 0 => .array .int
  | 1 => .array .int
  | 2 => .array .int
  | 3 => .array .int
  | _ => .array .int
theorem nmT : ∀ a, a < 5 → ∀ b, b < 5 → a ≠ b → (TT a).2.1 ≠ (TT b).2.1 := by decide +kernel
theorem tyT_ok : ∀ k, k < 5 → parseFieldDescriptor (TT k).2.2.1 = some (tyT k) := by decide +kernel
def RB : String := "PageBanks"
def TB : u_T := fun k => match k with
  | 0 => ("PageBanks", "tree", "LPageBanks$Tree;", true)
  | 1 => ("PageBanks", "store", "LPageBanks$Store;", true)
  | _ => ("PageBanks", "lastRefuser", "I", false)
def tyB : Nat → FieldType := fun k => match k with
  | 0 => .object "PageBanks$Tree"
  | 1 => .object "PageBanks$Store"
  | _ => .int
theorem nmB : ∀ a, a < 3 → ∀ b, b < 3 → a ≠ b → (TB a).2.1 ≠ (TB b).2.1 := by decide +kernel
theorem tyB_ok : ∀ k, k < 3 → parseFieldDescriptor (TB k).2.2.1 = some (tyB k) := by decide +kernel
def RM : String := "PageBanksModel"
def TM : u_T := fun k => match k with
  | 0 => ("PageBanksModel", "code", "I", false)
  | 1 => ("PageBanksModel", "owners", "[I", true)
  | 2 => ("PageBanksModel", "versions", "[I", true)
  | 3 => ("PageBanksModel", "runs", "[I", true)
  | 4 => ("PageBanksModel", "stamps", "[I", true)
  | 5 => ("PageBanksModel", "words", "[I", true)
  | 6 => ("PageBanksModel", "runCount", "I", false)
  | 7 => ("PageBanksModel", "stampCount", "I", false)
  | 8 => ("PageBanksModel", "there", "[Z", true)
  | 9 => ("PageBanksModel", "parents", "[I", true)
  | 10 => ("PageBanksModel", "limits", "[I", true)
  | 11 => ("PageBanksModel", "states", "[I", true)
  | 12 => ("PageBanksModel", "reserves", "[I", true)
  | _ => ("PageBanksModel", "refusedBy", "I", false)
def tyM : Nat → FieldType := fun k => match k with
  | 0 => .int
  | 1 => .array .int
  | 2 => .array .int
  | 3 => .array .int
  | 4 => .array .int
  | 5 => .array .int
  | 6 => .int
  | 7 => .int
  | 8 => .array .boolean
  | 9 => .array .int
  | 10 => .array .int
  | 11 => .array .int
  | 12 => .array .int
  | _ => .int
theorem nmM : ∀ a, a < 14 → ∀ b, b < 14 → a ≠ b → (TM a).2.1 ≠ (TM b).2.1 := by decide +kernel
theorem tyM_ok : ∀ k, k < 14 → parseFieldDescriptor (TM k).2.2.1 = some (tyM k) := by decide +kernel
abbrev vwCl : List vw_C := [(RS, TS, 8), (RT, TT, 5), (RB, TB, 3), (RM, TM, 14)]
abbrev xkS : Nat := 0
abbrev xkT : Nat := 1
abbrev xkB : Nat := 2
abbrev xkM : Nat := 3
def xNeg : List Cond := [.not (.castable "java/lang/IndexOutOfBoundsException" "java/lang/IllegalArgumentException"), .not (.castable "java/lang/IndexOutOfBoundsException" "java/lang/IllegalStateException"), .not (.castable "java/lang/IndexOutOfBoundsException" "java/lang/UnsupportedOperationException"), .not (.castable "java/lang/IndexOutOfBoundsException" "java/util/NoSuchElementException"), .not (.castable "java/lang/IllegalArgumentException" "java/lang/IndexOutOfBoundsException"), .not (.castable "java/lang/IllegalArgumentException" "java/lang/IllegalStateException"), .not (.castable "java/lang/IllegalArgumentException" "java/lang/UnsupportedOperationException"), .not (.castable "java/lang/IllegalArgumentException" "java/util/NoSuchElementException"), .not (.castable "java/lang/IllegalStateException" "java/lang/IndexOutOfBoundsException"), .not (.castable "java/lang/IllegalStateException" "java/lang/IllegalArgumentException"), .not (.castable "java/lang/IllegalStateException" "java/lang/UnsupportedOperationException"), .not (.castable "java/lang/IllegalStateException" "java/util/NoSuchElementException"), .not (.castable "java/lang/UnsupportedOperationException" "java/lang/IndexOutOfBoundsException"), .not (.castable "java/lang/UnsupportedOperationException" "java/lang/IllegalArgumentException"), .not (.castable "java/lang/UnsupportedOperationException" "java/lang/IllegalStateException"), .not (.castable "java/lang/UnsupportedOperationException" "java/util/NoSuchElementException"), .not (.castable "java/util/NoSuchElementException" "java/lang/IndexOutOfBoundsException"), .not (.castable "java/util/NoSuchElementException" "java/lang/IllegalArgumentException"), .not (.castable "java/util/NoSuchElementException" "java/lang/IllegalStateException"), .not (.castable "java/util/NoSuchElementException" "java/lang/UnsupportedOperationException")]
def xgb (w : Cond) : Bool := (w.keepsFace && w.onTables) || (match w with | .not (.castable _ _) => true | .arrayClass _ => true | _ => false)
def xTs : List Cond := (lw_tbl ++ xNeg).filter xgb
def xTw : List Cond := [.isRef (.static "java/lang/Throwable" "UNASSIGNED_STACK" "[Ljava/lang/StackTraceElement;"), .isRef (.static "java/lang/Throwable" "SUPPRESSED_SENTINEL" "Ljava/util/List;"), .laysStatic "java/lang/Throwable" "UNASSIGNED_STACK" "[Ljava/lang/StackTraceElement;", .laysStatic "java/lang/Throwable" "SUPPRESSED_SENTINEL" "Ljava/util/List;"]
theorem xT {w : Cond} (i : Nat) (h : lw_tbl[i]? = some w) (hg : xgb w = true) : w ∈ xTs := List.mem_filter.mpr ⟨List.mem_append_left _ (List.mem_of_getElem? h), hg⟩
theorem xTn {w : Cond} (i : Nat) (h : xNeg[i]? = some w) (hg : xgb w = true) : w ∈ xTs := List.mem_filter.mpr ⟨List.mem_append_right _ (List.mem_of_getElem? h), hg⟩
