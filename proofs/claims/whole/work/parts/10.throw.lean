/-! the words of a throw -/
abbrev xnames : List String := ["java/lang/RuntimeException", "java/lang/Exception"]
theorem xnames_fit : ∀ n ∈ xnames, Bundle.fit n = true := by decide +kernel
theorem xthw {l : List Cond} (h : l.all (fun a => (decide (a ∈ lw_tbl) && xgb a) || decide (a ∈ xTw)) = true) : ∀ a ∈ l, a ∈ xTs ∨ a ∈ xTw := fun a ha => by
  have := List.all_eq_true.mp h a ha
  simp only [Bool.or_eq_true, Bool.and_eq_true, decide_eq_true_eq] at this
  rcases this with ⟨h1, h2⟩ | h1
  · exact Or.inl (List.mem_filter.mpr ⟨List.mem_append_left _ h1, h2⟩)
  · exact Or.inr h1
set_option maxRecDepth 100000 in
theorem ta_IndexOutOfBoundsException : ∀ a ∈ Bundle.ownAtoms0 "PageBanks" 230 "java/lang/IndexOutOfBoundsException" xnames, a ∈ xTs ∨ a ∈ xTw := xthw (by decide +kernel)
set_option maxRecDepth 100000 in
theorem ta_IllegalArgumentException : ∀ a ∈ Bundle.ownAtoms0 "PageBanks" 171 "java/lang/IllegalArgumentException" xnames, a ∈ xTs ∨ a ∈ xTw := xthw (by decide +kernel)
set_option maxRecDepth 100000 in
theorem ta_IllegalStateException : ∀ a ∈ Bundle.ownAtoms0 "PageBanks" 233 "java/lang/IllegalStateException" xnames, a ∈ xTs ∨ a ∈ xTw := xthw (by decide +kernel)
set_option maxRecDepth 100000 in
theorem ta_UnsupportedOperationException : ∀ a ∈ Bundle.ownAtoms0 "PageBanks" 221 "java/lang/UnsupportedOperationException" xnames, a ∈ xTs ∨ a ∈ xTw := xthw (by decide +kernel)
set_option maxRecDepth 100000 in
theorem ta_NoSuchElementException : ∀ a ∈ Bundle.ownAtoms0 "PageBanks" 227 "java/util/NoSuchElementException" xnames, a ∈ xTs ∨ a ∈ xTw := xthw (by decide +kernel)
theorem fit_IndexOutOfBoundsException : Bundle.fit "java/lang/IndexOutOfBoundsException" = true := by decide +kernel
theorem fit_IllegalArgumentException : Bundle.fit "java/lang/IllegalArgumentException" = true := by decide +kernel
theorem fit_IllegalStateException : Bundle.fit "java/lang/IllegalStateException" = true := by decide +kernel
theorem fit_UnsupportedOperationException : Bundle.fit "java/lang/UnsupportedOperationException" = true := by decide +kernel
theorem fit_NoSuchElementException : Bundle.fit "java/util/NoSuchElementException" = true := by decide +kernel
