/-! the constructors: the world is made -/
theorem xrr_0 (E : xE) : ∀ j g, j ≠ 1 → xen E (0 + 1) j g = xen E 0 j g := by
  intro j g hj
  match j, hj with
  | 0, hj => rfl
  | 1, hj => exact absurd rfl hj
  | 2, hj => rfl
  | 3, hj => rfl
  | 4, hj => rfl
  | 5, hj => rfl
  | 6, hj => rfl
  | 7, hj => rfl
  | 8, hj => rfl
  | 9, hj => rfl
  | 10, hj => rfl
  | 11, hj => rfl
  | 12, hj => rfl
  | 13, hj => rfl
  | 14, hj => rfl
  | 15, hj => rfl
  | 16, hj => rfl
  | 17, hj => rfl
  | 18, hj => rfl
  | 19, hj => rfl
  | 20, hj => rfl
  | 21, hj => rfl
  | 22, hj => rfl
  | 23, hj => rfl
  | 24, hj => rfl
  | n + 25, hj => rfl
theorem xrr_1 (E : xE) : ∀ j g, j ≠ 1 → xen E (1 + 1) j g = xen E 1 j g := by
  intro j g hj
  match j, hj with
  | 0, hj => rfl
  | 1, hj => exact absurd rfl hj
  | 2, hj => rfl
  | 3, hj => rfl
  | 4, hj => rfl
  | 5, hj => rfl
  | 6, hj => rfl
  | 7, hj => rfl
  | 8, hj => rfl
  | 9, hj => rfl
  | 10, hj => rfl
  | 11, hj => rfl
  | 12, hj => rfl
  | 13, hj => rfl
  | 14, hj => rfl
  | 15, hj => rfl
  | 16, hj => rfl
  | 17, hj => rfl
  | 18, hj => rfl
  | 19, hj => rfl
  | 20, hj => rfl
  | 21, hj => rfl
  | 22, hj => rfl
  | 23, hj => rfl
  | 24, hj => rfl
  | n + 25, hj => rfl
theorem xrr_2 (E : xE) : ∀ j g, j ≠ 1 → xen E (2 + 1) j g = xen E 2 j g := by
  intro j g hj
  match j, hj with
  | 0, hj => rfl
  | 1, hj => exact absurd rfl hj
  | 2, hj => rfl
  | 3, hj => rfl
  | 4, hj => rfl
  | 5, hj => rfl
  | 6, hj => rfl
  | 7, hj => rfl
  | 8, hj => rfl
  | 9, hj => rfl
  | 10, hj => rfl
  | 11, hj => rfl
  | 12, hj => rfl
  | 13, hj => rfl
  | 14, hj => rfl
  | 15, hj => rfl
  | 16, hj => rfl
  | 17, hj => rfl
  | 18, hj => rfl
  | 19, hj => rfl
  | 20, hj => rfl
  | 21, hj => rfl
  | 22, hj => rfl
  | 23, hj => rfl
  | 24, hj => rfl
  | n + 25, hj => rfl
theorem xrr_3 (E : xE) : ∀ j g, j ≠ 1 → xen E (3 + 1) j g = xen E 3 j g := by
  intro j g hj
  match j, hj with
  | 0, hj => rfl
  | 1, hj => exact absurd rfl hj
  | 2, hj => rfl
  | 3, hj => rfl
  | 4, hj => rfl
  | 5, hj => rfl
  | 6, hj => rfl
  | 7, hj => rfl
  | 8, hj => rfl
  | 9, hj => rfl
  | 10, hj => rfl
  | 11, hj => rfl
  | 12, hj => rfl
  | 13, hj => rfl
  | 14, hj => rfl
  | 15, hj => rfl
  | 16, hj => rfl
  | 17, hj => rfl
  | 18, hj => rfl
  | 19, hj => rfl
  | 20, hj => rfl
  | 21, hj => rfl
  | 22, hj => rfl
  | 23, hj => rfl
  | 24, hj => rfl
  | n + 25, hj => rfl
theorem xrr_4 (E : xE) : ∀ j g, j ≠ 1 → xen E (4 + 1) j g = xen E 4 j g := by
  intro j g hj
  match j, hj with
  | 0, hj => rfl
  | 1, hj => exact absurd rfl hj
  | 2, hj => rfl
  | 3, hj => rfl
  | 4, hj => rfl
  | 5, hj => rfl
  | 6, hj => rfl
  | 7, hj => rfl
  | 8, hj => rfl
  | 9, hj => rfl
  | 10, hj => rfl
  | 11, hj => rfl
  | 12, hj => rfl
  | 13, hj => rfl
  | 14, hj => rfl
  | 15, hj => rfl
  | 16, hj => rfl
  | 17, hj => rfl
  | 18, hj => rfl
  | 19, hj => rfl
  | 20, hj => rfl
  | 21, hj => rfl
  | 22, hj => rfl
  | 23, hj => rfl
  | 24, hj => rfl
  | n + 25, hj => rfl
theorem xrr_5 (E : xE) : ∀ j g, j ≠ 0 → xen E (5 + 1) j g = xen E 5 j g := by
  intro j g hj
  match j, hj with
  | 0, hj => exact absurd rfl hj
  | 1, hj => rfl
  | 2, hj => rfl
  | 3, hj => rfl
  | 4, hj => rfl
  | 5, hj => rfl
  | 6, hj => rfl
  | 7, hj => rfl
  | 8, hj => rfl
  | 9, hj => rfl
  | 10, hj => rfl
  | 11, hj => rfl
  | 12, hj => rfl
  | 13, hj => rfl
  | 14, hj => rfl
  | 15, hj => rfl
  | 16, hj => rfl
  | 17, hj => rfl
  | 18, hj => rfl
  | 19, hj => rfl
  | 20, hj => rfl
  | 21, hj => rfl
  | 22, hj => rfl
  | 23, hj => rfl
  | 24, hj => rfl
  | n + 25, hj => rfl
theorem xrr_6 (E : xE) : ∀ j g, j ≠ 7 → xen E (6 + 1) j g = xen E 6 j g := by
  intro j g hj
  match j, hj with
  | 0, hj => rfl
  | 1, hj => rfl
  | 2, hj => rfl
  | 3, hj => rfl
  | 4, hj => rfl
  | 5, hj => rfl
  | 6, hj => rfl
  | 7, hj => exact absurd rfl hj
  | 8, hj => rfl
  | 9, hj => rfl
  | 10, hj => rfl
  | 11, hj => rfl
  | 12, hj => rfl
  | 13, hj => rfl
  | 14, hj => rfl
  | 15, hj => rfl
  | 16, hj => rfl
  | 17, hj => rfl
  | 18, hj => rfl
  | 19, hj => rfl
  | 20, hj => rfl
  | 21, hj => rfl
  | 22, hj => rfl
  | 23, hj => rfl
  | 24, hj => rfl
  | n + 25, hj => rfl
theorem xrr_7 (E : xE) : ∀ j g, j ≠ 7 → xen E (7 + 1) j g = xen E 7 j g := by
  intro j g hj
  match j, hj with
  | 0, hj => rfl
  | 1, hj => rfl
  | 2, hj => rfl
  | 3, hj => rfl
  | 4, hj => rfl
  | 5, hj => rfl
  | 6, hj => rfl
  | 7, hj => exact absurd rfl hj
  | 8, hj => rfl
  | 9, hj => rfl
  | 10, hj => rfl
  | 11, hj => rfl
  | 12, hj => rfl
  | 13, hj => rfl
  | 14, hj => rfl
  | 15, hj => rfl
  | 16, hj => rfl
  | 17, hj => rfl
  | 18, hj => rfl
  | 19, hj => rfl
  | 20, hj => rfl
  | 21, hj => rfl
  | 22, hj => rfl
  | 23, hj => rfl
  | 24, hj => rfl
  | n + 25, hj => rfl
theorem xrr_8 (E : xE) : ∀ j g, j ≠ 7 → xen E (8 + 1) j g = xen E 8 j g := by
  intro j g hj
  match j, hj with
  | 0, hj => rfl
  | 1, hj => rfl
  | 2, hj => rfl
  | 3, hj => rfl
  | 4, hj => rfl
  | 5, hj => rfl
  | 6, hj => rfl
  | 7, hj => exact absurd rfl hj
  | 8, hj => rfl
  | 9, hj => rfl
  | 10, hj => rfl
  | 11, hj => rfl
  | 12, hj => rfl
  | 13, hj => rfl
  | 14, hj => rfl
  | 15, hj => rfl
  | 16, hj => rfl
  | 17, hj => rfl
  | 18, hj => rfl
  | 19, hj => rfl
  | 20, hj => rfl
  | 21, hj => rfl
  | 22, hj => rfl
  | 23, hj => rfl
  | 24, hj => rfl
  | n + 25, hj => rfl
theorem xrr_9 (E : xE) : ∀ j g, j ≠ 7 → xen E (9 + 1) j g = xen E 9 j g := by
  intro j g hj
  match j, hj with
  | 0, hj => rfl
  | 1, hj => rfl
  | 2, hj => rfl
  | 3, hj => rfl
  | 4, hj => rfl
  | 5, hj => rfl
  | 6, hj => rfl
  | 7, hj => exact absurd rfl hj
  | 8, hj => rfl
  | 9, hj => rfl
  | 10, hj => rfl
  | 11, hj => rfl
  | 12, hj => rfl
  | 13, hj => rfl
  | 14, hj => rfl
  | 15, hj => rfl
  | 16, hj => rfl
  | 17, hj => rfl
  | 18, hj => rfl
  | 19, hj => rfl
  | 20, hj => rfl
  | 21, hj => rfl
  | 22, hj => rfl
  | 23, hj => rfl
  | 24, hj => rfl
  | n + 25, hj => rfl
theorem xrr_10 (E : xE) : ∀ j g, j ≠ 7 → xen E (10 + 1) j g = xen E 10 j g := by
  intro j g hj
  match j, hj with
  | 0, hj => rfl
  | 1, hj => rfl
  | 2, hj => rfl
  | 3, hj => rfl
  | 4, hj => rfl
  | 5, hj => rfl
  | 6, hj => rfl
  | 7, hj => exact absurd rfl hj
  | 8, hj => rfl
  | 9, hj => rfl
  | 10, hj => rfl
  | 11, hj => rfl
  | 12, hj => rfl
  | 13, hj => rfl
  | 14, hj => rfl
  | 15, hj => rfl
  | 16, hj => rfl
  | 17, hj => rfl
  | 18, hj => rfl
  | 19, hj => rfl
  | 20, hj => rfl
  | 21, hj => rfl
  | 22, hj => rfl
  | 23, hj => rfl
  | 24, hj => rfl
  | n + 25, hj => rfl
theorem xrr_11 (E : xE) : ∀ j g, j ≠ 7 → xen E (11 + 1) j g = xen E 11 j g := by
  intro j g hj
  match j, hj with
  | 0, hj => rfl
  | 1, hj => rfl
  | 2, hj => rfl
  | 3, hj => rfl
  | 4, hj => rfl
  | 5, hj => rfl
  | 6, hj => rfl
  | 7, hj => exact absurd rfl hj
  | 8, hj => rfl
  | 9, hj => rfl
  | 10, hj => rfl
  | 11, hj => rfl
  | 12, hj => rfl
  | 13, hj => rfl
  | 14, hj => rfl
  | 15, hj => rfl
  | 16, hj => rfl
  | 17, hj => rfl
  | 18, hj => rfl
  | 19, hj => rfl
  | 20, hj => rfl
  | 21, hj => rfl
  | 22, hj => rfl
  | 23, hj => rfl
  | 24, hj => rfl
  | n + 25, hj => rfl
theorem xrr_12 (E : xE) : ∀ j g, j ≠ 0 → xen E (12 + 1) j g = xen E 12 j g := by
  intro j g hj
  match j, hj with
  | 0, hj => exact absurd rfl hj
  | 1, hj => rfl
  | 2, hj => rfl
  | 3, hj => rfl
  | 4, hj => rfl
  | 5, hj => rfl
  | 6, hj => rfl
  | 7, hj => rfl
  | 8, hj => rfl
  | 9, hj => rfl
  | 10, hj => rfl
  | 11, hj => rfl
  | 12, hj => rfl
  | 13, hj => rfl
  | 14, hj => rfl
  | 15, hj => rfl
  | 16, hj => rfl
  | 17, hj => rfl
  | 18, hj => rfl
  | 19, hj => rfl
  | 20, hj => rfl
  | 21, hj => rfl
  | 22, hj => rfl
  | 23, hj => rfl
  | 24, hj => rfl
  | n + 25, hj => rfl
theorem xrr_13 (E : xE) : ∀ j g, j ≠ 14 → xen E (13 + 1) j g = xen E 13 j g := by
  intro j g hj
  match j, hj with
  | 0, hj => rfl
  | 1, hj => rfl
  | 2, hj => rfl
  | 3, hj => rfl
  | 4, hj => rfl
  | 5, hj => rfl
  | 6, hj => rfl
  | 7, hj => rfl
  | 8, hj => rfl
  | 9, hj => rfl
  | 10, hj => rfl
  | 11, hj => rfl
  | 12, hj => rfl
  | 13, hj => rfl
  | 14, hj => exact absurd rfl hj
  | 15, hj => rfl
  | 16, hj => rfl
  | 17, hj => rfl
  | 18, hj => rfl
  | 19, hj => rfl
  | 20, hj => rfl
  | 21, hj => rfl
  | 22, hj => rfl
  | 23, hj => rfl
  | 24, hj => rfl
  | n + 25, hj => rfl
theorem xrr_14 (E : xE) : ∀ j g, j ≠ 14 → xen E (14 + 1) j g = xen E 14 j g := by
  intro j g hj
  match j, hj with
  | 0, hj => rfl
  | 1, hj => rfl
  | 2, hj => rfl
  | 3, hj => rfl
  | 4, hj => rfl
  | 5, hj => rfl
  | 6, hj => rfl
  | 7, hj => rfl
  | 8, hj => rfl
  | 9, hj => rfl
  | 10, hj => rfl
  | 11, hj => rfl
  | 12, hj => rfl
  | 13, hj => rfl
  | 14, hj => exact absurd rfl hj
  | 15, hj => rfl
  | 16, hj => rfl
  | 17, hj => rfl
  | 18, hj => rfl
  | 19, hj => rfl
  | 20, hj => rfl
  | 21, hj => rfl
  | 22, hj => rfl
  | 23, hj => rfl
  | 24, hj => rfl
  | n + 25, hj => rfl
theorem xrr_15 (E : xE) : ∀ j g, j ≠ 14 → xen E (15 + 1) j g = xen E 15 j g := by
  intro j g hj
  match j, hj with
  | 0, hj => rfl
  | 1, hj => rfl
  | 2, hj => rfl
  | 3, hj => rfl
  | 4, hj => rfl
  | 5, hj => rfl
  | 6, hj => rfl
  | 7, hj => rfl
  | 8, hj => rfl
  | 9, hj => rfl
  | 10, hj => rfl
  | 11, hj => rfl
  | 12, hj => rfl
  | 13, hj => rfl
  | 14, hj => exact absurd rfl hj
  | 15, hj => rfl
  | 16, hj => rfl
  | 17, hj => rfl
  | 18, hj => rfl
  | 19, hj => rfl
  | 20, hj => rfl
  | 21, hj => rfl
  | 22, hj => rfl
  | 23, hj => rfl
  | 24, hj => rfl
  | n + 25, hj => rfl
theorem xrr_16 (E : xE) : ∀ j g, j ≠ 14 → xen E (16 + 1) j g = xen E 16 j g := by
  intro j g hj
  match j, hj with
  | 0, hj => rfl
  | 1, hj => rfl
  | 2, hj => rfl
  | 3, hj => rfl
  | 4, hj => rfl
  | 5, hj => rfl
  | 6, hj => rfl
  | 7, hj => rfl
  | 8, hj => rfl
  | 9, hj => rfl
  | 10, hj => rfl
  | 11, hj => rfl
  | 12, hj => rfl
  | 13, hj => rfl
  | 14, hj => exact absurd rfl hj
  | 15, hj => rfl
  | 16, hj => rfl
  | 17, hj => rfl
  | 18, hj => rfl
  | 19, hj => rfl
  | 20, hj => rfl
  | 21, hj => rfl
  | 22, hj => rfl
  | 23, hj => rfl
  | 24, hj => rfl
  | n + 25, hj => rfl
theorem xrr_17 (E : xE) : ∀ j g, j ≠ 14 → xen E (17 + 1) j g = xen E 17 j g := by
  intro j g hj
  match j, hj with
  | 0, hj => rfl
  | 1, hj => rfl
  | 2, hj => rfl
  | 3, hj => rfl
  | 4, hj => rfl
  | 5, hj => rfl
  | 6, hj => rfl
  | 7, hj => rfl
  | 8, hj => rfl
  | 9, hj => rfl
  | 10, hj => rfl
  | 11, hj => rfl
  | 12, hj => rfl
  | 13, hj => rfl
  | 14, hj => exact absurd rfl hj
  | 15, hj => rfl
  | 16, hj => rfl
  | 17, hj => rfl
  | 18, hj => rfl
  | 19, hj => rfl
  | 20, hj => rfl
  | 21, hj => rfl
  | 22, hj => rfl
  | 23, hj => rfl
  | 24, hj => rfl
  | n + 25, hj => rfl
theorem xrr_18 (E : xE) : ∀ j g, j ≠ 14 → xen E (18 + 1) j g = xen E 18 j g := by
  intro j g hj
  match j, hj with
  | 0, hj => rfl
  | 1, hj => rfl
  | 2, hj => rfl
  | 3, hj => rfl
  | 4, hj => rfl
  | 5, hj => rfl
  | 6, hj => rfl
  | 7, hj => rfl
  | 8, hj => rfl
  | 9, hj => rfl
  | 10, hj => rfl
  | 11, hj => rfl
  | 12, hj => rfl
  | 13, hj => rfl
  | 14, hj => exact absurd rfl hj
  | 15, hj => rfl
  | 16, hj => rfl
  | 17, hj => rfl
  | 18, hj => rfl
  | 19, hj => rfl
  | 20, hj => rfl
  | 21, hj => rfl
  | 22, hj => rfl
  | 23, hj => rfl
  | 24, hj => rfl
  | n + 25, hj => rfl
theorem xrr_19 (E : xE) : ∀ j g, j ≠ 14 → xen E (19 + 1) j g = xen E 19 j g := by
  intro j g hj
  match j, hj with
  | 0, hj => rfl
  | 1, hj => rfl
  | 2, hj => rfl
  | 3, hj => rfl
  | 4, hj => rfl
  | 5, hj => rfl
  | 6, hj => rfl
  | 7, hj => rfl
  | 8, hj => rfl
  | 9, hj => rfl
  | 10, hj => rfl
  | 11, hj => rfl
  | 12, hj => rfl
  | 13, hj => rfl
  | 14, hj => exact absurd rfl hj
  | 15, hj => rfl
  | 16, hj => rfl
  | 17, hj => rfl
  | 18, hj => rfl
  | 19, hj => rfl
  | 20, hj => rfl
  | 21, hj => rfl
  | 22, hj => rfl
  | 23, hj => rfl
  | 24, hj => rfl
  | n + 25, hj => rfl
theorem xrr_20 (E : xE) : ∀ j g, j ≠ 14 → xen E (20 + 1) j g = xen E 20 j g := by
  intro j g hj
  match j, hj with
  | 0, hj => rfl
  | 1, hj => rfl
  | 2, hj => rfl
  | 3, hj => rfl
  | 4, hj => rfl
  | 5, hj => rfl
  | 6, hj => rfl
  | 7, hj => rfl
  | 8, hj => rfl
  | 9, hj => rfl
  | 10, hj => rfl
  | 11, hj => rfl
  | 12, hj => rfl
  | 13, hj => rfl
  | 14, hj => exact absurd rfl hj
  | 15, hj => rfl
  | 16, hj => rfl
  | 17, hj => rfl
  | 18, hj => rfl
  | 19, hj => rfl
  | 20, hj => rfl
  | 21, hj => rfl
  | 22, hj => rfl
  | 23, hj => rfl
  | 24, hj => rfl
  | n + 25, hj => rfl
theorem xrr_21 (E : xE) : ∀ j g, j ≠ 14 → xen E (21 + 1) j g = xen E 21 j g := by
  intro j g hj
  match j, hj with
  | 0, hj => rfl
  | 1, hj => rfl
  | 2, hj => rfl
  | 3, hj => rfl
  | 4, hj => rfl
  | 5, hj => rfl
  | 6, hj => rfl
  | 7, hj => rfl
  | 8, hj => rfl
  | 9, hj => rfl
  | 10, hj => rfl
  | 11, hj => rfl
  | 12, hj => rfl
  | 13, hj => rfl
  | 14, hj => exact absurd rfl hj
  | 15, hj => rfl
  | 16, hj => rfl
  | 17, hj => rfl
  | 18, hj => rfl
  | 19, hj => rfl
  | 20, hj => rfl
  | 21, hj => rfl
  | 22, hj => rfl
  | 23, hj => rfl
  | 24, hj => rfl
  | n + 25, hj => rfl
theorem xrr_22 (E : xE) : ∀ j g, j ≠ 14 → xen E (22 + 1) j g = xen E 22 j g := by
  intro j g hj
  match j, hj with
  | 0, hj => rfl
  | 1, hj => rfl
  | 2, hj => rfl
  | 3, hj => rfl
  | 4, hj => rfl
  | 5, hj => rfl
  | 6, hj => rfl
  | 7, hj => rfl
  | 8, hj => rfl
  | 9, hj => rfl
  | 10, hj => rfl
  | 11, hj => rfl
  | 12, hj => rfl
  | 13, hj => rfl
  | 14, hj => exact absurd rfl hj
  | 15, hj => rfl
  | 16, hj => rfl
  | 17, hj => rfl
  | 18, hj => rfl
  | 19, hj => rfl
  | 20, hj => rfl
  | 21, hj => rfl
  | 22, hj => rfl
  | 23, hj => rfl
  | 24, hj => rfl
  | n + 25, hj => rfl
theorem df_B (E : xE) : ∀ j, j < 3 → defaultValue (tyB j) = vp_V [xob E 0 5 1, xob E 0 12 7, .int 0] j := by
  intro j hj
  match j, hj with
  | 0, _ => rfl
  | 1, _ => rfl
  | 2, _ => rfl
  | m + 3, h => omega
theorem df_T (E : xE) : ∀ j, j < 5 → defaultValue (tyT j) = vp_V [xob E 0 0 2, xob E 0 1 3, xob E 0 2 4, xob E 0 3 5, xob E 0 4 6] j := by
  intro j hj
  match j, hj with
  | 0, _ => rfl
  | 1, _ => rfl
  | 2, _ => rfl
  | 3, _ => rfl
  | 4, _ => rfl
  | m + 5, h => omega
theorem df_S (E : xE) : ∀ j, j < 8 → defaultValue (tyS j) = vp_V [xob E 6 6 8, xob E 6 7 9, xob E 6 8 10, xob E 6 9 11, xob E 6 10 12, xob E 6 11 13, .int 0, .int 0] j := by
  intro j hj
  match j, hj with
  | 0, _ => rfl
  | 1, _ => rfl
  | 2, _ => rfl
  | 3, _ => rfl
  | 4, _ => rfl
  | 5, _ => rfl
  | 6, _ => rfl
  | 7, _ => rfl
  | m + 8, h => omega
theorem df_M (E : xE) : ∀ j, j < 14 → defaultValue (tyM j) = vp_V [.int 0, xob E 13 13 15, xob E 13 14 16, xob E 13 15 17, xob E 13 16 18, xob E 13 17 19, .int 0, .int 0, xob E 13 18 20, xob E 13 19 21, xob E 13 20 22, xob E 13 21 23, xob E 13 22 24, .int 0] j := by
  intro j hj
  match j, hj with
  | 0, _ => rfl
  | 1, _ => rfl
  | 2, _ => rfl
  | 3, _ => rfl
  | 4, _ => rfl
  | 5, _ => rfl
  | 6, _ => rfl
  | 7, _ => rfl
  | 8, _ => rfl
  | 9, _ => rfl
  | 10, _ => rfl
  | 11, _ => rfl
  | 12, _ => rfl
  | 13, _ => rfl
  | m + 14, h => omega
theorem XR.cI {E : xE} {mi mj : xMI} {d kc ks pc d' kc' ks' b index : Nat} {Post : xO → xWd → Prop} {L st st0 : List Value} {w w' : xWd} {v : Option Value} (hd : decode (xcc mi) pc = .ok (.invokespecial index, 3)) (hl : Cond.methodLink (xy mi).cls index (xy mj) ∈ xTs) (hk : xKI mj 0) (hM : XC E mj d' kc' ks' [.ref b] w (xok v w'))
    (hst0 : st0 = .ref b :: st) (hdd : d' + 1 ≤ d) (hst : (st.map fun v => v.category).sum + xnL mj ≤ 17) (hkc : kc' ≤ kc) (hks : ks' ≤ ks)
    (k : XR E mi d (kc - kc') (ks - ks') Post (pc + 3) L (v.toList ++ st) w') : XR E mi d kc ks Post pc L st0 w :=
  XR.callI (as := []) hd hk.2.2.2.2.2 hl hk.1 hk.2.1 hk.2.2.1 hk.2.2.2.1 hk.2.2.2.2.1 hst0 hM hdd hst hkc hks (fun u w1 h => by obtain ⟨h1, rfl⟩ := h; cases h1; exact k) (fun C w1 h => by obtain ⟨h1, -⟩ := h; cases h1)
def xz0 : xS := fun _ _ => 0
def xsT : xS := xu (xu (xu (xfl xz0 2 3 40) 2 0 0) 3 0 (-1)) 4 0 192
def xsS : xS := xfl xsT 9 (-1) 192
def xsB : xS := xu xsS 0 2 (-1)
def xsM1 : xS := xu xsB 14 13 (-1)
def xsM : xS := xu (xu (xu (xfl xsM1 15 (-1) 192) 20 0 1) 21 0 (-1)) 22 0 192
section XCtors
variable {E : xE}
theorem c_T_init : XC E i_T_init 2 5 200 [.ref (xB E + 1)] (2, 0, xz0) (xok none (7, 5, xsT)) := by
  refine XC.ofF (by decide +kernel) cd_T_init rfl (xle rfl) ?_
  refine XR.aload_n d_T_init_0 rfl ?_
  refine XR.objInit d_T_init_1 l_T_3 oi_inst oi_code (xle rfl) (xle rfl) ?_
  refine XR.aload_n d_T_init_4 rfl ?_
  refine XR.bipush d_T_init_5 (v := 40) (by decide) ?_
  refine XR.newaI (a := 40) d_T_init_7 rfl (xle rfl) ar_int (by decide) (by decide) (by decide) rfl ?_
  refine XR.putref d_T_init_9 (xle rfl) rfl rfl (xrr_0 E) rfl uin_T tyT_ok nmT (fk := 0) (xle rfl) f_T_9 rfl rfl rfl rfl rfl (xle rfl) ?_
  refine XR.aload_n d_T_init_12 rfl ?_
  refine XR.bipush d_T_init_13 (v := 40) (by decide) ?_
  refine XR.newaI (a := 40) d_T_init_15 rfl (xle rfl) ar_int (by decide) (by decide) (by decide) rfl ?_
  refine XR.putref d_T_init_17 (xle rfl) rfl rfl (xrr_1 E) rfl uin_T tyT_ok nmT (fk := 1) (xle rfl) f_T_15 rfl rfl rfl rfl rfl (xle rfl) ?_
  refine XR.aload_n d_T_init_20 rfl ?_
  refine XR.bipush d_T_init_21 (v := 40) (by decide) ?_
  refine XR.newaI (a := 40) d_T_init_23 rfl (xle rfl) ar_int (by decide) (by decide) (by decide) rfl ?_
  refine XR.putref d_T_init_25 (xle rfl) rfl rfl (xrr_2 E) rfl uin_T tyT_ok nmT (fk := 2) (xle rfl) f_T_18 rfl rfl rfl rfl rfl (xle rfl) ?_
  refine XR.aload_n d_T_init_28 rfl ?_
  refine XR.bipush d_T_init_29 (v := 40) (by decide) ?_
  refine XR.newaI (a := 40) d_T_init_31 rfl (xle rfl) ar_int (by decide) (by decide) (by decide) rfl ?_
  refine XR.putref d_T_init_33 (xle rfl) rfl rfl (xrr_3 E) rfl uin_T tyT_ok nmT (fk := 3) (xle rfl) f_T_21 rfl rfl rfl rfl rfl (xle rfl) ?_
  refine XR.aload_n d_T_init_36 rfl ?_
  refine XR.bipush d_T_init_37 (v := 40) (by decide) ?_
  refine XR.newaI (a := 40) d_T_init_39 rfl (xle rfl) ar_int (by decide) (by decide) (by decide) rfl ?_
  refine XR.putref d_T_init_41 (xle rfl) rfl rfl (xrr_4 E) rfl uin_T tyT_ok nmT (fk := 4) (xle rfl) f_T_24 rfl rfl rfl rfl rfl (xle rfl) ?_
  refine XR.aload_n d_T_init_44 rfl ?_
  refine XR.getref d_T_init_45 (xle rfl) rfl rfl uin_T (fk := 0) (xle rfl) f_T_9 rfl (xle rfl) ?_
  refine XR.iconst d_T_init_48 (v := 3) (by decide) ?_
  refine XR.cS (as := [_, _]) d_T_init_49 l_T_27 ks_A_fill (c_A_fill (xle rfl) (fun _ => rfl) (by decide)) rfl (xle rfl) (xle rfl) ?_
  refine XR.aload_n d_T_init_52 rfl ?_
  refine XR.getref d_T_init_53 (xle rfl) rfl rfl uin_T (fk := 0) (xle rfl) f_T_9 rfl (xle rfl) ?_
  refine XR.iconst d_T_init_56 (v := nI 0) (by decide) ?_
  refine XR.iconst d_T_init_57 (v := 0) (by decide) ?_
  refine XR.iastoreN d_T_init_58 (xle rfl) (fun _ => rfl) (by omega) (xle rfl) ?_
  refine XR.aload_n d_T_init_59 rfl ?_
  refine XR.getref d_T_init_60 (xle rfl) rfl rfl uin_T (fk := 1) (xle rfl) f_T_15 rfl (xle rfl) ?_
  refine XR.iconst d_T_init_63 (v := nI 0) (by decide) ?_
  refine XR.iconst d_T_init_64 (v := -1) (by decide) ?_
  refine XR.iastoreN d_T_init_65 (xle rfl) (fun _ => rfl) (by omega) (xle rfl) ?_
  refine XR.aload_n d_T_init_66 rfl ?_
  refine XR.getref d_T_init_67 (xle rfl) rfl rfl uin_T (fk := 2) (xle rfl) f_T_18 rfl (xle rfl) ?_
  refine XR.iconst d_T_init_70 (v := nI 0) (by decide) ?_
  refine XR.sipush d_T_init_71 (v := 192) (by decide) ?_
  refine XR.iastoreN d_T_init_74 (xle rfl) (fun _ => rfl) (by omega) (xle rfl) ?_
  refine XR.return_ d_T_init_75 rfl ?_
  exact ⟨rfl, rfl⟩
theorem c_S_init : XC E i_S_init 2 6 1728 [.ref (xB E + 7)] (8, 6, xsT) (xok none (14, 12, xsS)) := by
  refine XC.ofF (by decide +kernel) cd_S_init rfl (xle rfl) ?_
  refine XR.aload_n d_S_init_0 rfl ?_
  refine XR.objInit d_S_init_1 l_S_3 oi_inst oi_code (xle rfl) (xle rfl) ?_
  refine XR.aload_n d_S_init_4 rfl ?_
  refine XR.sipush d_S_init_5 (v := 192) (by decide) ?_
  refine XR.newaI (a := 192) d_S_init_8 rfl (xle rfl) ar_int (by decide) (by decide) (by decide) rfl ?_
  refine XR.putref d_S_init_10 (xle rfl) rfl rfl (xrr_6 E) rfl uin_S tyS_ok nmS (fk := 0) (xle rfl) f_S_9 rfl rfl rfl rfl rfl (xle rfl) ?_
  refine XR.aload_n d_S_init_13 rfl ?_
  refine XR.sipush d_S_init_14 (v := 192) (by decide) ?_
  refine XR.newaI (a := 192) d_S_init_17 rfl (xle rfl) ar_int (by decide) (by decide) (by decide) rfl ?_
  refine XR.putref d_S_init_19 (xle rfl) rfl rfl (xrr_7 E) rfl uin_S tyS_ok nmS (fk := 1) (xle rfl) f_S_15 rfl rfl rfl rfl rfl (xle rfl) ?_
  refine XR.aload_n d_S_init_22 rfl ?_
  refine XR.sipush d_S_init_23 (v := 192) (by decide) ?_
  refine XR.newaI (a := 192) d_S_init_26 rfl (xle rfl) ar_int (by decide) (by decide) (by decide) rfl ?_
  refine XR.putref d_S_init_28 (xle rfl) rfl rfl (xrr_8 E) rfl uin_S tyS_ok nmS (fk := 2) (xle rfl) f_S_18 rfl rfl rfl rfl rfl (xle rfl) ?_
  refine XR.aload_n d_S_init_31 rfl ?_
  refine XR.sipush d_S_init_32 (v := 768) (by decide) ?_
  refine XR.newaI (a := 768) d_S_init_35 rfl (xle rfl) ar_int (by decide) (by decide) (by decide) rfl ?_
  refine XR.putref d_S_init_37 (xle rfl) rfl rfl (xrr_9 E) rfl uin_S tyS_ok nmS (fk := 3) (xle rfl) f_S_21 rfl rfl rfl rfl rfl (xle rfl) ?_
  refine XR.aload_n d_S_init_40 rfl ?_
  refine XR.sipush d_S_init_41 (v := 192) (by decide) ?_
  refine XR.newaI (a := 192) d_S_init_44 rfl (xle rfl) ar_int (by decide) (by decide) (by decide) rfl ?_
  refine XR.putref d_S_init_46 (xle rfl) rfl rfl (xrr_10 E) rfl uin_S tyS_ok nmS (fk := 4) (xle rfl) f_S_24 rfl rfl rfl rfl rfl (xle rfl) ?_
  refine XR.aload_n d_S_init_49 rfl ?_
  refine XR.sipush d_S_init_50 (v := 192) (by decide) ?_
  refine XR.newaI (a := 192) d_S_init_53 rfl (xle rfl) ar_int (by decide) (by decide) (by decide) rfl ?_
  refine XR.putref d_S_init_55 (xle rfl) rfl rfl (xrr_11 E) rfl uin_S tyS_ok nmS (fk := 5) (xle rfl) f_S_27 rfl rfl rfl rfl rfl (xle rfl) ?_
  refine XR.aload_n d_S_init_58 rfl ?_
  refine XR.getref d_S_init_59 (xle rfl) rfl rfl uin_S (fk := 1) (xle rfl) f_S_15 rfl (xle rfl) ?_
  refine XR.iconst d_S_init_62 (v := -1) (by decide) ?_
  refine XR.cS (as := [_, _]) d_S_init_63 l_S_30 ks_A_fill (c_A_fill (xle rfl) (fun _ => rfl) (by decide)) rfl (xle rfl) (xle rfl) ?_
  refine XR.return_ d_S_init_66 rfl ?_
  exact ⟨rfl, rfl⟩
theorem c_B_init : XC E i_B_init 3 13 1941 [.ref (xB E + 0)] (1, 0, xz0) (xok none (14, 13, xsB)) := by
  refine XC.ofF (by decide +kernel) cd_B_init rfl (xle rfl) ?_
  refine XR.aload_n d_B_init_0 rfl ?_
  refine XR.objInit d_B_init_1 l_B_1 oi_inst oi_code (xle rfl) (xle rfl) ?_
  refine XR.aload_n d_B_init_4 rfl ?_
  refine XR.newc d_B_init_5 (xle rfl) c_B_7 in_PageBanks_Tree it_PageBanks_Tree rfl uin_T tyT_ok (df_T E) rfl ?_
  refine XR.dup d_B_init_8 rfl ?_
  refine XR.cI d_B_init_9 l_B_9 ki_T_init c_T_init rfl (xle rfl) (xle rfl) (xle rfl) (xle rfl) ?_
  refine XR.putref d_B_init_12 (xle rfl) rfl rfl (xrr_5 E) rfl uin_B tyB_ok nmB (fk := 0) (xle rfl) f_B_10 rfl rfl rfl rfl rfl (xle rfl) ?_
  refine XR.aload_n d_B_init_15 rfl ?_
  refine XR.newc d_B_init_16 (xle rfl) c_B_16 in_PageBanks_Store it_PageBanks_Store rfl uin_S tyS_ok (df_S E) rfl ?_
  refine XR.dup d_B_init_19 rfl ?_
  refine XR.cI d_B_init_20 l_B_18 ki_S_init c_S_init rfl (xle rfl) (xle rfl) (xle rfl) (xle rfl) ?_
  refine XR.putref d_B_init_23 (xle rfl) rfl rfl (xrr_12 E) rfl uin_B tyB_ok nmB (fk := 1) (xle rfl) f_B_19 rfl rfl rfl rfl rfl (xle rfl) ?_
  refine XR.aload_n d_B_init_26 rfl ?_
  refine XR.iconst d_B_init_27 (v := -1) (by decide) ?_
  refine XR.putfield d_B_init_28 (xle rfl) (fun _ => rfl) rfl uin_B tyB_ok nmB (fk := 2) (xle rfl) f_B_23 rfl rfl (fun _ => rfl) (fun _ => xle rfl) ?_
  refine XR.return_ d_B_init_31 rfl ?_
  exact ⟨rfl, rfl⟩
theorem c_M_init : XC E i_M_init 2 10 1736 [.ref (xB E + 14)] (15, 13, xsB) (xok none (25, 23, xsM)) := by
  refine XC.ofF (by decide +kernel) cd_M_init rfl (xle rfl) ?_
  have loop : ∀ (f i : Nat), i + f = 192 → XR E i_M_init 2 0 0 (xok none (25, 23, xsM)) 96 [.ref (xB E + 14), .int (nI i)] [] (25, 23, xfl xsM1 15 (-1) i) := by
    intro f
    induction f with
    | zero =>
      intro i hi
      have : i = 192 := by omega
      subst this
      refine XR.iload_n d_M_init_96 rfl ?_
      refine XR.sipush d_M_init_97 (v := 192) (by decide) ?_
      refine XR.icmp_ge d_M_init_100 (tgt := 116) (by decide) (fun _ => ?_) (fun h => absurd (by decide) h)
      refine XR.aload_n d_M_init_116 rfl ?_
      refine XR.getref d_M_init_117 (xle rfl) rfl rfl uin_M (fk := 8) (xle rfl) f_M_25 rfl (xle rfl) ?_
      refine XR.iconst d_M_init_120 (v := nI 0) (by decide) ?_
      refine XR.iconst d_M_init_121 (v := 1) (by decide) ?_
      refine XR.bastoreN d_M_init_122 (xle rfl) (fun _ => rfl) (by omega) (xle rfl) rfl ?_
      refine XR.aload_n d_M_init_123 rfl ?_
      refine XR.getref d_M_init_124 (xle rfl) rfl rfl uin_M (fk := 9) (xle rfl) f_M_29 rfl (xle rfl) ?_
      refine XR.iconst d_M_init_127 (v := nI 0) (by decide) ?_
      refine XR.iconst d_M_init_128 (v := -1) (by decide) ?_
      refine XR.iastoreN d_M_init_129 (xle rfl) (fun _ => rfl) (by omega) (xle rfl) ?_
      refine XR.aload_n d_M_init_130 rfl ?_
      refine XR.getref d_M_init_131 (xle rfl) rfl rfl uin_M (fk := 10) (xle rfl) f_M_32 rfl (xle rfl) ?_
      refine XR.iconst d_M_init_134 (v := nI 0) (by decide) ?_
      refine XR.sipush d_M_init_135 (v := 192) (by decide) ?_
      refine XR.iastoreN d_M_init_138 (xle rfl) (fun _ => rfl) (by omega) (xle rfl) ?_
      refine XR.return_ d_M_init_139 rfl ?_
      exact ⟨rfl, rfl⟩
    | succ f ih =>
      intro i hi
      refine XR.iload_n d_M_init_96 rfl ?_
      refine XR.sipush d_M_init_97 (v := 192) (by decide) ?_
      refine XR.icmp_ge d_M_init_100 (tgt := 116) (by decide) (fun h => absurd h (nn_le (n := 192) (by omega) (by decide))) (fun _ => ?_)
      refine XR.aload_n d_M_init_103 rfl ?_
      refine XR.getref d_M_init_104 (xle rfl) rfl rfl uin_M (fk := 1) (xle rfl) f_M_7 rfl (xle rfl) ?_
      refine XR.iload_n d_M_init_107 rfl ?_
      refine XR.iconst d_M_init_108 (v := -1) (by decide) ?_
      refine XR.iastoreN d_M_init_109 (xle rfl) (fun _ => rfl) (by omega) (xle rfl) ?_
      rw [xfl_s]
      refine XR.iincN d_M_init_110 rfl (xle rfl) rfl ?_
      refine XR.goto d_M_init_113 (tgt := 96) (by decide) ?_
      exact ih (i + 1) (by omega)
  have h0 := loop 192 0 rfl
  rw [xfl_0] at h0
  refine XR.aload_n d_M_init_0 rfl ?_
  refine XR.objInit d_M_init_1 l_M_1 oi_inst oi_code (xle rfl) (xle rfl) ?_
  refine XR.aload_n d_M_init_4 rfl ?_
  refine XR.sipush d_M_init_5 (v := 192) (by decide) ?_
  refine XR.newaI (a := 192) d_M_init_8 rfl (xle rfl) ar_int (by decide) (by decide) (by decide) rfl ?_
  refine XR.putref d_M_init_10 (xle rfl) rfl rfl (xrr_13 E) rfl uin_M tyM_ok nmM (fk := 1) (xle rfl) f_M_7 rfl rfl rfl rfl rfl (xle rfl) ?_
  refine XR.aload_n d_M_init_13 rfl ?_
  refine XR.sipush d_M_init_14 (v := 192) (by decide) ?_
  refine XR.newaI (a := 192) d_M_init_17 rfl (xle rfl) ar_int (by decide) (by decide) (by decide) rfl ?_
  refine XR.putref d_M_init_19 (xle rfl) rfl rfl (xrr_14 E) rfl uin_M tyM_ok nmM (fk := 2) (xle rfl) f_M_13 rfl rfl rfl rfl rfl (xle rfl) ?_
  refine XR.aload_n d_M_init_22 rfl ?_
  refine XR.sipush d_M_init_23 (v := 192) (by decide) ?_
  refine XR.newaI (a := 192) d_M_init_26 rfl (xle rfl) ar_int (by decide) (by decide) (by decide) rfl ?_
  refine XR.putref d_M_init_28 (xle rfl) rfl rfl (xrr_15 E) rfl uin_M tyM_ok nmM (fk := 3) (xle rfl) f_M_16 rfl rfl rfl rfl rfl (xle rfl) ?_
  refine XR.aload_n d_M_init_31 rfl ?_
  refine XR.sipush d_M_init_32 (v := 192) (by decide) ?_
  refine XR.newaI (a := 192) d_M_init_35 rfl (xle rfl) ar_int (by decide) (by decide) (by decide) rfl ?_
  refine XR.putref d_M_init_37 (xle rfl) rfl rfl (xrr_16 E) rfl uin_M tyM_ok nmM (fk := 4) (xle rfl) f_M_19 rfl rfl rfl rfl rfl (xle rfl) ?_
  refine XR.aload_n d_M_init_40 rfl ?_
  refine XR.sipush d_M_init_41 (v := 768) (by decide) ?_
  refine XR.newaI (a := 768) d_M_init_44 rfl (xle rfl) ar_int (by decide) (by decide) (by decide) rfl ?_
  refine XR.putref d_M_init_46 (xle rfl) rfl rfl (xrr_17 E) rfl uin_M tyM_ok nmM (fk := 5) (xle rfl) f_M_22 rfl rfl rfl rfl rfl (xle rfl) ?_
  refine XR.aload_n d_M_init_49 rfl ?_
  refine XR.bipush d_M_init_50 (v := 40) (by decide) ?_
  refine XR.newaZ (a := 40) d_M_init_52 rfl (xle rfl) ar_boolean (by decide) (by decide) (by decide) rfl ?_
  refine XR.putref d_M_init_54 (xle rfl) rfl rfl (xrr_18 E) rfl uin_M tyM_ok nmM (fk := 8) (xle rfl) f_M_25 rfl rfl rfl rfl rfl (xle rfl) ?_
  refine XR.aload_n d_M_init_57 rfl ?_
  refine XR.bipush d_M_init_58 (v := 40) (by decide) ?_
  refine XR.newaI (a := 40) d_M_init_60 rfl (xle rfl) ar_int (by decide) (by decide) (by decide) rfl ?_
  refine XR.putref d_M_init_62 (xle rfl) rfl rfl (xrr_19 E) rfl uin_M tyM_ok nmM (fk := 9) (xle rfl) f_M_29 rfl rfl rfl rfl rfl (xle rfl) ?_
  refine XR.aload_n d_M_init_65 rfl ?_
  refine XR.bipush d_M_init_66 (v := 40) (by decide) ?_
  refine XR.newaI (a := 40) d_M_init_68 rfl (xle rfl) ar_int (by decide) (by decide) (by decide) rfl ?_
  refine XR.putref d_M_init_70 (xle rfl) rfl rfl (xrr_20 E) rfl uin_M tyM_ok nmM (fk := 10) (xle rfl) f_M_32 rfl rfl rfl rfl rfl (xle rfl) ?_
  refine XR.aload_n d_M_init_73 rfl ?_
  refine XR.bipush d_M_init_74 (v := 40) (by decide) ?_
  refine XR.newaI (a := 40) d_M_init_76 rfl (xle rfl) ar_int (by decide) (by decide) (by decide) rfl ?_
  refine XR.putref d_M_init_78 (xle rfl) rfl rfl (xrr_21 E) rfl uin_M tyM_ok nmM (fk := 11) (xle rfl) f_M_35 rfl rfl rfl rfl rfl (xle rfl) ?_
  refine XR.aload_n d_M_init_81 rfl ?_
  refine XR.bipush d_M_init_82 (v := 40) (by decide) ?_
  refine XR.newaI (a := 40) d_M_init_84 rfl (xle rfl) ar_int (by decide) (by decide) (by decide) rfl ?_
  refine XR.putref d_M_init_86 (xle rfl) rfl rfl (xrr_22 E) rfl uin_M tyM_ok nmM (fk := 12) (xle rfl) f_M_38 rfl rfl rfl rfl rfl (xle rfl) ?_
  refine XR.aload_n d_M_init_89 rfl ?_
  refine XR.iconst d_M_init_90 (v := -1) (by decide) ?_
  refine XR.putfield d_M_init_91 (xle rfl) (fun _ => rfl) rfl uin_M tyM_ok nmM (fk := 13) (xle rfl) f_M_41 rfl rfl (fun _ => rfl) (fun _ => xle rfl) ?_
  refine XR.iconst d_M_init_94 (v := nI 0) (by decide) ?_
  refine XR.istore_n d_M_init_95 (xle rfl) rfl ?_
  exact h0
end XCtors
