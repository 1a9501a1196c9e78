theorem inX12_0 : ∀ w ∈ ((u_ws RX12 TX12 116).drop 0).take 12, w ∈ tables_1 := by decide +kernel
theorem okX12_0 : ∀ w ∈ ((u_ws RX12 TX12 116).drop 0).take 12, okW w = true := by decide +kernel
theorem inX12_1 : ∀ w ∈ ((u_ws RX12 TX12 116).drop 12).take 12, w ∈ tables_1 := by decide +kernel
theorem okX12_1 : ∀ w ∈ ((u_ws RX12 TX12 116).drop 12).take 12, okW w = true := by decide +kernel
theorem inX12_2 : ∀ w ∈ ((u_ws RX12 TX12 116).drop 24).take 12, w ∈ tables_1 := by decide +kernel
theorem okX12_2 : ∀ w ∈ ((u_ws RX12 TX12 116).drop 24).take 12, okW w = true := by decide +kernel
theorem inX12_3 : ∀ w ∈ ((u_ws RX12 TX12 116).drop 36).take 12, w ∈ tables_1 := by decide +kernel
theorem okX12_3 : ∀ w ∈ ((u_ws RX12 TX12 116).drop 36).take 12, okW w = true := by decide +kernel
theorem inX12_4 : ∀ w ∈ ((u_ws RX12 TX12 116).drop 48).take 12, w ∈ tables_1 := by decide +kernel
theorem okX12_4 : ∀ w ∈ ((u_ws RX12 TX12 116).drop 48).take 12, okW w = true := by decide +kernel
theorem inX12_5 : ∀ w ∈ ((u_ws RX12 TX12 116).drop 60).take 12, w ∈ tables_1 := by decide +kernel
theorem okX12_5 : ∀ w ∈ ((u_ws RX12 TX12 116).drop 60).take 12, okW w = true := by decide +kernel
theorem inX12_6 : ∀ w ∈ ((u_ws RX12 TX12 116).drop 72).take 12, w ∈ tables_1 := by decide +kernel
theorem okX12_6 : ∀ w ∈ ((u_ws RX12 TX12 116).drop 72).take 12, okW w = true := by decide +kernel
theorem inX12_7 : ∀ w ∈ ((u_ws RX12 TX12 116).drop 84).take 12, w ∈ tables_1 := by decide +kernel
theorem okX12_7 : ∀ w ∈ ((u_ws RX12 TX12 116).drop 84).take 12, okW w = true := by decide +kernel
theorem inX12_8 : ∀ w ∈ ((u_ws RX12 TX12 116).drop 96).take 12, w ∈ tables_1 := by decide +kernel
theorem okX12_8 : ∀ w ∈ ((u_ws RX12 TX12 116).drop 96).take 12, okW w = true := by decide +kernel
theorem inX12_9 : ∀ w ∈ ((u_ws RX12 TX12 116).drop 108).take 12, w ∈ tables_1 := by decide +kernel
theorem okX12_9 : ∀ w ∈ ((u_ws RX12 TX12 116).drop 108).take 12, okW w = true := by decide +kernel
theorem cutX12 {P : Cond → Prop} : ∀ (m k : Nat) (l : List Cond), l.length ≤ 12 * m → (∀ j, k ≤ j → j < k + m → ∀ w ∈ (l.drop (12 * (j - k))).take 12, P w) → ∀ w ∈ l, P w := by
  intro m
  induction m with
  | zero =>
    intro k l hl _ w hw
    have : l = [] := List.eq_nil_of_length_eq_zero (by omega)
    subst this
    cases hw
  | succ m ih =>
    intro k l hl h w hw
    rw [← List.take_append_drop 12 l] at hw
    rcases List.mem_append.mp hw with q | q
    · exact h k (Nat.le_refl _) (by omega) w (by rw [Nat.sub_self, Nat.mul_zero, List.drop_zero]; exact q)
    · refine ih (k + 1) (l.drop 12) (by rw [List.length_drop]; omega) (fun j h1 h2 w hw => h j (by omega) (by omega) w ?_) w q
      rw [List.drop_drop] at hw
      rw [show 12 * (j - k) = 12 + 12 * (j - (k + 1)) by omega]
      exact hw
theorem inX12 : ∀ w ∈ u_ws RX12 TX12 116, w ∈ tbl := by
  intro w hw
  have hl : (u_ws RX12 TX12 116).length ≤ 12 * 10 := by unfold u_ws; rw [List.length_map, List.length_range]; omega
  refine List.mem_filter.mpr ⟨List.mem_append_right _ (cutX12 (P := fun w => w ∈ tables_1) 10 0 _ hl (fun j _ hj => ?_) w hw), cutX12 (P := fun w => okW w = true) 10 0 _ hl (fun j _ hj => ?_) w hw⟩
  · rcases (show j = 0 ∨ j = 1 ∨ j = 2 ∨ j = 3 ∨ j = 4 ∨ j = 5 ∨ j = 6 ∨ j = 7 ∨ j = 8 ∨ j = 9 by omega) with q | q | q | q | q | q | q | q | q | q <;> subst q
    · exact inX12_0
    · exact inX12_1
    · exact inX12_2
    · exact inX12_3
    · exact inX12_4
    · exact inX12_5
    · exact inX12_6
    · exact inX12_7
    · exact inX12_8
    · exact inX12_9
  · rcases (show j = 0 ∨ j = 1 ∨ j = 2 ∨ j = 3 ∨ j = 4 ∨ j = 5 ∨ j = 6 ∨ j = 7 ∨ j = 8 ∨ j = 9 by omega) with q | q | q | q | q | q | q | q | q | q <;> subst q
    · exact okX12_0
    · exact okX12_1
    · exact okX12_2
    · exact okX12_3
    · exact okX12_4
    · exact okX12_5
    · exact okX12_6
    · exact okX12_7
    · exact okX12_8
    · exact okX12_9
