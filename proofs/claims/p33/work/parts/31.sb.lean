/-! rows of the reference whose cells have ranges by their places -/
theorem sbT {j : Nat} (h1 : 10 ≤ j) (h2 : j < 18) : sb j = (0, 1) := by
  unfold sb; rw [if_neg (by omega), if_neg (by omega), if_neg (by omega), if_pos ⟨h1, h2⟩]
theorem sbH {j : Nat} (h1 : 18 ≤ j) (h2 : j < 58) : sb j = (0, 99) := by
  unfold sb; rw [if_neg (by omega), if_neg (by omega), if_neg (by omega), if_neg (by omega), if_pos ⟨h1, h2⟩]
theorem sbP {j : Nat} (h : j = 58 ∨ j = 67 ∨ j = 76 ∨ j = 85) : sb j = (0, 8) := by
  unfold sb; rw [if_neg (by omega), if_neg (by omega), if_neg (by omega), if_neg (by omega), if_neg (by omega), if_pos h]
theorem sbB {j : Nat} (h1 : 109 ≤ j) (h2 : j < 125) : sb j = (0, 4) := by
  unfold sb; rw [if_neg (by omega), if_neg (by omega), if_neg (by omega), if_neg (by omega), if_neg (by omega), if_neg (by omega), if_pos ⟨h1, h2⟩]
theorem sbK {j : Nat} (h1 : 125 ≤ j) (h2 : j < 170) : sb j = (0, 9) := by
  unfold sb; rw [if_neg (by omega), if_neg (by omega), if_neg (by omega), if_neg (by omega), if_neg (by omega), if_neg (by omega), if_neg (by omega), if_pos ⟨h1, h2⟩]
theorem sbN {j : Nat} (h1 : 170 ≤ j) (h2 : j < 200) : sb j = if j % 3 = 2 then (0, 60) else if j % 3 = 0 then (0, 7) else (-2147483648, 2147483647) := by
  unfold sb; rw [if_neg (by omega), if_neg (by omega), if_neg (by omega), if_neg (by omega), if_neg (by omega), if_neg (by omega), if_neg (by omega), if_neg (by omega), if_pos ⟨h1, h2⟩]
theorem sbN2 {j : Nat} (h1 : 170 ≤ j) (h2 : j < 200) (h3 : j % 3 = 2) : sb j = (0, 60) := by rw [sbN h1 h2, if_pos h3]
theorem sbN0 {j : Nat} (h1 : 170 ≤ j) (h2 : j < 200) (h3 : j % 3 = 0) : sb j = (0, 7) := by rw [sbN h1 h2, if_neg (by omega), if_pos h3]
theorem sbN1 {j : Nat} (h1 : 170 ≤ j) (h2 : j < 200) (h3 : j % 3 = 1) : sb j = (-2147483648, 2147483647) := by rw [sbN h1 h2, if_neg (by omega), if_neg (by omega)]
theorem sbF {j : Nat} (h : (58 ≤ j ∧ j < 109 ∧ j ≠ 58 ∧ j ≠ 67 ∧ j ≠ 76 ∧ j ≠ 85) ∨ (4 ≤ j ∧ j < 10) ∨ j = 0) : sb j = (-2147483648, 2147483647) := by
  unfold sb; rw [if_neg (by omega), if_neg (by omega), if_neg (by omega), if_neg (by omega), if_neg (by omega), if_neg (by omega), if_neg (by omega), if_neg (by omega), if_neg (by omega), if_neg (by omega)]
