/-! rows of the reference whose cells have ranges by their places -/
theorem sb_in {j : Nat} {v : Int32} (h : (j = 1 → 0 ≤ v.toInt ∧ v.toInt ≤ 5) ∧ (j = 2 → 0 ≤ v.toInt ∧ v.toInt ≤ 8) ∧ (j = 3 → 0 ≤ v.toInt ∧ v.toInt ≤ 4) ∧ (10 ≤ j ∧ j < 18 → 0 ≤ v.toInt ∧ v.toInt ≤ 1) ∧ (18 ≤ j ∧ j < 58 → 0 ≤ v.toInt ∧ v.toInt ≤ 99) ∧ (j = 58 ∨ j = 67 ∨ j = 76 ∨ j = 85 → 0 ≤ v.toInt ∧ v.toInt ≤ 8) ∧ (109 ≤ j ∧ j < 125 → 0 ≤ v.toInt ∧ v.toInt ≤ 4) ∧ (125 ≤ j ∧ j < 170 → 0 ≤ v.toInt ∧ v.toInt ≤ 9) ∧ (170 ≤ j ∧ j < 200 ∧ j % 3 = 2 → 0 ≤ v.toInt ∧ v.toInt ≤ 60) ∧ (170 ≤ j ∧ j < 200 ∧ j % 3 = 0 → 0 ≤ v.toInt ∧ v.toInt ≤ 7) ∧ (j = 200 → 0 ≤ v.toInt ∧ v.toInt ≤ 10)) : (sb j).1 ≤ v.toInt ∧ v.toInt ≤ (sb j).2 := by
  have h1 := i_lo v
  have h2 := i_hi v
  unfold sb
  repeat' split
  all_goals (simp only; omega)
theorem sb_out {j : Nat} {v : Int32} (h1 : (sb j).1 ≤ v.toInt) (h2 : v.toInt ≤ (sb j).2) : (j = 1 → 0 ≤ v.toInt ∧ v.toInt ≤ 5) ∧ (j = 2 → 0 ≤ v.toInt ∧ v.toInt ≤ 8) ∧ (j = 3 → 0 ≤ v.toInt ∧ v.toInt ≤ 4) ∧ (10 ≤ j ∧ j < 18 → 0 ≤ v.toInt ∧ v.toInt ≤ 1) ∧ (18 ≤ j ∧ j < 58 → 0 ≤ v.toInt ∧ v.toInt ≤ 99) ∧ (j = 58 ∨ j = 67 ∨ j = 76 ∨ j = 85 → 0 ≤ v.toInt ∧ v.toInt ≤ 8) ∧ (109 ≤ j ∧ j < 125 → 0 ≤ v.toInt ∧ v.toInt ≤ 4) ∧ (125 ≤ j ∧ j < 170 → 0 ≤ v.toInt ∧ v.toInt ≤ 9) ∧ (170 ≤ j ∧ j < 200 ∧ j % 3 = 2 → 0 ≤ v.toInt ∧ v.toInt ≤ 60) ∧ (170 ≤ j ∧ j < 200 ∧ j % 3 = 0 → 0 ≤ v.toInt ∧ v.toInt ≤ 7) ∧ (j = 200 → 0 ≤ v.toInt ∧ v.toInt ≤ 10) := by
  unfold sb at h1 h2
  repeat' split at h1
  all_goals (simp only at h1 h2; first | omega | (simp_all <;> omega))
