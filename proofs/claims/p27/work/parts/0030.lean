
theorem pm_len {ins : Instr} {len n : Nat} (h : pm_isTab ins = true ∨ len = pm_ln ins) (h1 : pm_isTab ins = false) (h2 : pm_ln ins = n) : len = n := by
  rcases h with h | h
  · rw [h1] at h; cases h
  · exact h.trans h2
theorem pm_tlx {ins : Instr} {b : Bool} (h : pm_tm ins = true ∨ b = true) (h1 : pm_tm ins = false) : b = true := by
  rcases h with h | h
  · rw [h1] at h; cases h
  · exact h
theorem pm_lt0 (x : Int32) : x < 0 ↔ x.toInt < 0 := by rw [pm_lt, Int32.toInt_zero]
theorem pm_gt0 (x : Int32) : 0 < x ↔ 0 < x.toInt := by rw [pm_lt, Int32.toInt_zero]
theorem pm_le0 (x : Int32) : x ≤ 0 ↔ x.toInt ≤ 0 := by rw [pm_le, Int32.toInt_zero]
theorem pm_ge0 (x : Int32) : 0 ≤ x ↔ 0 ≤ x.toInt := by rw [pm_le, Int32.toInt_zero]
theorem pm_rme {rest : List Value} (h : pm_rm rest = true) : (rest.map fun v => v.category).sum ≤ 8 := Nat.le_of_ble_eq_true h
