/-! rows as they stood behind an edit: the reference's slots -/
def rC (f : Nat → Nat → Int32) (i : Int) : Nat → Int32 := fun j => f 12 (160 * (i % 40).toNat + j)
def rM (f : Nat → Nat → Int32) (i : Int) : Nat → Int32 := fun j => f 13 (160 * (i % 40).toNat + j)
def rN (f : Nat → Nat → Int32) (i : Int) : Int32 := f 14 (i % 40).toNat
def kno (e i : Int) : Prop := 0 ≤ i ∧ i ≤ e ∧ e - 40 < i
theorem cw_rr_f {K : Nat} (q : Nat → Nat) (j : Nat) : (cw_rr K q j = none ∧ K ≤ j) ∨ ∃ o, cw_rr K q j = some (q o) ∧ cw_ro K o ∧ o = 40 + 4 * j := by
  unfold cw_rr
  by_cases h : j < K
  · rw [if_pos h]; exact Or.inr ⟨40 + 4 * j, rfl, ⟨by omega, by omega, by omega⟩, rfl⟩
  · rw [if_neg h]; exact Or.inl ⟨rfl, by omega⟩

