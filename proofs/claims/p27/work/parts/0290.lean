section
variable {A0 : pm_H} {g : pm_G} {K nn dn : Nat} {q : Nat → Nat} {w : Nat → Int32} {e : Nat → Nat → Int32} {v : Nat → Int32} {f : Nat → Nat → Int32}
theorem cw_I2 (hI : cw_I K nn dn q w e) (hK : K < 41) {a b1 b2 b3 : Nat} (ha : ∀ i, i < 40 + 4 * K → a ≠ q i) (h1 : ∀ i, i < 40 + 4 * K → b1 ≠ q i) (h2 : ∀ i, i < 40 + 4 * K → b2 ≠ q i) (h3 : ∀ i, i < 40 + 4 * K → b3 ≠ q i) (hb : b1 ≠ b2 ∧ b1 ≠ b3 ∧ b2 ≠ b3 ∧ b1 ≠ a ∧ b2 ≠ a ∧ b3 ≠ a) : cw_I (K + 1) nn dn (cw_q2 K q a b1 b2 b3) (cw_w2 K w) (cw_e2 K e) := by
  obtain ⟨D, hW, hZ, hE⟩ := hI
  refine ⟨?_, ?_, ?_, ?_⟩
  · have key : ∀ i, i < 40 + 4 * (K + 1) → (i < 40 + 4 * K ∧ cw_q2 K q a b1 b2 b3 i = q i) ∨ (i = 40 + 4 * K ∧ cw_q2 K q a b1 b2 b3 i = a) ∨ (i = 40 + 4 * K + 1 ∧ cw_q2 K q a b1 b2 b3 i = b1) ∨ (i = 40 + 4 * K + 2 ∧ cw_q2 K q a b1 b2 b3 i = b2) ∨ (i = 40 + 4 * K + 3 ∧ cw_q2 K q a b1 b2 b3 i = b3) := by
      intro i hi
      by_cases h : i < 40 + 4 * K
      · exact Or.inl ⟨h, cw_q2_lt h⟩
      · rcases (show i = 40 + 4 * K ∨ i = 40 + 4 * K + 1 ∨ i = 40 + 4 * K + 2 ∨ i = 40 + 4 * K + 3 by omega) with rfl | rfl | rfl | rfl
        · exact Or.inr (Or.inl ⟨rfl, by simp [cw_q2]⟩)
        · exact Or.inr (Or.inr (Or.inl ⟨rfl, by simp [cw_q2]⟩))
        · exact Or.inr (Or.inr (Or.inr (Or.inl ⟨rfl, by simp [cw_q2]⟩)))
        · exact Or.inr (Or.inr (Or.inr (Or.inr ⟨rfl, by simp [cw_q2]⟩)))
    intro i j hi hj hij
    obtain ⟨b12, b13, b23, b1a, b2a, b3a⟩ := hb
    rcases key i hi with ⟨x, ex⟩ | ⟨x, ex⟩ | ⟨x, ex⟩ | ⟨x, ex⟩ | ⟨x, ex⟩ <;> rcases key j hj with ⟨y, ey⟩ | ⟨y, ey⟩ | ⟨y, ey⟩ | ⟨y, ey⟩ | ⟨y, ey⟩ <;> rw [ex, ey] at hij <;> first | exact D i j x y hij | (rw [x, y]; done) | exact absurd hij.symm (ha i x) | exact absurd hij.symm (h1 i x) | exact absurd hij.symm (h2 i x) | exact absurd hij.symm (h3 i x) | exact absurd hij (ha j y) | exact absurd hij (h1 j y) | exact absurd hij (h2 j y) | exact absurd hij (h3 j y) | exact absurd hij b12 | exact absurd hij b13 | exact absurd hij b23 | exact absurd hij b1a | exact absurd hij b2a | exact absurd hij b3a | exact absurd hij.symm b12 | exact absurd hij.symm b13 | exact absurd hij.symm b23 | exact absurd hij.symm b1a | exact absurd hij.symm b2a | exact absurd hij.symm b3a
  · have w0 : cw_w2 K w 0 = w 0 := cw_w2_lt (by omega)
    have w1 : cw_w2 K w 1 = w 1 := cw_w2_lt (by omega)
    have w3 : cw_w2 K w 3 = w 3 := cw_w2_lt (by omega)
    unfold cw_W at hW ⊢
    rw [w0, w1, w3]
    omega
  · intro o ho hm
    unfold cw_w2
    split
    · decide
    · exact hZ o ho hm
  · intro o ho hm j
    unfold cw_e2
    constructor
    · split
      · exact (by decide : 0 ≤ (0 : Int32).toInt ∧ (0 : Int32).toInt ≤ 23)
      · exact (hE o ho hm j).1
    · split
      · exact (by decide : -1 ≤ (0 : Int32).toInt ∧ (0 : Int32).toInt ≤ 159)
      · exact (hE o ho hm j).2
end
