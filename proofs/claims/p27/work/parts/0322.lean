
theorem md_char {A0 H : pm_H} {g : pm_G} {h : Nat} {q : Nat → Nat} {v : Nat → Int32} {f : Nat → Nat → Int32} (h0 : H h = some (pm_ob 11 (md_fs q v))) (h1 : ∀ i, i < 20 → H (q i) = some (pm_ia g (md_ln i) (f i))) (h2 : ∀ x, x ≠ h → (∀ i, i < 20 → x ≠ q i) → H x = A0 x) : H = md A0 g h q v f := by
  funext x
  unfold md
  by_cases hx : x = h
  · rw [if_pos hx, hx, h0]
  · rw [if_neg hx]
    cases hf : (List.range 20).find? (fun j => decide (x = q j)) with
    | none =>
      refine h2 x hx (fun i hi e => ?_)
      have := List.find?_eq_none.mp hf i (List.mem_range.mpr hi)
      simp [e] at this
    | some j =>
      have h3 : x = q j := by simpa using List.find?_some hf
      have h4 := List.mem_range.mp (List.mem_of_find?_eq_some hf)
      rw [h3]
      exact h1 j h4
def md_f0 (fw : Nat → Int32) : Nat → Nat → Int32 := fun i => if i = 2 then fw else fun _ => 0
theorem md_V0 : md_V (fun _ => 0) := by unfold md_V; decide
theorem md_F0 (fw : Nat → Int32) : md_F (md_f0 fw) := by
  intro i j
  by_cases h2 : i = 2
  · subst h2
    exact md_rng 2 _ (by decide)
  · have e : md_f0 fw i j = 0 := by unfold md_f0; rw [if_neg h2]
    rw [e]
    by_cases hi : i < 20
    · rcases (show i = 0 ∨ i = 1 ∨ i = 2 ∨ i = 3 ∨ i = 4 ∨ i = 5 ∨ i = 6 ∨ i = 7 ∨ i = 8 ∨ i = 9 ∨ i = 10 ∨ i = 11 ∨ i = 12 ∨ i = 13 ∨ i = 14 ∨ i = 15 ∨ i = 16 ∨ i = 17 ∨ i = 18 ∨ i = 19 by omega) with rfl | rfl | rfl | rfl | rfl | rfl | rfl | rfl | rfl | rfl | rfl | rfl | rfl | rfl | rfl | rfl | rfl | rfl | rfl | rfl <;> decide
    · have e1 : md_lo i = -2147483648 := by unfold md_lo; rw [List.getD_eq_getElem?_getD, List.getElem?_eq_none (by simpa using Nat.not_lt.mp hi)]; rfl
      have e2 : md_hi i = 2147483647 := by unfold md_hi; rw [List.getD_eq_getElem?_getD, List.getElem?_eq_none (by simpa using Nat.not_lt.mp hi)]; rfl
      rw [e1, e2]; decide
