
theorem gw_char {A0 H : pm_H} {N : Nat} {q : Nat → Nat} {c : Nat → va_E} (h1 : ∀ i, i < N → H (q i) = some (c i)) (h2 : ∀ x, (∀ i, i < N → x ≠ q i) → H x = A0 x) : H = gw A0 N q c := by
  funext x
  unfold gw
  cases hx : (List.range N).find? (fun j => decide (x = q j)) with
  | none =>
    refine h2 x (fun i hi e => ?_)
    have := List.find?_eq_none.mp hx i (List.mem_range.mpr hi)
    simp [e] at this
  | some j =>
    have h3 : x = q j := by simpa using List.find?_some hx
    have h4 := List.mem_range.mp (List.mem_of_find?_eq_some hx)
    rw [h3]
    exact h1 j h4
