/-! how many bonds an edit touches: told by the row before it (n, c, m) and the row behind it (c2, m2) -/
theorem nextEq_0 {m : Nat → Int32} {x : Int32} : ∀ (n k j : Nat), k ≤ j → j < k + n → m j = x → (∀ i, k ≤ i → i < j → ¬ m i = x) → nextEq m x k n = (j : Int)
  | 0, _, _, h1, h2, _, _ => by omega
  | n + 1, k, j, h1, h2, h3, h4 => by
    show (if m k = x then (k : Int) else nextEq m x (k + 1) n) = _
    by_cases e : j = k
    · subst e; rw [if_pos h3]
    · rw [if_neg (h4 k (Nat.le_refl _) (by omega))]
      exact nextEq_0 n (k + 1) j (by omega) (by omega) h3 (fun i hi hj => h4 i (by omega) hj)
theorem nextEq_m {m : Nat → Int32} {x : Int32} : ∀ (n k : Nat), (∀ i, k ≤ i → i < k + n → ¬ m i = x) → nextEq m x k n = -1
  | 0, _, _ => rfl
  | n + 1, k, h => by
    show (if m k = x then (k : Int) else nextEq m x (k + 1) n) = _
    rw [if_neg (h k (Nat.le_refl _) (by omega))]
    exact nextEq_m n (k + 1) (fun i hi hj => h i (by omega) (by omega))
