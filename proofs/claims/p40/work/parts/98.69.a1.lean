/-! what is told of a row, as functions of its colours c, names m, number n: at, colour, close -/
theorem nextEq_eq {c d : Nat → Int32} {x : Int32} : ∀ n k : Nat, (∀ j, j < k + n → c j = d j) → nextEq c x k n = nextEq d x k n
  | 0, _, _ => rfl
  | n + 1, k, h => by
    have ih := nextEq_eq (x := x) n (k + 1) (fun j hj => h j (by omega))
    show (if c k = x then (k : Int) else nextEq c x (k + 1) n) = (if d k = x then (k : Int) else nextEq d x (k + 1) n)
    rw [h k (by omega), ih]
