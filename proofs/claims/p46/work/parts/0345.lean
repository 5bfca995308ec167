
def cn (c : Nat → Int32) (x : Int32) : Nat → Nat
  | 0 => 0
  | k + 1 => cn c x k + if c k = x then 1 else 0
theorem cn_le (c : Nat → Int32) (x : Int32) : ∀ n, cn c x n ≤ n
  | 0 => Nat.le_refl _
  | k + 1 => by
    have := cn_le c x k
    unfold cn
    split <;> omega
theorem cn_y {c : Nat → Int32} {x : Int32} {k : Nat} (h : c k = x) : cn c x (k + 1) = cn c x k + 1 := by rw [cn, if_pos h]
theorem cn_n {c : Nat → Int32} {x : Int32} {k : Nat} (h : ¬ c k = x) : cn c x (k + 1) = cn c x k := by rw [cn, if_neg h, Nat.add_zero]
def NTH (c : Nat → Int32) (n : Int) (x : Int32) (k r : Int) : Prop := (r = -1 ∧ ∀ i : Nat, (i : Int) < n → ¬ (c i = x ∧ (cn c x i : Int) = k)) ∨ (0 ≤ r ∧ r < n ∧ c r.toNat = x ∧ (cn c x r.toNat : Int) = k)
def FST (c : Nat → Int32) (n : Int) (x : Int32) (r : Int) : Prop := (r = -1 ∧ ∀ i : Nat, (i : Int) < n → ¬ c i = x) ∨ (0 ≤ r ∧ r < n ∧ c r.toNat = x ∧ ∀ i : Nat, (i : Int) < r → ¬ c i = x)
