/-- how many of the first n places hold x -/
def cn (c : Nat → Int32) (x : Int32) : Nat → Nat
  | 0 => 0
  | k + 1 => cn c x k + if c k = x then 1 else 0
theorem cn_le (c : Nat → Int32) (x : Int32) : ∀ n, cn c x n ≤ n
  | 0 => Nat.le_refl _
  | k + 1 => by
    have := cn_le c x k
    unfold cn
    split <;> omega
theorem cn_y {c : Nat → Int32} {x : Int32} {k : Nat} (h : c k = x) : cn c x (k + 1) = cn c x k + 1 := by rw [cn, if_pos h]
theorem cn_n {c : Nat → Int32} {x : Int32} {k : Nat} (h : ¬ c k = x) : cn c x (k + 1) = cn c x k := by rw [cn, if_neg h, Nat.add_zero]
def NTH (c : Nat → Int32) (n : Int) (x : Int32) (k r : Int) : Prop := (r = -1 ∧ ∀ i : Nat, (i : Int) < n → ¬ (c i = x ∧ (cn c x i : Int) = k)) ∨ (0 ≤ r ∧ r < n ∧ c r.toNat = x ∧ (cn c x r.toNat : Int) = k)
def FST (c : Nat → Int32) (n : Int) (x : Int32) (r : Int) : Prop := (r = -1 ∧ ∀ i : Nat, (i : Int) < n → ¬ c i = x) ∨ (0 ≤ r ∧ r < n ∧ c r.toNat = x ∧ ∀ i : Nat, (i : Int) < r → ¬ c i = x)
theorem FST_u {c d : Nat → Int32} {n r s : Int} {x : Int32} (he : ∀ j : Nat, (j : Int) < n → c j = d j) (h1 : FST c n x r) (h2 : FST d n x s) : r = s := by
  rcases h1 with ⟨a1, a2⟩ | ⟨a1, a2, a3, a4⟩ <;> rcases h2 with ⟨b1, b2⟩ | ⟨b1, b2, b3, b4⟩
  · omega
  · exact absurd (by rw [he _ (by omega)]; exact b3) (a2 s.toNat (by omega))
  · exact absurd (by rw [← he _ (by omega)]; exact a3) (b2 r.toNat (by omega))
  · by_cases h : r.toNat < s.toNat
    · exact absurd (by rw [← he _ (by omega)]; exact a3) (b4 r.toNat (by omega))
    · by_cases h' : s.toNat < r.toNat
      · exact absurd (by rw [he _ (by omega)]; exact b3) (a4 s.toNat (by omega))
      · omega
