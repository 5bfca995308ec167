
def cn (c : Nat → Int32) (x : Int32) : Nat → Nat
  | 0 => 0
  | k + 1 => cn c x k + if c k = x then 1 else 0
theorem cn_le (c : Nat → Int32) (x : Int32) : ∀ n, cn c x n ≤ n
  | 0 => Nat.le_refl _
  | k + 1 => by
    have := cn_le c x k
    unfold cn
    split <;> omega
theorem cn_y {c : Nat → Int32} {x : Int32} {k : Nat} (h : c k = x) : cn c x (k + 1) = cn c x k + 1 := by rw [cn, if_pos h]
theorem cn_n {c : Nat → Int32} {x : Int32} {k : Nat} (h : ¬ c k = x) : cn c x (k + 1) = cn c x k := by rw [cn, if_neg h, Nat.add_zero]
theorem cn_m (c : Nat → Int32) (x : Int32) (a : Nat) : ∀ b, a ≤ b → cn c x a ≤ cn c x b
  | 0, h => by rw [show a = 0 by omega]; exact Nat.le_refl _
  | b + 1, h => by
    by_cases e : a = b + 1
    · rw [e]; exact Nat.le_refl _
    · have := cn_m c x a b (by omega)
      have e1 : cn c x (b + 1) = cn c x b + if c b = x then 1 else 0 := rfl
      rw [e1]
      split <;> omega
theorem cn_eq {c d : Nat → Int32} {x : Int32} : ∀ n, (∀ j, j < n → c j = d j) → cn c x n = cn d x n
  | 0, _ => rfl
  | k + 1, h => by
    unfold cn
    rw [cn_eq k (fun j hj => h j (by omega)), h k (by omega)]
def NTH (c : Nat → Int32) (n : Int) (x : Int32) (k r : Int) : Prop := (r = -1 ∧ ∀ i : Nat, (i : Int) < n → ¬ (c i = x ∧ (cn c x i : Int) = k)) ∨ (0 ≤ r ∧ r < n ∧ c r.toNat = x ∧ (cn c x r.toNat : Int) = k)
theorem NTH_u {c d : Nat → Int32} {n k r s : Int} {x : Int32} (he : ∀ j : Nat, (j : Int) < n → c j = d j) (h1 : NTH c n x k r) (h2 : NTH d n x k s) : r = s := by
  have cc : ∀ j : Nat, (j : Int) < n → cn c x j = cn d x j := fun j hj => cn_eq j (fun i hi => he i (by omega))
  rcases h1 with ⟨a1, a2⟩ | ⟨a1, a2, a3, a4⟩ <;> rcases h2 with ⟨b1, b2⟩ | ⟨b1, b2, b3, b4⟩
  · omega
  · exact absurd ⟨by rw [he _ (by omega)]; exact b3, by rw [cc _ (by omega)]; exact b4⟩ (a2 s.toNat (by omega))
  · exact absurd ⟨by rw [← he _ (by omega)]; exact a3, by rw [← cc _ (by omega)]; exact a4⟩ (b2 r.toNat (by omega))
  · rw [← he _ (by omega)] at b3
    rw [← cc _ (by omega)] at b4
    by_cases h : r.toNat < s.toNat
    · have q1 := cn_y a3
      have q2 := cn_m c x (r.toNat + 1) s.toNat (by omega)
      omega
    · by_cases h' : s.toNat < r.toNat
      · have q1 := cn_y b3
        have q2 := cn_m c x (s.toNat + 1) r.toNat (by omega)
        omega
      · omega
def FST (c : Nat → Int32) (n : Int) (x : Int32) (r : Int) : Prop := (r = -1 ∧ ∀ i : Nat, (i : Int) < n → ¬ c i = x) ∨ (0 ≤ r ∧ r < n ∧ c r.toNat = x ∧ ∀ i : Nat, (i : Int) < r → ¬ c i = x)
