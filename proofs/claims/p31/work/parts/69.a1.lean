/-! what is told of a row, as functions of its colours c, names m, number n: at, colour, close -/
theorem lastEq_eq {c d : Nat → Int32} {x : Int32} : ∀ k : Nat, (∀ j, j < k → c j = d j) → lastEq c x k = lastEq d x k
  | 0, _ => rfl
  | k + 1, h => by
    have ih := lastEq_eq (x := x) k (fun j hj => h j (by omega))
    show (if c k = x then (k : Int) else lastEq c x k) = (if d k = x then (k : Int) else lastEq d x k)
    rw [h k (by omega), ih]
def CL (c : Nat → Int32) (l : Int) : Nat → Int × Int
  | 0 => (-1, -1)
  | k + 1 => if l ≤ lastEq c (c (l.toNat + k)) (l.toNat + k) ∧ ((CL c l k).1 = -1 ∨ l + k - lastEq c (c (l.toNat + k)) (l.toNat + k) < (CL c l k).1) then (l + k - lastEq c (c (l.toNat + k)) (l.toNat + k), lastEq c (c (l.toNat + k)) (l.toNat + k)) else CL c l k
theorem CL_y {c : Nat → Int32} {l p a : Int} (h0 : 0 ≤ l ∧ l ≤ p) (ha : a = lastEq c (c p.toNat) p.toNat) (h : l ≤ a ∧ ((CL c l (p - l).toNat).1 = -1 ∨ p - a < (CL c l (p - l).toNat).1)) : CL c l (p + 1 - l).toNat = (p - a, a) := by
  obtain ⟨k, hk⟩ : ∃ k : Nat, k = (p - l).toNat := ⟨_, rfl⟩
  rw [← hk] at h
  rw [show (p + 1 - l).toNat = k + 1 by omega, CL, show l.toNat + k = p.toNat by omega, ← ha, show l + (k : Int) = p by omega, if_pos h]
theorem CL_n {c : Nat → Int32} {l p a : Int} (h0 : 0 ≤ l ∧ l ≤ p) (ha : a = lastEq c (c p.toNat) p.toNat) (h : ¬ (l ≤ a ∧ ((CL c l (p - l).toNat).1 = -1 ∨ p - a < (CL c l (p - l).toNat).1))) : CL c l (p + 1 - l).toNat = CL c l (p - l).toNat := by
  obtain ⟨k, hk⟩ : ∃ k : Nat, k = (p - l).toNat := ⟨_, rfl⟩
  rw [← hk] at h ⊢
  rw [show (p + 1 - l).toNat = k + 1 by omega, CL, show l.toNat + k = p.toNat by omega, ← ha, show l + (k : Int) = p by omega, if_neg h]
theorem CL_eq {c d : Nat → Int32} {l : Int} : ∀ k : Nat, (∀ j, j < l.toNat + k → c j = d j) → CL c l k = CL d l k
  | 0, _ => rfl
  | k + 1, h => by
    have ih := CL_eq (l := l) k (fun j hj => h j (by omega))
    rw [CL, CL, h (l.toNat + k) (by omega), ih, lastEq_eq (l.toNat + k) (fun j hj => h j (by omega))]
def CS (c : Nat → Int32) (n l r t : Int) : Int := if 0 ≤ l ∧ l ≤ r ∧ r < n then (if t = 0 then (CL c l (r + 1 - l).toNat).1 else if t = 1 then (CL c l (r + 1 - l).toNat).2 else -1) else -1
theorem CS_o {c : Nat → Int32} {n l r t : Int} (h : ¬ ((0 ≤ l ∧ l ≤ r ∧ r < n) ∧ 0 ≤ t ∧ t ≤ 1)) : CS c n l r t = -1 := by
  unfold CS
  by_cases h1 : 0 ≤ l ∧ l ≤ r ∧ r < n
  · rw [if_pos h1, if_neg (by omega), if_neg (by omega)]
  · rw [if_neg h1]
theorem CS_0 {c : Nat → Int32} {n l r t : Int} (h : 0 ≤ l ∧ l ≤ r ∧ r < n) (ht : t = 0) : CS c n l r t = (CL c l (r + 1 - l).toNat).1 := by unfold CS; rw [if_pos h, if_pos ht]
theorem CS_1 {c : Nat → Int32} {n l r t : Int} (h : 0 ≤ l ∧ l ≤ r ∧ r < n) (ht : t = 1) : CS c n l r t = (CL c l (r + 1 - l).toNat).2 := by unfold CS; rw [if_pos h, if_neg (by omega), if_pos ht]
theorem CS_eq {c d : Nat → Int32} {n l r t : Int} (hc : ∀ j : Nat, (j : Int) < n → c j = d j) : CS c n l r t = CS d n l r t := by
  unfold CS
  by_cases h1 : 0 ≤ l ∧ l ≤ r ∧ r < n
  · rw [if_pos h1, if_pos h1, CL_eq _ (fun j hj => hc j (by omega))]
  · rw [if_neg h1, if_neg h1]
