
theorem ctLt_le (c : Nat → Int32) (x : Int) (l : Nat) : ∀ n, ctLt c x l n ≤ n
  | 0 => Nat.le_refl _
  | k + 1 => by
    have := ctLt_le c x l k
    unfold ctLt
    split <;> omega
theorem ctLt_0 (c : Nat → Int32) (l : Nat) (h : ∀ j, 0 ≤ (c j).toInt) : ∀ n, ctLt c 0 l n = 0
  | 0 => rfl
  | k + 1 => by
    unfold ctLt
    rw [ctLt_0 c l h k, if_neg (by have := h (l + k); omega)]
theorem ctLt_d (c : Nat → Int32) (x : Int) (l k : Nat) : ∀ n, k ≤ n → ctLt c (x + 1) l k + ctLt c x l n ≤ ctLt c (x + 1) l n + ctLt c x l k
  | 0, h => by
    have : k = 0 := by omega
    subst this
    omega
  | n + 1, h => by
    by_cases e : k = n + 1
    · subst e; omega
    · have := ctLt_d c x l k n (by omega)
      have e1 : ctLt c (x + 1) l (n + 1) = ctLt c (x + 1) l n + if (c (l + n)).toInt < x + 1 then 1 else 0 := rfl
      have e2 : ctLt c x l (n + 1) = ctLt c x l n + if (c (l + n)).toInt < x then 1 else 0 := rfl
      rw [e1, e2]
      split <;> split <;> omega
theorem ctLt_y {c : Nat → Int32} {x : Int} {l k : Nat} (h : (c (l + k)).toInt = x) : ctLt c (x + 1) l (k + 1) + ctLt c x l k = ctLt c (x + 1) l k + ctLt c x l (k + 1) + 1 := by
  have h1 : ctLt c (x + 1) l (k + 1) = ctLt c (x + 1) l k + 1 := by rw [ctLt, if_pos (by omega)]
  have h2 : ctLt c x l (k + 1) = ctLt c x l k := by rw [ctLt, if_neg (by omega), Nat.add_zero]
  omega
theorem ctLt_n {c : Nat → Int32} {x : Int} {l k : Nat} (h : ¬ (c (l + k)).toInt = x) : ctLt c (x + 1) l (k + 1) + ctLt c x l k = ctLt c (x + 1) l k + ctLt c x l (k + 1) := by
  by_cases h3 : (c (l + k)).toInt < x
  · have h1 : ctLt c (x + 1) l (k + 1) = ctLt c (x + 1) l k + 1 := by rw [ctLt, if_pos (by omega)]
    have h2 : ctLt c x l (k + 1) = ctLt c x l k + 1 := by rw [ctLt, if_pos h3]
    omega
  · have h1 : ctLt c (x + 1) l (k + 1) = ctLt c (x + 1) l k := by rw [ctLt, if_neg (by omega), Nat.add_zero]
    have h2 : ctLt c x l (k + 1) = ctLt c x l k := by rw [ctLt, if_neg h3, Nat.add_zero]
    omega
def soN (c : Nat → Int32) (x : Int) (l k n : Nat) : Int := (ctLt c x l n : Int) + ctLt c (x + 1) l k - ctLt c x l k
theorem so_lt {c : Nat → Int32} {x : Int} {l k n : Nat} (hk : k < n) (h : (c (l + k)).toInt = x) : soN c x l k n < n ∧ soN c x l (k + 1) n = soN c x l k n + 1 := by
  have h1 := ctLt_y h
  have h2 := ctLt_d c x l (k + 1) n (by omega)
  have h3 := ctLt_le c (x + 1) l n
  unfold soN
  omega
theorem so_n {c : Nat → Int32} {x : Int} {l k n : Nat} (h : ¬ (c (l + k)).toInt = x) : soN c x l (k + 1) n = soN c x l k n := by
  have h1 := ctLt_n h
  unfold soN
  omega
theorem so_0 {c : Nat → Int32} {x : Int} {l n : Nat} : soN c x l 0 n = ctLt c x l n := by
  unfold soN
  simp [ctLt]
theorem so_e {c : Nat → Int32} {x : Int} {l n : Nat} : soN c x l n n = ctLt c (x + 1) l n := by
  unfold soN
  omega

