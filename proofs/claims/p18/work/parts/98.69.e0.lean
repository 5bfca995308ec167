/-! twos alike -/
def tri (n : Nat) : Nat := n * (n - 1) / 2
theorem tri_d : ∀ n, n < 161 → ((nI n * (nI n - 1)) / 2).toInt = (tri n : Int) ∧ tri n ≤ 12720 := by decide +kernel
theorem tri_s (n : Nat) : tri (n + 1) = tri n + n := by
  unfold tri
  cases n with
  | zero => rfl
  | succ n =>
    show (n + 1 + 1) * (n + 1) / 2 = (n + 1) * n / 2 + (n + 1)
    have e : (n + 1 + 1) * (n + 1) = (n + 1) * n + 2 * (n + 1) := by rw [← Nat.add_mul, Nat.mul_comm] ; congr 1 ; omega
    rw [e, Nat.add_mul_div_left _ _ (by omega)]
theorem nI_of {x : Int32} {n : Nat} (h : x.toInt = (n : Int)) (hn : n < 161) : x = nI n := by
  have e : ∀ k, k < 161 → (nI k).toInt = (k : Int) := by decide +kernel
  exact pm_eqI (by rw [h, e n hn])
def tw (N : Nat → Nat) : Nat → Nat
  | 0 => 0
  | k + 1 => tw N k + tri (N k)
theorem tw_le {N : Nat → Nat} (h : ∀ x, N x ≤ 160) : ∀ k, tw N k ≤ 12720 * k
  | 0 => Nat.le_refl _
  | k + 1 => by
    have ih := tw_le h k
    have h1 := (tri_d (N k) (by have := h k; omega)).2
    rw [tw]; omega
theorem tw_up (N : Nat → Nat) (c : Nat) : ∀ k, tw (upN N c) k = tw N k + (if c < k then N c else 0)
  | 0 => by rw [if_neg (by omega)]; rfl
  | k + 1 => by
    have ih := tw_up N c k
    rw [tw, tw, ih]
    by_cases e : k = c
    · subst e
      rw [upN_s, tri_s, if_neg (by omega), if_pos (by omega)]; omega
    · rw [upN_n e]
      by_cases e2 : c < k
      · rw [if_pos e2, if_pos (by omega)]; omega
      · rw [if_neg e2, if_neg (by omega)]
def al (c : Nat → Int32) (l : Nat) : Nat → Nat
  | 0 => 0
  | k + 1 => al c l k + nc c l k (c (l + k)).toInt.toNat
theorem al_tw {c : Nat → Int32} {l : Nat} (hc : ok24 c) : ∀ k, al c l k = tw (nc c l k) 24
  | 0 => by
    have e : ∀ k, tw (fun _ => 0) k = 0 := by
      intro k
      induction k with
      | zero => rfl
      | succ k ih => rw [tw, ih]; rfl
    exact (e 24).symm
  | k + 1 => by
    have h0 := hc (l + k)
    rw [al, nc, tw_up, if_pos (by omega), al_tw hc k]
theorem al_le (c : Nat → Int32) (l : Nat) : ∀ k, al c l k ≤ k * k
  | 0 => Nat.le_refl _
  | k + 1 => by
    have ih := al_le c l k
    have h1 := nc_le c l (c (l + k)).toInt.toNat k
    rw [al, Nat.add_mul, Nat.mul_add]; omega
theorem al_eq {c d : Nat → Int32} {l : Nat} : ∀ k, (∀ j, l ≤ j → j < l + k → c j = d j) → al c l k = al d l k
  | 0, _ => rfl
  | k + 1, h => by rw [al, al, al_eq k (fun j hi hj => h j hi (by omega)), nc_eq k (fun j hi hj => h j hi (by omega)), h (l + k) (by omega) (by omega)]
def ALK (c : Nat → Int32) (n l r : Int) : Int := if 0 ≤ l ∧ l ≤ r ∧ r < n then (al c l.toNat (r + 1 - l).toNat : Int) else -1
theorem ALK_y {c : Nat → Int32} {n l r : Int} (h : 0 ≤ l ∧ l ≤ r ∧ r < n) : ALK c n l r = (al c l.toNat (r + 1 - l).toNat : Int) := if_pos h
theorem ALK_n {c : Nat → Int32} {n l r : Int} (h : ¬ (0 ≤ l ∧ l ≤ r ∧ r < n)) : ALK c n l r = -1 := if_neg h
theorem ALK_eq {c d : Nat → Int32} {n l r : Int} (hc : ∀ j : Nat, (j : Int) < n → c j = d j) : ALK c n l r = ALK d n l r := by
  by_cases h : 0 ≤ l ∧ l ≤ r ∧ r < n
  · rw [ALK_y h, ALK_y h, al_eq _ (fun j hi hj => hc j (by omega))]
  · rw [ALK_n h, ALK_n h]
