/-! what is told of a row, as functions of its colours c, names m, number n: at, colour, close -/
theorem lastEq_eq {c d : Nat → Int32} {x : Int32} : ∀ k : Nat, (∀ j, j < k → c j = d j) → lastEq c x k = lastEq d x k
  | 0, _ => rfl
  | k + 1, h => by
    have ih := lastEq_eq (x := x) k (fun j hj => h j (by omega))
    show (if c k = x then (k : Int) else lastEq c x k) = (if d k = x then (k : Int) else lastEq d x k)
    rw [h k (by omega), ih]
theorem nextEq_eq {c d : Nat → Int32} {x : Int32} : ∀ n k : Nat, (∀ j, j < k + n → c j = d j) → nextEq c x k n = nextEq d x k n
  | 0, _, _ => rfl
  | n + 1, k, h => by
    have ih := nextEq_eq (x := x) n (k + 1) (fun j hj => h j (by omega))
    show (if c k = x then (k : Int) else nextEq c x (k + 1) n) = (if d k = x then (k : Int) else nextEq d x (k + 1) n)
    rw [h k (by omega), ih]
def wd (c : Nat → Int32) (x : Int32) : Nat → Int
  | 0 => -1
  | k + 1 => if c k = x ∧ 0 ≤ lastEq c x k ∧ wd c x k < k - lastEq c x k - 1 then k - lastEq c x k - 1 else wd c x k
theorem wd_n {c : Nat → Int32} {x : Int32} {k : Nat} (h : ¬ c k = x) : wd c x (k + 1) = wd c x k := by rw [wd, if_neg (fun h9 => h h9.1)]
theorem wd_s {c : Nat → Int32} {x : Int32} {k : Nat} {y : Int} (h : c k = x) (hy : y = lastEq c (c k) k) : wd c x (k + 1) = if 0 ≤ y ∧ wd c x k < k - y - 1 then k - y - 1 else wd c x k := by
  rw [h] at hy; subst hy
  rw [wd]
  by_cases h1 : 0 ≤ lastEq c x k ∧ wd c x k < k - lastEq c x k - 1
  · rw [if_pos h1, if_pos ⟨h, h1⟩]
  · rw [if_neg h1, if_neg (fun h9 => h1 h9.2)]
theorem wd_eq {c d : Nat → Int32} {x : Int32} : ∀ k : Nat, (∀ j, j < k → c j = d j) → wd c x k = wd d x k
  | 0, _ => rfl
  | k + 1, h => by
    have ih := wd_eq (x := x) k (fun j hj => h j (by omega))
    rw [wd, wd, h k (by omega), ih, lastEq_eq k (fun j hj => h j (by omega))]
theorem wd_ge (c : Nat → Int32) (x : Int32) : ∀ k : Nat, -1 ≤ wd c x k ∧ wd c x k ≤ k
  | 0 => ⟨Int.le_refl _, by show (-1 : Int) ≤ _; omega⟩
  | k + 1 => by
    have ih := wd_ge c x k
    have h1 := lastEq_lt c x k
    rw [wd]
    split <;> omega
theorem NTH_0 {c : Nat → Int32} {x : Int32} {n r : Int} (hn : 0 ≤ n) (h : NTH c n x 0 r) : r = nextEq c x 0 n.toNat := by
  have key : ∀ (m k : Nat), (k : Int) + m = n → cn c x k = 0 → r = nextEq c x k m := by
    intro m
    induction m with
    | zero =>
      intro k hk h0
      rcases h with ⟨h1, _⟩ | ⟨h1, h2, h3, h4⟩
      · exact h1
      · have h5 : cn c x (r.toNat + 1) = 1 := by rw [cn_y h3]; omega
        have h6 := cn_m c x (r.toNat + 1) k (by omega)
        omega
    | succ m ih =>
      intro k hk h0
      show r = (if c k = x then (k : Int) else nextEq c x (k + 1) m)
      by_cases hx : c k = x
      · rw [if_pos hx]
        rcases h with ⟨_, h2⟩ | ⟨h1, h2, h3, h4⟩
        · exact absurd ⟨hx, by omega⟩ (h2 k (by omega))
        · by_cases h7 : r.toNat < k
          · have h5 : cn c x (r.toNat + 1) = 1 := by rw [cn_y h3]; omega
            have h6 := cn_m c x (r.toNat + 1) k (by omega)
            omega
          · by_cases h8 : k < r.toNat
            · have h5 : cn c x (k + 1) = 1 := by rw [cn_y hx]; omega
              have h6 := cn_m c x (k + 1) r.toNat (by omega)
              omega
            · omega
      · rw [if_neg hx]
        exact ih (k + 1) (by omega) (by rw [cn_n hx]; exact h0)
  exact key n.toNat 0 (by omega) rfl
theorem NTH_l (c : Nat → Int32) (x : Int32) : ∀ n : Nat, NTH c n x ((cn c x n : Int) - 1) (lastEq c x n)
  | 0 => Or.inl ⟨rfl, fun i hi => by omega⟩
  | n + 1 => by
    have ih := NTH_l c x n
    have hl := lastEq_lt c x n
    by_cases h : c n = x
    · rw [cn_y h, lastEq_y h]
      exact Or.inr ⟨by omega, by omega, by rw [show ((n : Int)).toNat = n by omega]; exact h, by rw [show ((n : Int)).toNat = n by omega]; omega⟩
    · rw [cn_n h, lastEq_n h]
      rcases ih with ⟨h1, h2⟩ | ⟨h1, h2, h3, h4⟩
      · refine Or.inl ⟨h1, fun i hi => ?_⟩
        by_cases e : i = n
        · subst e; exact fun h9 => h h9.1
        · exact h2 i (by omega)
      · exact Or.inr ⟨h1, by omega, h3, h4⟩
theorem NTH_last {c : Nat → Int32} {x : Int32} {n k r : Int} (hn : 0 ≤ n) (hk : k = (cn c x n.toNat : Int) - 1) (h : NTH c n x k r) : r = lastEq c x n.toNat := by
  subst hk
  exact NTH_u (fun _ _ => rfl) h (by have := NTH_l c x n.toNat; rwa [show ((n.toNat : Nat) : Int) = n by omega] at this)
def ct (c : Nat → Int32) (x : Int32) (l : Nat) : Nat → Nat
  | 0 => 0
  | k + 1 => ct c x l k + if c (l + k) = x then 1 else 0
theorem ct_y {c : Nat → Int32} {x : Int32} {l k : Nat} (h : c (l + k) = x) : ct c x l (k + 1) = ct c x l k + 1 := by rw [ct, if_pos h]
theorem ct_n {c : Nat → Int32} {x : Int32} {l k : Nat} (h : ¬ c (l + k) = x) : ct c x l (k + 1) = ct c x l k := by rw [ct, if_neg h, Nat.add_zero]
theorem ct_le (c : Nat → Int32) (x : Int32) (l : Nat) : ∀ k, ct c x l k ≤ k
  | 0 => Nat.le_refl _
  | k + 1 => by
    have ih := ct_le c x l k
    rw [ct]
    split <;> omega
theorem ct_0 (c : Nat → Int32) (x : Int32) : ∀ k, ct c x 0 k = cn c x k
  | 0 => rfl
  | k + 1 => by
    have ih := ct_0 c x k
    by_cases h : c k = x
    · rw [ct_y (by rw [Nat.zero_add]; exact h), cn_y h, ih]
    · rw [ct_n (by rw [Nat.zero_add]; exact h), cn_n h, ih]
def CO (c W : Nat → Int32) (n : Int) (x : Int32) (t : Int) : Int := if 0 ≤ x.toInt ∧ x.toInt < 24 then (if t = 0 then (cn c x n.toNat : Int) else if t = 1 then (W x.toInt.toNat).toInt else if t = 2 then nextEq c x 0 n.toNat else if t = 3 then lastEq c x n.toNat else if t = 4 then wd c x n.toNat else -1) else -1
theorem CO_o {c W : Nat → Int32} {n t : Int} {x : Int32} (h : ¬ (0 ≤ x.toInt ∧ x.toInt < 24)) : CO c W n x t = -1 := if_neg h
theorem CO_0 {c W : Nat → Int32} {n t : Int} {x : Int32} (h : 0 ≤ x.toInt ∧ x.toInt < 24) (ht : t = 0) : CO c W n x t = (cn c x n.toNat : Int) := by unfold CO; rw [if_pos h, if_pos ht]
theorem CO_1 {c W : Nat → Int32} {n t : Int} {x : Int32} (h : 0 ≤ x.toInt ∧ x.toInt < 24) (ht : t = 1) : CO c W n x t = (W x.toInt.toNat).toInt := by unfold CO; rw [if_pos h, if_neg (by omega), if_pos ht]
theorem CO_2 {c W : Nat → Int32} {n t : Int} {x : Int32} (h : 0 ≤ x.toInt ∧ x.toInt < 24) (ht : t = 2) : CO c W n x t = nextEq c x 0 n.toNat := by unfold CO; rw [if_pos h, if_neg (by omega), if_neg (by omega), if_pos ht]
theorem CO_3 {c W : Nat → Int32} {n t : Int} {x : Int32} (h : 0 ≤ x.toInt ∧ x.toInt < 24) (ht : t = 3) : CO c W n x t = lastEq c x n.toNat := by unfold CO; rw [if_pos h, if_neg (by omega), if_neg (by omega), if_neg (by omega), if_pos ht]
theorem CO_4 {c W : Nat → Int32} {n t : Int} {x : Int32} (h : 0 ≤ x.toInt ∧ x.toInt < 24) (ht : t = 4) : CO c W n x t = wd c x n.toNat := by unfold CO; rw [if_pos h, if_neg (by omega), if_neg (by omega), if_neg (by omega), if_neg (by omega), if_pos ht]
theorem CO_d {c W : Nat → Int32} {n t : Int} {x : Int32} (h : 0 ≤ x.toInt ∧ x.toInt < 24) (ht : ¬ (0 ≤ t ∧ t ≤ 4)) : CO c W n x t = -1 := by unfold CO; rw [if_pos h, if_neg (by omega), if_neg (by omega), if_neg (by omega), if_neg (by omega), if_neg (by omega)]
theorem CO_eq {c d W V : Nat → Int32} {n t : Int} {x : Int32} (hn : 0 ≤ n) (hc : ∀ j : Nat, (j : Int) < n → c j = d j) (hw : ∀ j, j < 24 → W j = V j) : CO c W n x t = CO d V n x t := by
  unfold CO
  by_cases h : 0 ≤ x.toInt ∧ x.toInt < 24
  · rw [if_pos h, if_pos h, cn_eq n.toNat (fun j hj => hc j (by omega)), hw _ (by omega), nextEq_eq n.toNat 0 (fun j hj => hc j (by omega)), lastEq_eq n.toNat (fun j hj => hc j (by omega)), wd_eq n.toNat (fun j hj => hc j (by omega))]
  · rw [if_neg h, if_neg h]