
def md_V (v : Nat → Int32) : Prop := (0 ≤ (v 0).toInt ∧ (v 0).toInt ≤ 160) ∧ (0 ≤ (v 1).toInt ∧ (v 1).toInt ≤ 160) ∧ (0 ≤ (v 2).toInt ∧ (v 2).toInt ≤ 160) ∧ (0 ≤ (v 3).toInt ∧ (v 3).toInt ≤ 10000) ∧ (0 ≤ (v 4).toInt ∧ (v 4).toInt ≤ 100000) ∧ (0 ≤ (v 6).toInt ∧ (v 6).toInt ≤ 30)
def md_lo (i : Nat) : Int := ([0, -2147483648, -2147483648, -2147483648, -2147483648, 0, -2147483648, -2147483648, -2147483648, -2147483648, -2147483648, -2147483648, 0, -2147483648, 0, -2147483648, 0, -2147483648, -2147483648, 0] : List Int).getD i (-2147483648)
def md_hi (i : Nat) : Int := ([23, 2147483647, 2147483647, 2147483647, 2147483647, 23, 2147483647, 2147483647, 2147483647, 2147483647, 2147483647, 2147483647, 23, 2147483647, 160, 2147483647, 23, 2147483647, 2147483647, 159] : List Int).getD i 2147483647
def md_F (f : Nat → Nat → Int32) : Prop := ∀ i j : Nat, md_lo i ≤ (f i j).toInt ∧ (f i j).toInt ≤ md_hi i
theorem md_F_st {f : Nat → Nat → Int32} (h : md_F f) (a k : Nat) (x : Int32) (hx : md_lo a ≤ x.toInt ∧ x.toInt ≤ md_hi a) : md_F (va_up f a (upd (f a) k x)) := by
  intro i j
  by_cases hi : i = a
  · subst hi
    by_cases hj : j = k
    · subst hj
      simpa [va_up, upd] using hx
    · simpa [va_up, upd, hj] using h i j
  · simpa [va_up, hi] using h i j
theorem md_rng (a : Nat) (x : Int32) (h : md_lo a = -2147483648 ∧ md_hi a = 2147483647) : md_lo a ≤ x.toInt ∧ x.toInt ≤ md_hi a := by
  rw [h.1, h.2]
  have := pm_rng x
  omega
def md_Qp (M : pm_H) (P : Int32 → Prop) : Option Value → pm_H → Prop := fun r A' => ∃ x : Int32, r = some (.int x) ∧ A' = M ∧ P x
def md_Qj (M : pm_H) (P : Int64 → Prop) : Option Value → pm_H → Prop := fun r A' => ∃ x : Int64, r = some (.long x) ∧ A' = M ∧ P x
def md_Qw (A0 : pm_H) (g : pm_G) (h : Nat) (q : Nat → Nat) (f : Nat → Nat → Int32) (P : Int32 → (Nat → Int32) → (Nat → Nat → Int32) → Prop) : Option Value → pm_H → Prop := fun r A' => ∃ (x : Int32) (v2 : Nat → Int32) (f2 : Nat → Nat → Int32), r = some (.int x) ∧ A' = md A0 g h q v2 f2 ∧ md_V v2 ∧ md_F f2 ∧ f2 2 = f 2 ∧ P x v2 f2
def md_Qv (A0 : pm_H) (g : pm_G) (h : Nat) (q : Nat → Nat) (f : Nat → Nat → Int32) (P : (Nat → Int32) → (Nat → Nat → Int32) → Prop) : Option Value → pm_H → Prop := fun r A' => ∃ (v2 : Nat → Int32) (f2 : Nat → Nat → Int32), r = none ∧ A' = md A0 g h q v2 f2 ∧ md_V v2 ∧ md_F f2 ∧ f2 2 = f 2 ∧ P v2 f2
theorem pm_mulc (x y : Int32) (k : Int) (hk : y.toInt = k) (h1 : -2147483648 ≤ x.toInt * k) (h2 : x.toInt * k < 2147483648) : (x * y).toInt = x.toInt * k := by
  rw [Int32.toInt_mul, hk]
  exact Int.bmod_eq_of_le (by omega) (by omega)
theorem pm_mulk (x y : Int32) (k : Int) (hk : x.toInt = k) (h1 : -2147483648 ≤ k * y.toInt) (h2 : k * y.toInt < 2147483648) : (x * y).toInt = k * y.toInt := by
  rw [Int32.toInt_mul, hk]
  exact Int.bmod_eq_of_le (by omega) (by omega)
theorem pm_rem (x y : Int32) (hx : 0 ≤ x.toInt) (hy : 0 < y.toInt) : 0 ≤ (x - x / y * y).toInt ∧ (x - x / y * y).toInt < y.toInt ∧ (x - x / y * y).toInt = x.toInt % y.toInt := by
  obtain ⟨a, ha, rfl⟩ := nI_of (x := x) (fun h => by have := (pm_lt0 x).mp h; omega)
  obtain ⟨d, hd, rfl⟩ := nI_of (x := y) (fun h => by have := (pm_lt0 y).mp h; omega)
  rw [nI_toInt hd] at hy
  have hd0 : 0 < d := by omega
  have hm : a % d < d := Nat.mod_lt _ hd0
  rw [pk_rem ha hd0 hd, nI_toInt (by omega), nI_toInt ha, nI_toInt hd]
  refine ⟨by omega, by omega, by omega⟩
theorem pm_swc {pc : Nat} {dflt lo hi : Int} {offs : Array Int} {x : Int32} {P : Nat → Prop} (N : Nat) (hN : offs.size = N) (hN2 : hi - lo + 1 = (N : Int)) (h0 : (x.toInt < lo ∨ hi < x.toInt) → P ((pc : Int) + dflt).toNat) (h1 : ∀ i : Nat, i < N → x.toInt = lo + i → P (((pc : Int) + offs.getD i 0).toNat)) : ∀ t : Nat, pm_sw pc dflt lo hi offs x t → P t := by
  intro t ht
  rcases ht with ⟨h, rfl⟩ | ⟨h2, h3, off, h4, rfl⟩
  · exact h0 h
  · have h5 : (x.toInt - lo).toNat < N := by omega
    have h6 := h1 (x.toInt - lo).toNat h5 (by omega)
    rw [Array.getD_eq_getD_getElem?, h4] at h6
    exact h6
def lastEq (c : Nat → Int32) (x : Int32) : Nat → Int
  | 0 => -1
  | k + 1 => if c k = x then (k : Int) else lastEq c x k
theorem lastEq_lt (c : Nat → Int32) (x : Int32) : ∀ n : Nat, -1 ≤ lastEq c x n ∧ lastEq c x n < n
  | 0 => by simp [lastEq]
  | k + 1 => by
    have := lastEq_lt c x k
    unfold lastEq
    split <;> omega
theorem lastEq_y {c : Nat → Int32} {x : Int32} {k : Nat} (h : c k = x) : lastEq c x (k + 1) = k := by unfold lastEq; rw [if_pos h]
theorem lastEq_n {c : Nat → Int32} {x : Int32} {k : Nat} (h : ¬ c k = x) : lastEq c x (k + 1) = lastEq c x k := by rw [lastEq, if_neg h]
theorem lastEq_s {c : Nat → Int32} {x : Int32} {a : Int} (ha : 0 ≤ a) : lastEq c x (a + 1).toNat = if c a.toNat = x then a else lastEq c x a.toNat := by
  obtain ⟨k, rfl⟩ := Int.eq_ofNat_of_zero_le ha
  have : ((k : Int) + 1).toNat = k + 1 := by omega
  rw [this, Int.toNat_natCast, lastEq]
theorem pm_bits_lt {x : Int32} (h : ¬ x = 0) : (x &&& (x - 1)).toBitVec.toNat < x.toBitVec.toNat := by
  have h0 : x.toBitVec ≠ 0 := fun q => h (by
    have : x = ⟨⟨x.toBitVec⟩⟩ := rfl
    rw [this, q]; rfl)
  have h1 : (x &&& (x - 1)).toBitVec = x.toBitVec &&& (x.toBitVec - 1) := rfl
  rw [h1, BitVec.toNat_and]
  have h2 : x.toBitVec.toNat &&& (x.toBitVec - 1).toNat ≤ (x.toBitVec - 1).toNat := Nat.and_le_right
  have h3 : x.toBitVec.toNat ≠ 0 := fun q => h0 (BitVec.eq_of_toNat_eq (by simpa using q))
  have h4 : (x.toBitVec - 1).toNat = x.toBitVec.toNat - 1 := by
    rw [BitVec.toNat_sub]
    have := x.toBitVec.isLt
    have h5 : (1 : BitVec 32).toNat = 1 := rfl
    rw [h5]
    omega
  omega
def nextEq (c : Nat → Int32) (x : Int32) : Nat → Nat → Int
  | _, 0 => -1
  | k, n + 1 => if c k = x then (k : Int) else nextEq c x (k + 1) n
theorem nextEq_lt (c : Nat → Int32) (x : Int32) : ∀ k n : Nat, nextEq c x k n = -1 ∨ ((k : Int) ≤ nextEq c x k n ∧ nextEq c x k n < k + n)
  | k, 0 => by simp [nextEq]
  | k, n + 1 => by
    have := nextEq_lt c x (k + 1) n
    unfold nextEq
    split <;> omega
theorem nextEq_s {c : Nat → Int32} {x : Int32} {a m : Int} (ha : 0 ≤ a) (hm : a < m) : nextEq c x a.toNat (m - a).toNat = if c a.toNat = x then a else nextEq c x (a + 1).toNat (m - (a + 1)).toNat := by
  obtain ⟨k, rfl⟩ := Int.eq_ofNat_of_zero_le ha
  rw [show (m - (k : Int)).toNat = (m - ((k : Int) + 1)).toNat + 1 by omega, nextEq, show ((k : Int) + 1).toNat = k + 1 by omega, Int.toNat_natCast]
def setF (c : Nat → Int32) (l : Nat) : Nat → Int32
  | 0 => 0
  | k + 1 => setF c l k ||| ((1 : Int32) <<< (c (l + k) &&& 31))
theorem setF_s {c : Nat → Int32} {l : Int} {p m : Int32} (hl : 0 ≤ l) (h : l ≤ p.toInt ∧ m.toInt = p.toInt + 1) : setF c l.toNat (p.toInt - l).toNat ||| ((1 : Int32) <<< (c p.toInt.toNat &&& 31)) = setF c l.toNat (m.toInt - l).toNat := by
  rw [h.2, show (p.toInt + 1 - l).toNat = (p.toInt - l).toNat + 1 by omega, setF, show l.toNat + (p.toInt - l).toNat = p.toInt.toNat by omega]
theorem pm_addc (x y : Int32) (k : Int) (hk : y.toInt = k) (h1 : -2147483648 ≤ x.toInt + k) (h2 : x.toInt + k < 2147483648) : (x + y).toInt = x.toInt + k := by
  rw [← hk] at h1 h2 ⊢
  exact pm_add x y h1 h2
theorem pm_subc (x y : Int32) (k : Int) (hk : y.toInt = k) (h1 : -2147483648 ≤ x.toInt - k) (h2 : x.toInt - k < 2147483648) : (x - y).toInt = x.toInt - k := by
  rw [← hk] at h1 h2 ⊢
  exact pm_sub x y h1 h2

