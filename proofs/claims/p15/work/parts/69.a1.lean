/-! what is told of a row, as functions of its colours c, names m, number n: at, colour, close -/
theorem lastEq_eq {c d : Nat → Int32} {x : Int32} : ∀ k : Nat, (∀ j, j < k → c j = d j) → lastEq c x k = lastEq d x k
  | 0, _ => rfl
  | k + 1, h => by
    have ih := lastEq_eq (x := x) k (fun j hj => h j (by omega))
    show (if c k = x then (k : Int) else lastEq c x k) = (if d k = x then (k : Int) else lastEq d x k)
    rw [h k (by omega), ih]
theorem nextEq_eq {c d : Nat → Int32} {x : Int32} : ∀ n k : Nat, (∀ j, j < k + n → c j = d j) → nextEq c x k n = nextEq d x k n
  | 0, _, _ => rfl
  | n + 1, k, h => by
    have ih := nextEq_eq (x := x) n (k + 1) (fun j hj => h j (by omega))
    show (if c k = x then (k : Int) else nextEq c x (k + 1) n) = (if d k = x then (k : Int) else nextEq d x (k + 1) n)
    rw [h k (by omega), ih]
def nmA (m : Nat → Int32) (n p : Int) : Int32 := if 0 ≤ p ∧ p < n then m p.toNat else -1
theorem nmA_y {m : Nat → Int32} {n p : Int} (h : 0 ≤ p ∧ p < n) : nmA m n p = m p.toNat := if_pos h
theorem nmA_n {m : Nat → Int32} {n p : Int} (h : ¬ (0 ≤ p ∧ p < n)) : nmA m n p = -1 := if_neg h
theorem nmA_eq {m k : Nat → Int32} {n p : Int} (h : ∀ j : Nat, (j : Int) < n → m j = k j) : nmA m n p = nmA k n p := by
  by_cases hp : 0 ≤ p ∧ p < n
  · rw [nmA_y hp, nmA_y hp]; exact h _ (by omega)
  · rw [nmA_n hp, nmA_n hp]
def bo (c m : Nat → Int32) (p : Int) : Int32 := nmA m p (lastEq c (c p.toNat) p.toNat)
theorem bo_n {c m : Nat → Int32} {p : Int} (h : lastEq c (c p.toNat) p.toNat < 0) : bo c m p = -1 := nmA_n (by omega)
theorem bo_y {c m : Nat → Int32} {p : Int} {y : Int32} (hp : 0 ≤ p) (hy : y.toInt = lastEq c (c p.toNat) p.toNat) (h : 0 ≤ y.toInt) : bo c m p = m y.toInt.toNat := by
  have h1 := lastEq_lt c (c p.toNat) p.toNat
  unfold bo; rw [nmA_y (by omega), ← hy]
theorem bo_eq {c m d k : Nat → Int32} {p : Int} (hc : ∀ j : Nat, (j : Int) ≤ p → c j = d j) (hm : ∀ j : Nat, (j : Int) ≤ p → m j = k j) (hp : 0 ≤ p) : bo c m p = bo d k p := by
  unfold bo
  rw [hc p.toNat (by omega), lastEq_eq p.toNat (fun j hj => hc j (by omega))]
  exact nmA_eq (fun j hj => hm j (by omega))
theorem bo_a {c m a : Nat → Int32} {n : Int32} {p : Int} (hb : bd n c a) (hp : 0 ≤ p ∧ p < n.toInt) {r : Int32} (hr : r = nmA m n.toInt (a p.toNat).toInt) : r = bo c m p := by
  have h1 := lastEq_lt c (c p.toNat) p.toNat
  have h2 := hb p.toNat (by omega)
  subst hr; unfold bo
  rw [h2]
  by_cases h : 0 ≤ lastEq c (c p.toNat) p.toNat
  · rw [nmA_y (by omega), nmA_y (by omega)]
  · rw [nmA_n (by omega), nmA_n (by omega)]
def NX (c : Nat → Int32) (n p : Int) : Int := nextEq c (c p.toNat) (p + 1).toNat (n - (p + 1)).toNat
def BA (c m : Nat → Int32) (n p : Int) : Int32 := if 0 ≤ p ∧ p < n then bo c m p else -1
theorem BA_y {c m : Nat → Int32} {n p : Int} (h : 0 ≤ p ∧ p < n) : BA c m n p = bo c m p := if_pos h
theorem BA_n {c m : Nat → Int32} {n p : Int} (h : ¬ (0 ≤ p ∧ p < n)) : BA c m n p = -1 := if_neg h
def TL (c m : Nat → Int32) (n p t : Int) : Int32 := if 0 ≤ p ∧ p < n then (if t = 0 then c p.toNat else if t = 1 then m p.toNat else if t = 2 then bo c m p else -1) else -1
theorem TL_o {c m : Nat → Int32} {n p t : Int} (h : ¬ (0 ≤ p ∧ p < n)) : TL c m n p t = -1 := if_neg h
theorem TL_0 {c m : Nat → Int32} {n p t : Int} (h : 0 ≤ p ∧ p < n) (ht : t = 0) : TL c m n p t = c p.toNat := by unfold TL; rw [if_pos h, if_pos ht]
theorem TL_1 {c m : Nat → Int32} {n p t : Int} (h : 0 ≤ p ∧ p < n) (ht : t = 1) : TL c m n p t = m p.toNat := by unfold TL; rw [if_pos h, if_neg (by omega), if_pos ht]
theorem TL_2 {c m : Nat → Int32} {n p t : Int} (h : 0 ≤ p ∧ p < n) (ht : t = 2) : TL c m n p t = bo c m p := by unfold TL; rw [if_pos h, if_neg (by omega), if_neg (by omega), if_pos ht]
theorem TL_d {c m : Nat → Int32} {n p t : Int} (ht : ¬ (0 ≤ t ∧ t ≤ 2)) : TL c m n p t = -1 := by
  unfold TL
  by_cases h : 0 ≤ p ∧ p < n
  · rw [if_pos h, if_neg (by omega), if_neg (by omega), if_neg (by omega)]
  · rw [if_neg h]
theorem TL_eq {c m d k : Nat → Int32} {n p t : Int} (hc : ∀ j : Nat, (j : Int) < n → c j = d j) (hm : ∀ j : Nat, (j : Int) < n → m j = k j) : TL c m n p t = TL d k n p t := by
  unfold TL
  by_cases h : 0 ≤ p ∧ p < n
  · rw [if_pos h, if_pos h, hc p.toNat (by omega), hm p.toNat (by omega), bo_eq (fun j hj => hc j (by omega)) (fun j hj => hm j (by omega)) h.1]
  · rw [if_neg h, if_neg h]
def AT (c m : Nat → Int32) (n p t : Int) : Int32 := if t = 3 then (if 0 ≤ p ∧ p < n then nmA m n (NX c n p) else -1) else TL c m n p t
theorem AT_t {c m : Nat → Int32} {n p t : Int} (h : ¬ t = 3) : AT c m n p t = TL c m n p t := if_neg h
theorem AT_o {c m : Nat → Int32} {n p t : Int} (h : ¬ (0 ≤ p ∧ p < n)) : AT c m n p t = -1 := by
  unfold AT
  by_cases ht : t = 3
  · rw [if_pos ht, if_neg h]
  · rw [if_neg ht, TL_o h]
theorem AT_3 {c m : Nat → Int32} {n p t : Int} (h : 0 ≤ p ∧ p < n) (ht : t = 3) : AT c m n p t = nmA m n (NX c n p) := by unfold AT; rw [if_pos ht, if_pos h]
theorem NX_lt (c : Nat → Int32) {n p : Int} (h : 0 ≤ p ∧ p < n) : NX c n p = -1 ∨ (p < NX c n p ∧ NX c n p < n) := by
  have := nextEq_lt c (c p.toNat) (p + 1).toNat (n - (p + 1)).toNat
  unfold NX; omega
theorem AT_3n {c m : Nat → Int32} {n p t : Int} (h : 0 ≤ p ∧ p < n) (ht : t = 3) {y : Int32} (hy : y.toInt = nextEq c (c p.toNat) (p + 1).toNat (n - (p + 1)).toNat) (h0 : y.toInt < 0) : AT c m n p t = -1 := by
  rw [AT_3 h ht]; exact nmA_n (by unfold NX; omega)
theorem AT_3y {c m : Nat → Int32} {n p t : Int} (h : 0 ≤ p ∧ p < n) (ht : t = 3) {y : Int32} (hy : y.toInt = nextEq c (c p.toNat) (p + 1).toNat (n - (p + 1)).toNat) (h0 : 0 ≤ y.toInt) : AT c m n p t = m y.toInt.toNat := by
  have h1 := NX_lt c h
  have h2 : NX c n p = y.toInt := hy.symm
  rw [AT_3 h ht, h2, nmA_y (by omega)]
def NXA (c : Nat → Int32) (n p : Int) : Int := if 0 ≤ p ∧ p < n then NX c n p else -1
theorem NXA_y {c : Nat → Int32} {n p : Int} (h : 0 ≤ p ∧ p < n) : NXA c n p = NX c n p := if_pos h
theorem NXA_n {c : Nat → Int32} {n p : Int} (h : ¬ (0 ≤ p ∧ p < n)) : NXA c n p = -1 := if_neg h
theorem AT_c3 {c m : Nat → Int32} {n p t z : Int} {r : Int32} (ht : t = 3) (hr : r = nmA m n z) (hz : z = NXA c n p) : r = AT c m n p t := by
  subst hr hz
  by_cases h : 0 ≤ p ∧ p < n
  · rw [AT_3 h ht, NXA_y h]
  · rw [AT_o h, NXA_n h, nmA_n (by omega)]
theorem AT_eq {c m d k : Nat → Int32} {n p t : Int} (hc : ∀ j : Nat, (j : Int) < n → c j = d j) (hm : ∀ j : Nat, (j : Int) < n → m j = k j) : AT c m n p t = AT d k n p t := by
  unfold AT
  by_cases h : 0 ≤ p ∧ p < n
  · have e1 : NX c n p = NX d n p := by
      unfold NX; rw [hc p.toNat (by omega)]; exact nextEq_eq _ _ (fun j hj => hc j (by omega))
    rw [if_pos h, if_pos h, e1, nmA_eq hm, TL_eq hc hm]
  · rw [if_neg h, if_neg h, TL_eq hc hm]