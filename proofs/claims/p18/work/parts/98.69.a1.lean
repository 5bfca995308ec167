/-! what is told of a row, as functions of its colours c, names m, number n: at, colour, close -/
theorem lastEq_eq {c d : Nat → Int32} {x : Int32} : ∀ k : Nat, (∀ j, j < k → c j = d j) → lastEq c x k = lastEq d x k
  | 0, _ => rfl
  | k + 1, h => by
    have ih := lastEq_eq (x := x) k (fun j hj => h j (by omega))
    show (if c k = x then (k : Int) else lastEq c x k) = (if d k = x then (k : Int) else lastEq d x k)
    rw [h k (by omega), ih]
theorem nextEq_eq {c d : Nat → Int32} {x : Int32} : ∀ n k : Nat, (∀ j, j < k + n → c j = d j) → nextEq c x k n = nextEq d x k n
  | 0, _, _ => rfl
  | n + 1, k, h => by
    have ih := nextEq_eq (x := x) n (k + 1) (fun j hj => h j (by omega))
    show (if c k = x then (k : Int) else nextEq c x (k + 1) n) = (if d k = x then (k : Int) else nextEq d x (k + 1) n)
    rw [h k (by omega), ih]
def nmA (m : Nat → Int32) (n p : Int) : Int32 := if 0 ≤ p ∧ p < n then m p.toNat else -1
theorem nmA_y {m : Nat → Int32} {n p : Int} (h : 0 ≤ p ∧ p < n) : nmA m n p = m p.toNat := if_pos h
theorem nmA_n {m : Nat → Int32} {n p : Int} (h : ¬ (0 ≤ p ∧ p < n)) : nmA m n p = -1 := if_neg h
theorem nmA_eq {m k : Nat → Int32} {n p : Int} (h : ∀ j : Nat, (j : Int) < n → m j = k j) : nmA m n p = nmA k n p := by
  by_cases hp : 0 ≤ p ∧ p < n
  · rw [nmA_y hp, nmA_y hp]; exact h _ (by omega)
  · rw [nmA_n hp, nmA_n hp]
def bo (c m : Nat → Int32) (p : Int) : Int32 := nmA m p (lastEq c (c p.toNat) p.toNat)
theorem bo_n {c m : Nat → Int32} {p : Int} (h : lastEq c (c p.toNat) p.toNat < 0) : bo c m p = -1 := nmA_n (by omega)
theorem bo_y {c m : Nat → Int32} {p : Int} {y : Int32} (hp : 0 ≤ p) (hy : y.toInt = lastEq c (c p.toNat) p.toNat) (h : 0 ≤ y.toInt) : bo c m p = m y.toInt.toNat := by
  have h1 := lastEq_lt c (c p.toNat) p.toNat
  unfold bo; rw [nmA_y (by omega), ← hy]
theorem bo_eq {c m d k : Nat → Int32} {p : Int} (hc : ∀ j : Nat, (j : Int) ≤ p → c j = d j) (hm : ∀ j : Nat, (j : Int) ≤ p → m j = k j) (hp : 0 ≤ p) : bo c m p = bo d k p := by
  unfold bo
  rw [hc p.toNat (by omega), lastEq_eq p.toNat (fun j hj => hc j (by omega))]
  exact nmA_eq (fun j hj => hm j (by omega))
theorem bo_a {c m a : Nat → Int32} {n : Int32} {p : Int} (hb : bd n c a) (hp : 0 ≤ p ∧ p < n.toInt) {r : Int32} (hr : r = nmA m n.toInt (a p.toNat).toInt) : r = bo c m p := by
  have h1 := lastEq_lt c (c p.toNat) p.toNat
  have h2 := hb p.toNat (by omega)
  subst hr; unfold bo
  rw [h2]
  by_cases h : 0 ≤ lastEq c (c p.toNat) p.toNat
  · rw [nmA_y (by omega), nmA_y (by omega)]
  · rw [nmA_n (by omega), nmA_n (by omega)]
def NX (c : Nat → Int32) (n p : Int) : Int := nextEq c (c p.toNat) (p + 1).toNat (n - (p + 1)).toNat
def BA (c m : Nat → Int32) (n p : Int) : Int32 := if 0 ≤ p ∧ p < n then bo c m p else -1
theorem BA_y {c m : Nat → Int32} {n p : Int} (h : 0 ≤ p ∧ p < n) : BA c m n p = bo c m p := if_pos h
theorem BA_n {c m : Nat → Int32} {n p : Int} (h : ¬ (0 ≤ p ∧ p < n)) : BA c m n p = -1 := if_neg h
def TL (c m : Nat → Int32) (n p t : Int) : Int32 := if 0 ≤ p ∧ p < n then (if t = 0 then c p.toNat else if t = 1 then m p.toNat else if t = 2 then bo c m p else -1) else -1
theorem TL_o {c m : Nat → Int32} {n p t : Int} (h : ¬ (0 ≤ p ∧ p < n)) : TL c m n p t = -1 := if_neg h
theorem TL_0 {c m : Nat → Int32} {n p t : Int} (h : 0 ≤ p ∧ p < n) (ht : t = 0) : TL c m n p t = c p.toNat := by unfold TL; rw [if_pos h, if_pos ht]
theorem TL_1 {c m : Nat → Int32} {n p t : Int} (h : 0 ≤ p ∧ p < n) (ht : t = 1) : TL c m n p t = m p.toNat := by unfold TL; rw [if_pos h, if_neg (by omega), if_pos ht]
theorem TL_2 {c m : Nat → Int32} {n p t : Int} (h : 0 ≤ p ∧ p < n) (ht : t = 2) : TL c m n p t = bo c m p := by unfold TL; rw [if_pos h, if_neg (by omega), if_neg (by omega), if_pos ht]
theorem TL_d {c m : Nat → Int32} {n p t : Int} (ht : ¬ (0 ≤ t ∧ t ≤ 2)) : TL c m n p t = -1 := by
  unfold TL
  by_cases h : 0 ≤ p ∧ p < n
  · rw [if_pos h, if_neg (by omega), if_neg (by omega), if_neg (by omega)]
  · rw [if_neg h]
theorem TL_eq {c m d k : Nat → Int32} {n p t : Int} (hc : ∀ j : Nat, (j : Int) < n → c j = d j) (hm : ∀ j : Nat, (j : Int) < n → m j = k j) : TL c m n p t = TL d k n p t := by
  unfold TL
  by_cases h : 0 ≤ p ∧ p < n
  · rw [if_pos h, if_pos h, hc p.toNat (by omega), hm p.toNat (by omega), bo_eq (fun j hj => hc j (by omega)) (fun j hj => hm j (by omega)) h.1]
  · rw [if_neg h, if_neg h]
def AT (c m : Nat → Int32) (n p t : Int) : Int32 := if t = 3 then (if 0 ≤ p ∧ p < n then nmA m n (NX c n p) else -1) else TL c m n p t
theorem AT_t {c m : Nat → Int32} {n p t : Int} (h : ¬ t = 3) : AT c m n p t = TL c m n p t := if_neg h
theorem AT_o {c m : Nat → Int32} {n p t : Int} (h : ¬ (0 ≤ p ∧ p < n)) : AT c m n p t = -1 := by
  unfold AT
  by_cases ht : t = 3
  · rw [if_pos ht, if_neg h]
  · rw [if_neg ht, TL_o h]
theorem AT_3 {c m : Nat → Int32} {n p t : Int} (h : 0 ≤ p ∧ p < n) (ht : t = 3) : AT c m n p t = nmA m n (NX c n p) := by unfold AT; rw [if_pos ht, if_pos h]
theorem NX_lt (c : Nat → Int32) {n p : Int} (h : 0 ≤ p ∧ p < n) : NX c n p = -1 ∨ (p < NX c n p ∧ NX c n p < n) := by
  have := nextEq_lt c (c p.toNat) (p + 1).toNat (n - (p + 1)).toNat
  unfold NX; omega
theorem AT_3n {c m : Nat → Int32} {n p t : Int} (h : 0 ≤ p ∧ p < n) (ht : t = 3) {y : Int32} (hy : y.toInt = nextEq c (c p.toNat) (p + 1).toNat (n - (p + 1)).toNat) (h0 : y.toInt < 0) : AT c m n p t = -1 := by
  rw [AT_3 h ht]; exact nmA_n (by unfold NX; omega)
theorem AT_3y {c m : Nat → Int32} {n p t : Int} (h : 0 ≤ p ∧ p < n) (ht : t = 3) {y : Int32} (hy : y.toInt = nextEq c (c p.toNat) (p + 1).toNat (n - (p + 1)).toNat) (h0 : 0 ≤ y.toInt) : AT c m n p t = m y.toInt.toNat := by
  have h1 := NX_lt c h
  have h2 : NX c n p = y.toInt := hy.symm
  rw [AT_3 h ht, h2, nmA_y (by omega)]
def NXA (c : Nat → Int32) (n p : Int) : Int := if 0 ≤ p ∧ p < n then NX c n p else -1
theorem NXA_y {c : Nat → Int32} {n p : Int} (h : 0 ≤ p ∧ p < n) : NXA c n p = NX c n p := if_pos h
theorem NXA_n {c : Nat → Int32} {n p : Int} (h : ¬ (0 ≤ p ∧ p < n)) : NXA c n p = -1 := if_neg h
theorem AT_c3 {c m : Nat → Int32} {n p t z : Int} {r : Int32} (ht : t = 3) (hr : r = nmA m n z) (hz : z = NXA c n p) : r = AT c m n p t := by
  subst hr hz
  by_cases h : 0 ≤ p ∧ p < n
  · rw [AT_3 h ht, NXA_y h]
  · rw [AT_o h, NXA_n h, nmA_n (by omega)]
theorem AT_eq {c m d k : Nat → Int32} {n p t : Int} (hc : ∀ j : Nat, (j : Int) < n → c j = d j) (hm : ∀ j : Nat, (j : Int) < n → m j = k j) : AT c m n p t = AT d k n p t := by
  unfold AT
  by_cases h : 0 ≤ p ∧ p < n
  · have e1 : NX c n p = NX d n p := by
      unfold NX; rw [hc p.toNat (by omega)]; exact nextEq_eq _ _ (fun j hj => hc j (by omega))
    rw [if_pos h, if_pos h, e1, nmA_eq hm, TL_eq hc hm]
  · rw [if_neg h, if_neg h, TL_eq hc hm]
def wd (c : Nat → Int32) (x : Int32) : Nat → Int
  | 0 => -1
  | k + 1 => if c k = x ∧ 0 ≤ lastEq c x k ∧ wd c x k < k - lastEq c x k - 1 then k - lastEq c x k - 1 else wd c x k
theorem wd_n {c : Nat → Int32} {x : Int32} {k : Nat} (h : ¬ c k = x) : wd c x (k + 1) = wd c x k := by rw [wd, if_neg (fun h9 => h h9.1)]
theorem wd_s {c : Nat → Int32} {x : Int32} {k : Nat} {y : Int} (h : c k = x) (hy : y = lastEq c (c k) k) : wd c x (k + 1) = if 0 ≤ y ∧ wd c x k < k - y - 1 then k - y - 1 else wd c x k := by
  rw [h] at hy; subst hy
  rw [wd]
  by_cases h1 : 0 ≤ lastEq c x k ∧ wd c x k < k - lastEq c x k - 1
  · rw [if_pos h1, if_pos ⟨h, h1⟩]
  · rw [if_neg h1, if_neg (fun h9 => h1 h9.2)]
theorem wd_eq {c d : Nat → Int32} {x : Int32} : ∀ k : Nat, (∀ j, j < k → c j = d j) → wd c x k = wd d x k
  | 0, _ => rfl
  | k + 1, h => by
    have ih := wd_eq (x := x) k (fun j hj => h j (by omega))
    rw [wd, wd, h k (by omega), ih, lastEq_eq k (fun j hj => h j (by omega))]
theorem wd_ge (c : Nat → Int32) (x : Int32) : ∀ k : Nat, -1 ≤ wd c x k ∧ wd c x k ≤ k
  | 0 => ⟨Int.le_refl _, by show (-1 : Int) ≤ _; omega⟩
  | k + 1 => by
    have ih := wd_ge c x k
    have h1 := lastEq_lt c x k
    rw [wd]
    split <;> omega
theorem NTH_0 {c : Nat → Int32} {x : Int32} {n r : Int} (hn : 0 ≤ n) (h : NTH c n x 0 r) : r = nextEq c x 0 n.toNat := by
  have key : ∀ (m k : Nat), (k : Int) + m = n → cn c x k = 0 → r = nextEq c x k m := by
    intro m
    induction m with
    | zero =>
      intro k hk h0
      rcases h with ⟨h1, _⟩ | ⟨h1, h2, h3, h4⟩
      · exact h1
      · have h5 : cn c x (r.toNat + 1) = 1 := by rw [cn_y h3]; omega
        have h6 := cn_m c x (r.toNat + 1) k (by omega)
        omega
    | succ m ih =>
      intro k hk h0
      show r = (if c k = x then (k : Int) else nextEq c x (k + 1) m)
      by_cases hx : c k = x
      · rw [if_pos hx]
        rcases h with ⟨_, h2⟩ | ⟨h1, h2, h3, h4⟩
        · exact absurd ⟨hx, by omega⟩ (h2 k (by omega))
        · by_cases h7 : r.toNat < k
          · have h5 : cn c x (r.toNat + 1) = 1 := by rw [cn_y h3]; omega
            have h6 := cn_m c x (r.toNat + 1) k (by omega)
            omega
          · by_cases h8 : k < r.toNat
            · have h5 : cn c x (k + 1) = 1 := by rw [cn_y hx]; omega
              have h6 := cn_m c x (k + 1) r.toNat (by omega)
              omega
            · omega
      · rw [if_neg hx]
        exact ih (k + 1) (by omega) (by rw [cn_n hx]; exact h0)
  exact key n.toNat 0 (by omega) rfl
theorem NTH_l (c : Nat → Int32) (x : Int32) : ∀ n : Nat, NTH c n x ((cn c x n : Int) - 1) (lastEq c x n)
  | 0 => Or.inl ⟨rfl, fun i hi => by omega⟩
  | n + 1 => by
    have ih := NTH_l c x n
    have hl := lastEq_lt c x n
    by_cases h : c n = x
    · rw [cn_y h, lastEq_y h]
      exact Or.inr ⟨by omega, by omega, by rw [show ((n : Int)).toNat = n by omega]; exact h, by rw [show ((n : Int)).toNat = n by omega]; omega⟩
    · rw [cn_n h, lastEq_n h]
      rcases ih with ⟨h1, h2⟩ | ⟨h1, h2, h3, h4⟩
      · refine Or.inl ⟨h1, fun i hi => ?_⟩
        by_cases e : i = n
        · subst e; exact fun h9 => h h9.1
        · exact h2 i (by omega)
      · exact Or.inr ⟨h1, by omega, h3, h4⟩
theorem NTH_last {c : Nat → Int32} {x : Int32} {n k r : Int} (hn : 0 ≤ n) (hk : k = (cn c x n.toNat : Int) - 1) (h : NTH c n x k r) : r = lastEq c x n.toNat := by
  subst hk
  exact NTH_u (fun _ _ => rfl) h (by have := NTH_l c x n.toNat; rwa [show ((n.toNat : Nat) : Int) = n by omega] at this)
def ct (c : Nat → Int32) (x : Int32) (l : Nat) : Nat → Nat
  | 0 => 0
  | k + 1 => ct c x l k + if c (l + k) = x then 1 else 0
theorem ct_y {c : Nat → Int32} {x : Int32} {l k : Nat} (h : c (l + k) = x) : ct c x l (k + 1) = ct c x l k + 1 := by rw [ct, if_pos h]
theorem ct_n {c : Nat → Int32} {x : Int32} {l k : Nat} (h : ¬ c (l + k) = x) : ct c x l (k + 1) = ct c x l k := by rw [ct, if_neg h, Nat.add_zero]
theorem ct_le (c : Nat → Int32) (x : Int32) (l : Nat) : ∀ k, ct c x l k ≤ k
  | 0 => Nat.le_refl _
  | k + 1 => by
    have ih := ct_le c x l k
    rw [ct]
    split <;> omega
theorem ct_0 (c : Nat → Int32) (x : Int32) : ∀ k, ct c x 0 k = cn c x k
  | 0 => rfl
  | k + 1 => by
    have ih := ct_0 c x k
    by_cases h : c k = x
    · rw [ct_y (by rw [Nat.zero_add]; exact h), cn_y h, ih]
    · rw [ct_n (by rw [Nat.zero_add]; exact h), cn_n h, ih]
theorem ct_eq {c d : Nat → Int32} {x : Int32} {l : Nat} : ∀ k, (∀ j, j < l + k → c j = d j) → ct c x l k = ct d x l k
  | 0, _ => rfl
  | k + 1, h => by
    have ih := ct_eq (x := x) (l := l) k (fun j hj => h j (by omega))
    rw [ct, ct, ih, h (l + k) (by omega)]
def CO (c W : Nat → Int32) (n : Int) (x : Int32) (t : Int) : Int := if 0 ≤ x.toInt ∧ x.toInt < 24 then (if t = 0 then (cn c x n.toNat : Int) else if t = 1 then (W x.toInt.toNat).toInt else if t = 2 then nextEq c x 0 n.toNat else if t = 3 then lastEq c x n.toNat else if t = 4 then wd c x n.toNat else -1) else -1
theorem CO_o {c W : Nat → Int32} {n t : Int} {x : Int32} (h : ¬ (0 ≤ x.toInt ∧ x.toInt < 24)) : CO c W n x t = -1 := if_neg h
theorem CO_0 {c W : Nat → Int32} {n t : Int} {x : Int32} (h : 0 ≤ x.toInt ∧ x.toInt < 24) (ht : t = 0) : CO c W n x t = (cn c x n.toNat : Int) := by unfold CO; rw [if_pos h, if_pos ht]
theorem CO_1 {c W : Nat → Int32} {n t : Int} {x : Int32} (h : 0 ≤ x.toInt ∧ x.toInt < 24) (ht : t = 1) : CO c W n x t = (W x.toInt.toNat).toInt := by unfold CO; rw [if_pos h, if_neg (by omega), if_pos ht]
theorem CO_2 {c W : Nat → Int32} {n t : Int} {x : Int32} (h : 0 ≤ x.toInt ∧ x.toInt < 24) (ht : t = 2) : CO c W n x t = nextEq c x 0 n.toNat := by unfold CO; rw [if_pos h, if_neg (by omega), if_neg (by omega), if_pos ht]
theorem CO_3 {c W : Nat → Int32} {n t : Int} {x : Int32} (h : 0 ≤ x.toInt ∧ x.toInt < 24) (ht : t = 3) : CO c W n x t = lastEq c x n.toNat := by unfold CO; rw [if_pos h, if_neg (by omega), if_neg (by omega), if_neg (by omega), if_pos ht]
theorem CO_4 {c W : Nat → Int32} {n t : Int} {x : Int32} (h : 0 ≤ x.toInt ∧ x.toInt < 24) (ht : t = 4) : CO c W n x t = wd c x n.toNat := by unfold CO; rw [if_pos h, if_neg (by omega), if_neg (by omega), if_neg (by omega), if_neg (by omega), if_pos ht]
theorem CO_d {c W : Nat → Int32} {n t : Int} {x : Int32} (h : 0 ≤ x.toInt ∧ x.toInt < 24) (ht : ¬ (0 ≤ t ∧ t ≤ 4)) : CO c W n x t = -1 := by unfold CO; rw [if_pos h, if_neg (by omega), if_neg (by omega), if_neg (by omega), if_neg (by omega), if_neg (by omega)]
theorem CO_eq {c d W V : Nat → Int32} {n t : Int} {x : Int32} (hn : 0 ≤ n) (hc : ∀ j : Nat, (j : Int) < n → c j = d j) (hw : ∀ j, j < 24 → W j = V j) : CO c W n x t = CO d V n x t := by
  unfold CO
  by_cases h : 0 ≤ x.toInt ∧ x.toInt < 24
  · rw [if_pos h, if_pos h, cn_eq n.toNat (fun j hj => hc j (by omega)), hw _ (by omega), nextEq_eq n.toNat 0 (fun j hj => hc j (by omega)), lastEq_eq n.toNat (fun j hj => hc j (by omega)), wd_eq n.toNat (fun j hj => hc j (by omega))]
  · rw [if_neg h, if_neg h]
def CL (c : Nat → Int32) (l : Int) : Nat → Int × Int
  | 0 => (-1, -1)
  | k + 1 => if l ≤ lastEq c (c (l.toNat + k)) (l.toNat + k) ∧ ((CL c l k).1 = -1 ∨ l + k - lastEq c (c (l.toNat + k)) (l.toNat + k) < (CL c l k).1) then (l + k - lastEq c (c (l.toNat + k)) (l.toNat + k), lastEq c (c (l.toNat + k)) (l.toNat + k)) else CL c l k
theorem CL_y {c : Nat → Int32} {l p a : Int} (h0 : 0 ≤ l ∧ l ≤ p) (ha : a = lastEq c (c p.toNat) p.toNat) (h : l ≤ a ∧ ((CL c l (p - l).toNat).1 = -1 ∨ p - a < (CL c l (p - l).toNat).1)) : CL c l (p + 1 - l).toNat = (p - a, a) := by
  obtain ⟨k, hk⟩ : ∃ k : Nat, k = (p - l).toNat := ⟨_, rfl⟩
  rw [← hk] at h
  rw [show (p + 1 - l).toNat = k + 1 by omega, CL, show l.toNat + k = p.toNat by omega, ← ha, show l + (k : Int) = p by omega, if_pos h]
theorem CL_n {c : Nat → Int32} {l p a : Int} (h0 : 0 ≤ l ∧ l ≤ p) (ha : a = lastEq c (c p.toNat) p.toNat) (h : ¬ (l ≤ a ∧ ((CL c l (p - l).toNat).1 = -1 ∨ p - a < (CL c l (p - l).toNat).1))) : CL c l (p + 1 - l).toNat = CL c l (p - l).toNat := by
  obtain ⟨k, hk⟩ : ∃ k : Nat, k = (p - l).toNat := ⟨_, rfl⟩
  rw [← hk] at h ⊢
  rw [show (p + 1 - l).toNat = k + 1 by omega, CL, show l.toNat + k = p.toNat by omega, ← ha, show l + (k : Int) = p by omega, if_neg h]
theorem CL_eq {c d : Nat → Int32} {l : Int} : ∀ k : Nat, (∀ j, j < l.toNat + k → c j = d j) → CL c l k = CL d l k
  | 0, _ => rfl
  | k + 1, h => by
    have ih := CL_eq (l := l) k (fun j hj => h j (by omega))
    rw [CL, CL, h (l.toNat + k) (by omega), ih, lastEq_eq (l.toNat + k) (fun j hj => h j (by omega))]
def CS (c : Nat → Int32) (n l r t : Int) : Int := if 0 ≤ l ∧ l ≤ r ∧ r < n then (if t = 0 then (CL c l (r + 1 - l).toNat).1 else if t = 1 then (CL c l (r + 1 - l).toNat).2 else -1) else -1
theorem CS_o {c : Nat → Int32} {n l r t : Int} (h : ¬ ((0 ≤ l ∧ l ≤ r ∧ r < n) ∧ 0 ≤ t ∧ t ≤ 1)) : CS c n l r t = -1 := by
  unfold CS
  by_cases h1 : 0 ≤ l ∧ l ≤ r ∧ r < n
  · rw [if_pos h1, if_neg (by omega), if_neg (by omega)]
  · rw [if_neg h1]
theorem CS_0 {c : Nat → Int32} {n l r t : Int} (h : 0 ≤ l ∧ l ≤ r ∧ r < n) (ht : t = 0) : CS c n l r t = (CL c l (r + 1 - l).toNat).1 := by unfold CS; rw [if_pos h, if_pos ht]
theorem CS_1 {c : Nat → Int32} {n l r t : Int} (h : 0 ≤ l ∧ l ≤ r ∧ r < n) (ht : t = 1) : CS c n l r t = (CL c l (r + 1 - l).toNat).2 := by unfold CS; rw [if_pos h, if_neg (by omega), if_pos ht]
theorem CS_eq {c d : Nat → Int32} {n l r t : Int} (hc : ∀ j : Nat, (j : Int) < n → c j = d j) : CS c n l r t = CS d n l r t := by
  unfold CS
  by_cases h1 : 0 ≤ l ∧ l ≤ r ∧ r < n
  · rw [if_pos h1, if_pos h1, CL_eq _ (fun j hj => hc j (by omega))]
  · rw [if_neg h1, if_neg h1]
