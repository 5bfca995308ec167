
abbrev pl_P : Type := Int32 × Int32
def rp (n : Int32) (c m : Nat → Int32) (L : List pl_P) : Prop := n.toInt = (L.length : Int) ∧ ∀ (j : Nat) (h : j < L.length), c j = (L[j]).1 ∧ m j = (L[j]).2
theorem rp_0 {c m : Nat → Int32} {n : Int32} (h : n.toInt = 0) : rp n c m [] := ⟨by rw [h]; rfl, fun j h => absurd h (Nat.not_lt_zero _)⟩
theorem rp_app {n n2 : Int32} {c m : Nat → Int32} {L : List pl_P} (h : rp n c m L) (h2 : n2.toInt = n.toInt + 1) (a b : Int32) : rp n2 (upd c n.toInt.toNat a) (upd m n.toInt.toNat b) (L ++ [(a, b)]) := by
  obtain ⟨h0, h1⟩ := h
  have hn : n.toInt.toNat = L.length := by omega
  refine ⟨by rw [h2, h0, List.length_append]; rfl, fun j hj => ?_⟩
  rw [hn]
  by_cases e : j = L.length
  · subst e
    rw [pk_us, pk_us, List.getElem_append_right (Nat.le_refl _)]
    simp
  · have hl : j < L.length := by
      rw [List.length_append] at hj
      have : ([(a, b)] : List pl_P).length = 1 := rfl
      omega
    rw [pk_un e, pk_un e, List.getElem_append_left hl]
    exact h1 j hl
def sl (L : List pl_P) (a b : Nat) : List pl_P := (L.drop a).take (b - a)
theorem sl_n (L : List pl_P) {a b : Nat} (h : b ≤ a) : sl L a b = [] := by
  unfold sl
  rw [show b - a = 0 by omega, List.take_zero]
theorem sl_s {L : List pl_P} {a b : Nat} (h : a ≤ b) (hb : b < L.length) : sl L a (b + 1) = sl L a b ++ [L[b]] := by
  unfold sl
  rw [show b + 1 - a = (b - a) + 1 by omega, List.take_succ_eq_append_getElem (by rw [List.length_drop]; omega)]
  congr 2
  rw [List.getElem_drop]
  congr 1
  omega
theorem sl_len {L : List pl_P} {a b : Nat} (h : b ≤ L.length) : (sl L a b).length = b - a := by
  unfold sl
  rw [List.length_take, List.length_drop]
  omega
theorem rp_at {n : Int32} {c m : Nat → Int32} {L : List pl_P} (h : rp n c m L) {j : Nat} (hj : j < L.length) : L[j] = (c j, m j) := Prod.ext (h.2 j hj).1.symm (h.2 j hj).2.symm
theorem rp_n {n n2 : Int32} {c m : Nat → Int32} {L : List pl_P} (h : rp n c m L) (h2 : n2.toInt = n.toInt) : rp n2 c m L := ⟨h2.trans h.1, h.2⟩
theorem rp_cp {n n2 : Int32} {c m c2 m2 : Nat → Int32} {L : List pl_P} (h : rp n c m L) (h2 : n2.toInt = n.toInt) (he : ∀ j : Nat, (j : Int) < n.toInt → c2 j = c j ∧ m2 j = m j) : rp n2 c2 m2 L := ⟨h2.trans h.1, fun j hj => by
  have e := he j (by have := h.1; omega)
  rw [e.1, e.2]
  exact h.2 j hj⟩
theorem rp_fr {n n2 : Int32} {c m c2 m2 : Nat → Int32} {L : List pl_P} (h : rp n c m L) (h2 : n2.toInt = n.toInt) (hc : c2 = c) (hm : m2 = m) : rp n2 c2 m2 L := by
  subst hc; subst hm
  exact rp_n h h2
def si (L : List pl_P) (a b : Int) : List pl_P := sl L a.toNat b.toNat
theorem si_len {L : List pl_P} {a b : Int} (h0 : 0 ≤ a) (h1 : a ≤ b) (h : b ≤ (L.length : Int)) : ((si L a b).length : Int) = b - a := by
  unfold si
  rw [sl_len (by omega)]
  omega
theorem si_n {L : List pl_P} {a b : Int} (h : b ≤ a) : si L a b = [] := sl_n L (by omega)
theorem si_s {n : Int32} {c m : Nat → Int32} {L : List pl_P} (h : rp n c m L) {a z : Int} (h0 : 0 ≤ a) (ha : a ≤ z) (hz : z < (L.length : Int)) : si L a (z + 1) = si L a z ++ [(c z.toNat, m z.toNat)] := by
  unfold si
  rw [show (z + 1).toNat = z.toNat + 1 by omega, sl_s (by omega) (by omega), rp_at h (by omega)]
def edn : Option (List pl_P) → Int
  | some _ => 1
  | none => 0
theorem pm_remc (x y : Int32) (k : Int) (hk : y.toInt = k) (hx : 0 ≤ x.toInt) (hy : 0 < k) : 0 ≤ (x - x / y * y).toInt ∧ (x - x / y * y).toInt < k ∧ (x - x / y * y).toInt = x.toInt % k := by
  subst hk
  exact pm_rem x y hx hy
theorem si_all (L : List pl_P) : si L 0 L.length = L := by
  unfold si sl
  simp

