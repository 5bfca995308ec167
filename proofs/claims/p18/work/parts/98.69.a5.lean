/-! how many bonds an edit touches: told by the row before it (n, c, m) and the row behind it (c2, m2) -/
def tcN (n : Int) (c m c2 m2 : Nat → Int32) : Nat → Nat
  | 0 => 0
  | k + 1 => tcN n c m c2 m2 k + if (0 ≤ nextEq m (m2 k) 0 n.toNat ∧ ¬ bo c m (nextEq m (m2 k) 0 n.toNat) = bo c2 m2 k) then 1 else 0
theorem tcN_y {n : Int} {c m c2 m2 : Nat → Int32} {k : Nat} (h : 0 ≤ nextEq m (m2 k) 0 n.toNat ∧ ¬ bo c m (nextEq m (m2 k) 0 n.toNat) = bo c2 m2 k) : tcN n c m c2 m2 (k + 1) = tcN n c m c2 m2 k + 1 := by rw [tcN, if_pos h]
theorem tcN_n {n : Int} {c m c2 m2 : Nat → Int32} {k : Nat} (h : ¬ (0 ≤ nextEq m (m2 k) 0 n.toNat ∧ ¬ bo c m (nextEq m (m2 k) 0 n.toNat) = bo c2 m2 k)) : tcN n c m c2 m2 (k + 1) = tcN n c m c2 m2 k := by rw [tcN, if_neg h, Nat.add_zero]
theorem tcN_le (n : Int) (c m c2 m2 : Nat → Int32) : ∀ k, tcN n c m c2 m2 k ≤ k
  | 0 => Nat.le_refl _
  | k + 1 => by
    have ih := tcN_le n c m c2 m2 k
    rw [tcN]
    split <;> omega
theorem tcN_eq {n : Int} {c m c2 m2 d k d2 k2 : Nat → Int32} (hc : ∀ j : Nat, (j : Int) < n → c j = d j) (hm : ∀ j : Nat, (j : Int) < n → m j = k j) : ∀ N : Nat, (∀ j, j < N → c2 j = d2 j) → (∀ j, j < N → m2 j = k2 j) → tcN n c m c2 m2 N = tcN n d k d2 k2 N
  | 0, _, _ => rfl
  | N + 1, h1, h2 => by
    have ih := tcN_eq (c2 := c2) (m2 := m2) (d2 := d2) (k2 := k2) hc hm N (fun j hj => h1 j (by omega)) (fun j hj => h2 j (by omega))
    have e1 : nextEq m (m2 N) 0 n.toNat = nextEq k (k2 N) 0 n.toNat := by rw [h2 N (by omega)]; exact nextEq_eq _ _ (fun j hj => hm j (by omega))
    have e2 : bo c2 m2 (N : Int) = bo d2 k2 (N : Int) := bo_eq (fun j hj => h1 j (by omega)) (fun j hj => h2 j (by omega)) (by omega)
    rw [tcN, tcN, ih, e1, e2]
    by_cases h0 : 0 ≤ nextEq k (k2 N) 0 n.toNat
    · have h3 := nextEq_lt k (k2 N) 0 n.toNat
      rw [bo_eq (c := c) (m := m) (d := d) (k := k) (fun j hj => hc j (by omega)) (fun j hj => hm j (by omega)) h0]
    · rw [if_neg (fun h9 => h0 h9.1), if_neg (fun h9 => h0 h9.1)]
/-- the reference keeps the row before the edit: names, bonds -/
def OB (v : Nat → Int32) (f : Nat → Nat → Int32) (n : Int) (c m : Nat → Int32) : Prop := (v 1).toInt = n ∧ ∀ k : Nat, (k : Int) < n → f 3 k = m k ∧ f 4 k = bo c m k
theorem OB_fr {v v2 : Nat → Int32} {f f2 : Nat → Nat → Int32} {n : Int} {c m : Nat → Int32} (h : OB v f n c m) (h1 : (v2 1).toInt = (v 1).toInt) (h3 : f2 3 = f 3) (h4 : f2 4 = f 4) : OB v2 f2 n c m := by
  unfold OB at *
  rw [h1, h3, h4]; exact h
theorem nextEq_0 {m : Nat → Int32} {x : Int32} : ∀ (n k j : Nat), k ≤ j → j < k + n → m j = x → (∀ i, k ≤ i → i < j → ¬ m i = x) → nextEq m x k n = (j : Int)
  | 0, _, _, h1, h2, _, _ => by omega
  | n + 1, k, j, h1, h2, h3, h4 => by
    show (if m k = x then (k : Int) else nextEq m x (k + 1) n) = _
    by_cases e : j = k
    · subst e; rw [if_pos h3]
    · rw [if_neg (h4 k (Nat.le_refl _) (by omega))]
      exact nextEq_0 n (k + 1) j (by omega) (by omega) h3 (fun i hi hj => h4 i (by omega) hj)
theorem nextEq_m {m : Nat → Int32} {x : Int32} : ∀ (n k : Nat), (∀ i, k ≤ i → i < k + n → ¬ m i = x) → nextEq m x k n = -1
  | 0, _, _ => rfl
  | n + 1, k, h => by
    show (if m k = x then (k : Int) else nextEq m x (k + 1) n) = _
    rw [if_neg (h k (Nat.le_refl _) (by omega))]
    exact nextEq_m n (k + 1) (fun i hi hj => h i (by omega) (by omega))
/-- names are told apart, none below 0 -/
def UQ (n : Int) (m : Nat → Int32) : Prop := (∀ i j : Nat, (i : Int) < n → (j : Int) < n → m i = m j → i = j) ∧ ∀ i : Nat, (i : Int) < n → 0 ≤ (m i).toInt
theorem UQ_n {n : Int} {m : Nat → Int32} (h : UQ n m) {p : Int} (hp : 0 ≤ p ∧ p < n) : nextEq m (m p.toNat) 0 n.toNat = p := by
  rw [nextEq_0 n.toNat 0 p.toNat (by omega) (by omega) rfl (fun i hi hj e => by have := h.1 i p.toNat (by omega) (by omega) e; omega)]
  omega
/-- the bond that a name had: -2 where it was not there -/
def tcb (n : Int) (c m : Nat → Int32) (x : Int32) : Int32 := if 0 ≤ nextEq m x 0 n.toNat then bo c m (nextEq m x 0 n.toNat) else -2
theorem tcb_y {n : Int} {c m : Nat → Int32} (h : UQ n m) {p : Int} (hp : 0 ≤ p ∧ p < n) {r : Int32} (hr : r = bo c m p) : r = tcb n c m (m p.toNat) := by
  unfold tcb; rw [UQ_n h hp, if_pos hp.1]; exact hr
theorem tcb_n {n : Int} {c m : Nat → Int32} {x : Int32} (h : ∀ i : Nat, (i : Int) < n → ¬ m i = x) : tcb n c m x = -2 := by
  unfold tcb; rw [nextEq_m n.toNat 0 (fun i _ hi => h i (by omega))]; rfl
theorem bo_ge {n : Int} {c m : Nat → Int32} (h : UQ n m) {p : Int} (hp : 0 ≤ p ∧ p < n) : ¬ bo c m p = -2 := by
  have h1 := lastEq_lt c (c p.toNat) p.toNat
  intro e
  by_cases h0 : 0 ≤ lastEq c (c p.toNat) p.toNat
  · unfold bo at e
    rw [nmA_y (by omega)] at e
    have h2 := h.2 (lastEq c (c p.toNat) p.toNat).toNat (by omega)
    rw [e] at h2
    exact absurd h2 (by decide)
  · rw [bo_n (by omega)] at e
    exact absurd e (by decide)
theorem tcb_2 {n : Int} {c m : Nat → Int32} {x : Int32} (h : UQ n m) : (tcb n c m x = -2) ↔ ¬ 0 ≤ nextEq m x 0 n.toNat := by
  unfold tcb
  by_cases h0 : 0 ≤ nextEq m x 0 n.toNat
  · rw [if_pos h0]
    have h1 := nextEq_lt m x 0 n.toNat
    exact ⟨fun e => absurd e (bo_ge h ⟨h0, by omega⟩), fun e => absurd h0 e⟩
  · rw [if_neg h0]; exact ⟨fun _ => h0, fun _ => rfl⟩
theorem tcN_b {n : Int} {c m c2 m2 : Nat → Int32} (h : UQ n m) {k : Nat} {b r : Int32} (hb : b = tcb n c m (m2 k)) (hr : r = bo c2 m2 (k : Int)) : tcN n c m c2 m2 (k + 1) = tcN n c m c2 m2 k + if ¬ b = -2 ∧ ¬ b = r then 1 else 0 := by
  have h2 := tcb_2 (c := c) (x := m2 k) h
  subst hb hr
  by_cases h0 : 0 ≤ nextEq m (m2 k) 0 n.toNat
  · have e1 : tcb n c m (m2 k) = bo c m (nextEq m (m2 k) 0 n.toNat) := if_pos h0
    have h3 : ¬ tcb n c m (m2 k) = -2 := fun e => h2.mp e h0
    by_cases h4 : bo c m (nextEq m (m2 k) 0 n.toNat) = bo c2 m2 k
    · rw [tcN_n (fun h9 => h9.2 h4), if_neg (fun h9 => h9.2 (by rw [e1]; exact h4)), Nat.add_zero]
    · rw [tcN_y ⟨h0, h4⟩, if_pos ⟨h3, by rw [e1]; exact h4⟩]
  · rw [tcN_n (fun h9 => h0 h9.1), if_neg (fun h9 => h9.1 (h2.mpr h0)), Nat.add_zero]
