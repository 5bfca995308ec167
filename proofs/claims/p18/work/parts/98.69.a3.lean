/-! the longest span without two alike -/
def DS (c : Nat → Int32) (l r : Int) : Prop := ∀ p : Nat, l < (p : Int) → (p : Int) ≤ r → lastEq c (c p) p < l
theorem DS_1 (c : Nat → Int32) (l : Int) : DS c l l := fun p h1 h2 => by omega
theorem DS_s {c : Nat → Int32} {l r y : Int} (h : DS c l r) (hy : y = lastEq c (c (r + 1).toNat) (r + 1).toNat) (hl : y < l) : DS c l (r + 1) := fun p h1 h2 => by
  by_cases e : (p : Int) = r + 1
  · rw [show (r + 1).toNat = p by omega] at hy; omega
  · exact h p h1 (by omega)
theorem DS_eq {c d : Nat → Int32} {n l r : Int} (hc : ∀ j : Nat, (j : Int) < n → c j = d j) (hr : r < n) (h : DS c l r) : DS d l r := fun p h1 h2 => by
  have h3 := h p h1 h2
  rw [hc p (by omega), lastEq_eq p (fun j hj => hc j (by omega))] at h3
  exact h3
def UR (c : Nat → Int32) (n k a b : Int) : Prop := ∀ l r : Int, 0 ≤ l → l ≤ r → r < n → l < k → DS c l r → r - l ≤ b - a ∧ (r - l = b - a → a ≤ l)
theorem UR_up {c : Nat → Int32} {n k a b m : Int} (h : UR c n k a b) (hm : ∀ r, r < n → DS c k r → r ≤ m) (hg : b - a < m - k) : UR c n (k + 1) k m := fun l r h0 h1 h2 h3 h4 => by
  by_cases e : l = k
  · subst e
    have := hm r h2 h4
    omega
  · have := h l r h0 h1 h2 (by omega) h4
    omega
theorem UR_ke {c : Nat → Int32} {n k a b m : Int} (h : UR c n k a b) (hm : ∀ r, r < n → DS c k r → r ≤ m) (hg : ¬ b - a < m - k) (ha : a ≤ k) : UR c n (k + 1) a b := fun l r h0 h1 h2 h3 h4 => by
  by_cases e : l = k
  · subst e
    have := hm r h2 h4
    omega
  · exact h l r h0 h1 h2 (by omega) h4
theorem UR_mx {c : Nat → Int32} {n k m : Int} (hk : 0 ≤ k ∧ k ≤ m) (h : n ≤ m + 1 ∨ k ≤ lastEq c (c (m + 1).toNat) (m + 1).toNat) : ∀ r, r < n → DS c k r → r ≤ m := fun r h1 h2 => by
  by_cases e : r ≤ m
  · exact e
  · have h3 := h2 (m + 1).toNat (by omega) (by omega)
    omega
def UF (c : Nat → Int32) (n a b : Int) : Prop := (0 ≤ a ∧ a ≤ b ∧ b < n) ∧ DS c a b ∧ ∀ l r : Int, 0 ≤ l → l ≤ r → r < n → DS c l r → r - l ≤ b - a ∧ (r - l = b - a → a ≤ l)
theorem UF_u {c d : Nat → Int32} {n a b a2 b2 : Int} (hc : ∀ j : Nat, (j : Int) < n → c j = d j) (h1 : UF c n a b) (h2 : UF d n a2 b2) : a = a2 ∧ b = b2 := by
  have q1 := h1.2.2 a2 b2 (by have := h2.1; omega) (by have := h2.1; omega) (by have := h2.1; omega) (DS_eq (fun j hj => (hc j hj).symm) (by have := h2.1; omega) h2.2.1)
  have q2 := h2.2.2 a b (by have := h1.1; omega) (by have := h1.1; omega) (by have := h1.1; omega) (DS_eq hc (by have := h1.1; omega) h1.2.1)
  omega
theorem UF_R {c : Nat → Int32} {n a b : Int} (h0 : 0 ≤ a ∧ a ≤ b ∧ b < n) (h1 : DS c a b) (h2 : UR c n n a b) : UF c n a b := ⟨h0, h1, fun l r q0 q1 q2 q3 => h2 l r q0 q1 q2 (by omega) q3⟩
def ML (c : Nat → Int32) (k l : Int) : Prop := (∀ p : Nat, (p : Int) < k → lastEq c (c p) p < l) ∧ ∀ z : Int, 0 ≤ z → (∀ p : Nat, (p : Int) < k → lastEq c (c p) p < z) → l ≤ z
theorem ML_0 (c : Nat → Int32) : ML c 0 0 := ⟨fun p h => by omega, fun z h _ => h⟩
theorem ML_s {c : Nat → Int32} {k l a m : Int} (hk : 0 ≤ k) (h : ML c k l) (ha : a = lastEq c (c k.toNat) k.toNat) (hm : (a + 1 ≤ l ∧ m = l) ∨ (l < a + 1 ∧ m = a + 1)) : ML c (k + 1) m := by
  refine ⟨fun p hp => ?_, fun z h0 hz => ?_⟩
  · by_cases e : (p : Int) = k
    · rw [show k.toNat = p by omega] at ha; omega
    · have := h.1 p (by omega); omega
  · have q1 := h.2 z h0 (fun p hp => hz p (by omega))
    have q2 := hz k.toNat (by omega)
    omega
theorem ML_ds {c : Nat → Int32} {k l z : Int} (h : ML c (k + 1) l) (h0 : 0 ≤ z) (hd : DS c z k) : l ≤ z := h.2 z h0 (fun p hp => by
  by_cases e : z < (p : Int)
  · exact hd p e (by omega)
  · have := lastEq_lt c (c p) p; omega)
theorem UF_new {c : Nat → Int32} {k l : Int} (h0 : 0 ≤ l ∧ l ≤ k) (h : ML c (k + 1) l) (hb : k = 0 ∨ ∃ a b, UF c k a b ∧ b - a < k - l) : UF c (k + 1) l k := by
  refine ⟨by omega, fun p h1 h2 => h.1 p (by omega), fun z r q0 q1 q2 q3 => ?_⟩
  by_cases e : r = k
  · subst e
    have := ML_ds h q0 q3
    omega
  · rcases hb with hb | ⟨a, b, hb, hg⟩
    · omega
    · have := hb.2.2 z r q0 q1 (by omega) q3
      omega
theorem UF_old {c : Nat → Int32} {k l a b : Int} (h : ML c (k + 1) l) (hb : UF c k a b) (hg : ¬ b - a < k - l) : UF c (k + 1) a b := by
  have hb1 := hb.1
  refine ⟨by omega, hb.2.1, fun z r q0 q1 q2 q3 => ?_⟩
  by_cases e : r = k
  · subst e
    have := ML_ds h q0 q3
    omega
  · exact hb.2.2 z r q0 q1 (by omega) q3
def UNL (c : Nat → Int32) (n t x : Int) : Prop := ((n ≤ 0 ∨ ¬ (0 ≤ t ∧ t ≤ 1)) ∧ x = -1) ∨ (0 < n ∧ ∃ a b, UF c n a b ∧ ((t = 0 ∧ x = a) ∨ (t = 1 ∧ x = b)))
theorem UNL_u {c d : Nat → Int32} {n t x y : Int} (hc : ∀ j : Nat, (j : Int) < n → c j = d j) (h1 : UNL c n t x) (h2 : UNL d n t y) : x = y := by
  rcases h1 with ⟨p1, p2⟩ | ⟨p1, a, b, p2, p3⟩
  · rcases h2 with ⟨q1, q2⟩ | ⟨q1, a2, b2, q2, q3⟩ <;> omega
  · rcases h2 with ⟨q1, q2⟩ | ⟨q1, a2, b2, q2, q3⟩
    · omega
    · have := UF_u hc p2 q2
      omega
