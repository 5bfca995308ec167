/-! the first, the last place that has something; spans taken from their ends -/
def FIR (P : Int → Prop) (a b x : Int) : Prop := (x = -1 ∧ ∀ r, a ≤ r → r < b → ¬ P r) ∨ (a ≤ x ∧ x < b ∧ P x ∧ ∀ r, a ≤ r → r < x → ¬ P r)
theorem FIR_u {P Q : Int → Prop} {a b x y : Int} (h : ∀ r, a ≤ r → r < b → (P r ↔ Q r)) (h1 : FIR P a b x) (h2 : FIR Q a b y) : x = y := by
  rcases h1 with ⟨p1, p2⟩ | ⟨p1, p2, p3, p4⟩
  · rcases h2 with ⟨q1, q2⟩ | ⟨q1, q2, q3, q4⟩
    · omega
    · exact absurd ((h y q1 q2).mpr q3) (p2 y q1 q2)
  · rcases h2 with ⟨q1, q2⟩ | ⟨q1, q2, q3, q4⟩
    · exact absurd ((h x p1 p2).mp p3) (q2 x p1 p2)
    · by_cases e : x < y
      · exact absurd ((h x p1 p2).mp p3) (q4 x p1 e)
      · by_cases e2 : y < x
        · exact absurd ((h y q1 q2).mpr q3) (p4 y q1 e2)
        · omega
def LIR (P : Int → Prop) (b x : Int) : Prop := (x = -1 ∧ ∀ l, 0 ≤ l → l ≤ b → ¬ P l) ∨ (0 ≤ x ∧ x ≤ b ∧ P x ∧ ∀ l, x < l → l ≤ b → ¬ P l)
theorem LIR_u {P Q : Int → Prop} {b x y : Int} (h : ∀ l, 0 ≤ l → l ≤ b → (P l ↔ Q l)) (h1 : LIR P b x) (h2 : LIR Q b y) : x = y := by
  rcases h1 with ⟨p1, p2⟩ | ⟨p1, p2, p3, p4⟩
  · rcases h2 with ⟨q1, q2⟩ | ⟨q1, q2, q3, q4⟩
    · omega
    · exact absurd ((h y q1 q2).mpr q3) (p2 y q1 q2)
  · rcases h2 with ⟨q1, q2⟩ | ⟨q1, q2, q3, q4⟩
    · exact absurd ((h x p1 p2).mp p3) (q2 x p1 p2)
    · by_cases e : x < y
      · exact absurd ((h y q1 q2).mpr q3) (p4 y e q2)
      · by_cases e2 : y < x
        · exact absurd ((h x p1 p2).mp p3) (q4 x e2 p2)
        · omega
theorem upN_c (N : Nat → Nat) (a b : Nat) : upN (upN N a) b = upN (upN N b) a := by
  funext x
  unfold upN
  by_cases h1 : x = a
  · by_cases h2 : x = b
    · simp only [if_pos h1, if_pos h2]
    · simp only [if_pos h1, if_neg h2]
  · by_cases h2 : x = b
    · simp only [if_neg h1, if_pos h2]
    · simp only [if_neg h1, if_neg h2]
theorem nc_front {c : Nat → Int32} {l : Nat} : ∀ k, nc c l (k + 1) = upN (nc c (l + 1) k) (c l).toInt.toNat
  | 0 => rfl
  | k + 1 => by
    have ih := nc_front (c := c) (l := l) k
    show upN (nc c l (k + 1)) (c (l + (k + 1))).toInt.toNat = upN (upN (nc c (l + 1) k) (c (l + 1 + k)).toInt.toNat) (c l).toInt.toNat
    rw [ih, upN_c, show l + (k + 1) = l + 1 + k by omega]
def RCH (c : Nat → Int32) (n l k x : Int) : Prop := (¬ ((0 ≤ l ∧ l < n) ∧ 1 ≤ k) ∧ x = -1) ∨ (((0 ≤ l ∧ l < n) ∧ 1 ≤ k) ∧ FIR (fun r => k ≤ (cntB (sS c l r) 24 : Int)) l n x)
theorem RCH_u {c d : Nat → Int32} {n l k x y : Int} (hc : ∀ j : Nat, (j : Int) < n → c j = d j) (h1 : RCH c n l k x) (h2 : RCH d n l k y) : x = y := by
  rcases h1 with ⟨p1, p2⟩ | ⟨p1, p2⟩
  · rcases h2 with ⟨q1, q2⟩ | ⟨q1, q2⟩
    · omega
    · exact absurd q1 p1
  · rcases h2 with ⟨q1, q2⟩ | ⟨q1, q2⟩
    · exact absurd p1 q1
    · exact FIR_u (fun r h3 h4 => by rw [sS_eq hc ⟨p1.1.1, h4⟩]) p2 q2
def LOD (c W : Nat → Int32) (n l k x : Int) : Prop := (¬ ((0 ≤ l ∧ l < n) ∧ 1 ≤ k) ∧ x = -1) ∨ (((0 ≤ l ∧ l < n) ∧ 1 ≤ k) ∧ FIR (fun r => k ≤ (msB W (sS c l r) 24).toInt) l n x)
theorem LOD_u {c d W V : Nat → Int32} {n l k x y : Int} (hc : ∀ j : Nat, (j : Int) < n → c j = d j) (hw : ∀ j, j < 24 → W j = V j) (h1 : LOD c W n l k x) (h2 : LOD d V n l k y) : x = y := by
  rcases h1 with ⟨p1, p2⟩ | ⟨p1, p2⟩
  · rcases h2 with ⟨q1, q2⟩ | ⟨q1, q2⟩
    · omega
    · exact absurd q1 p1
  · rcases h2 with ⟨q1, q2⟩ | ⟨q1, q2⟩
    · exact absurd p1 q1
    · exact FIR_u (fun r h3 h4 => by rw [sS_eq hc ⟨p1.1.1, h4⟩, msB_eq 24 hw]) p2 q2
def RBK (c : Nat → Int32) (n r k x : Int) : Prop := (¬ ((0 ≤ r ∧ r < n) ∧ 1 ≤ k) ∧ x = -1) ∨ (((0 ≤ r ∧ r < n) ∧ 1 ≤ k) ∧ LIR (fun l => k ≤ (cntB (sS c l r) 24 : Int)) r x)
theorem RBK_u {c d : Nat → Int32} {n r k x y : Int} (hc : ∀ j : Nat, (j : Int) < n → c j = d j) (h1 : RBK c n r k x) (h2 : RBK d n r k y) : x = y := by
  rcases h1 with ⟨p1, p2⟩ | ⟨p1, p2⟩
  · rcases h2 with ⟨q1, q2⟩ | ⟨q1, q2⟩
    · omega
    · exact absurd q1 p1
  · rcases h2 with ⟨q1, q2⟩ | ⟨q1, q2⟩
    · exact absurd p1 q1
    · exact LIR_u (fun l h3 h4 => by rw [sS_eq hc ⟨h3, p1.1.2⟩]) p2 q2
