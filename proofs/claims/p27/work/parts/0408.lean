
def bf (s : Int32) (j : Nat) : Int32 := if bt s j = true then 1 else 0
theorem bf_1 {s : Int32} {j : Nat} : bf s j = 1 ↔ bt s j = true := by
  unfold bf
  by_cases h : bt s j = true
  · rw [if_pos h]; exact ⟨fun _ => h, fun _ => rfl⟩
  · rw [if_neg h]; exact ⟨fun e => absurd e (by decide), fun e => absurd e h⟩
theorem bf_0 {s : Int32} {j : Nat} : bf s j = 0 ↔ ¬ bt s j = true := by
  unfold bf
  by_cases h : bt s j = true
  · rw [if_pos h]; exact ⟨fun e => absurd e (by decide), fun e => absurd h e⟩
  · rw [if_neg h]; exact ⟨fun _ => h, fun _ => rfl⟩
theorem an_1 {s c : Int32} (h : 0 ≤ c.toInt ∧ c.toInt ≤ 31) : s &&& ((1 : Int32) <<< (c &&& 31)) = 0 ↔ bt s c.toInt.toNat = false := by
  constructor
  · intro e
    have h1 := b_and s ((1 : Int32) <<< (c &&& 31)) c.toInt.toNat
    rw [e, b_0, b_one h (by omega), decide_eq_true rfl, Bool.and_true] at h1
    exact h1.symm
  · intro e
    refine b_ext (fun i hi => ?_)
    rw [b_and, b_one h hi, b_0]
    by_cases q : i = c.toInt.toNat
    · rw [q, e]; rfl
    · rw [decide_eq_false q, Bool.and_false]
theorem cn_cv {c d : Nat → Int32} {x y : Int32} : ∀ n, (∀ j, j < n → (c j = x ↔ d j = y)) → cn c x n = cn d y n
  | 0, _ => rfl
  | n + 1, h => by
    have ih := cn_cv n (fun j hj => h j (by omega))
    by_cases q : c n = x
    · rw [cn_y q, cn_y ((h n (by omega)).mp q), ih]
    · rw [cn_n q, cn_n (fun e => q ((h n (by omega)).mpr e)), ih]
theorem NTH_cv {c d : Nat → Int32} {x y : Int32} {n k r : Int} (h : ∀ j : Nat, (j : Int) < n → (c j = x ↔ d j = y)) (q : NTH c n x k r) : NTH d n y k r := by
  rcases q with ⟨q1, q2⟩ | ⟨q1, q2, q3, q4⟩
  · refine Or.inl ⟨q1, fun i hi e => q2 i hi ⟨(h i hi).mpr e.1, ?_⟩⟩
    rw [cn_cv i (fun j hj => h j (by omega))]; exact e.2
  · refine Or.inr ⟨q1, q2, (h r.toNat (by omega)).mp q3, ?_⟩
    rw [← cn_cv r.toNat (fun j hj => h j (by omega))]; exact q4
theorem b_not (x : Int32) {i : Nat} (hi : i < 32) : bt (x ^^^ (-1)) i = !(bt x i) := by
  rw [b_xor, b_m1 i hi]
  cases bt x i <;> rfl
theorem b_all : ∀ i, i < 24 → bt 16777215 i = true := by decide +kernel
def ABS (c : Nat → Int32) (n l r k x : Int) : Prop := (¬ ((0 ≤ l ∧ l ≤ r ∧ r < n) ∧ 0 ≤ k) ∧ x = -1) ∨ ((0 ≤ l ∧ l ≤ r ∧ r < n) ∧ 0 ≤ k ∧ NTH (bf (sS c l r)) 24 0 k x)
theorem ABS_u {c d : Nat → Int32} {n l r k x y : Int} (hc : ∀ j : Nat, (j : Int) < n → c j = d j) (h1 : ABS c n l r k x) (h2 : ABS d n l r k y) : x = y := by
  rcases h1 with ⟨p1, p2⟩ | ⟨p1, p2, p3⟩
  · rcases h2 with ⟨q1, q2⟩ | ⟨q1, q2, q3⟩
    · omega
    · exact absurd ⟨q1, q2⟩ p1
  · rcases h2 with ⟨q1, q2⟩ | ⟨q1, q2, q3⟩
    · exact absurd ⟨p1, p2⟩ q1
    · rw [← sS_eq hc ⟨p1.1, p1.2.2⟩] at q3
      exact NTH_u (fun _ _ => rfl) p3 q3
theorem bn1 {s c : Int32} (h : 0 ≤ c.toInt ∧ c.toInt ≤ 31) (e : s &&& ((1 : Int32) <<< (c &&& 31)) = 0) : ¬ bf s c.toInt.toNat = 1 := fun q => by
  have h1 := (an_1 h).mp e
  rw [bf_1.mp q] at h1
  exact absurd h1 (by decide)
theorem by1 {s c : Int32} (h : 0 ≤ c.toInt ∧ c.toInt ≤ 31) (e : ¬ s &&& ((1 : Int32) <<< (c &&& 31)) = 0) : bf s c.toInt.toNat = 1 := by
  refine bf_1.mpr ?_
  cases q : bt s c.toInt.toNat with
  | true => rfl
  | false => exact absurd ((an_1 h).mpr q) e
theorem AB_c {s : Int32} : ∀ j : Nat, (j : Int) < 24 → (bf (16777215 &&& (s ^^^ (-1))) j = 1 ↔ bf s j = 0) := fun j hj => by
  rw [bf_1, bf_0, b_and, b_all j (by omega), b_not s (by omega), Bool.true_and]
  cases bt s j <;> simp
theorem NTH_neg {c : Nat → Int32} {x : Int32} {n k r : Int} (h : NTH c n x k r) (hk : k < 0) : r = -1 := by
  rcases h with h | h
  · exact h.1
  · have := h.2.2.2; omega

