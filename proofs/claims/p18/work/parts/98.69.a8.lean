/-! colours by their bits: the k-th, those with more than a part -/
theorem lc_le (x y : Int64) : (lg_cmp x y).toInt ≤ 0 ↔ x.toInt ≤ y.toInt := by
  unfold lg_cmp
  by_cases h : x > y
  · rw [if_pos h]
    have h1 := Int64.lt_iff_toInt_lt.mp h
    have k1 : (1 : Int32).toInt = 1 := rfl
    omega
  · rw [if_neg h]
    have h1 : ¬ y.toInt < x.toInt := fun h2 => h (Int64.lt_iff_toInt_lt.mpr h2)
    by_cases h2 : x = y
    · rw [if_pos h2]
      have k0 : (0 : Int32).toInt = 0 := rfl
      omega
    · rw [if_neg h2]
      have km : (-1 : Int32).toInt = -1 := rfl
      omega
theorem lm_ok {a b : Int32} (ha : 0 ≤ a.toInt ∧ a.toInt ≤ 1000) (hb : 0 ≤ b.toInt) : (a.toInt64 * b.toInt64).toInt = a.toInt * b.toInt := by
  have hr := pm_rng b
  have h1 := Int.mul_nonneg ha.1 hb
  have h2 : a.toInt * b.toInt ≤ 1000 * b.toInt := Int.mul_le_mul_of_nonneg_right ha.2 hb
  rw [Int64.toInt_mul, Int32.toInt_toInt64, Int32.toInt_toInt64]
  exact Int.bmod_eq_of_le (by omega) (by omega)
theorem lp_ok {a b c : Int32} (ha : 0 ≤ a.toInt ∧ a.toInt ≤ 1000) (hb : 0 ≤ b.toInt) : (lg_cmp (a.toInt64 * b.toInt64) c.toInt64).toInt ≤ 0 ↔ a.toInt * b.toInt ≤ c.toInt := by
  rw [lc_le, lm_ok ha hb, Int32.toInt_toInt64]
def bf (s : Int32) (j : Nat) : Int32 := if bt s j = true then 1 else 0
theorem bf_1 {s : Int32} {j : Nat} : bf s j = 1 ↔ bt s j = true := by
  unfold bf
  by_cases h : bt s j = true
  · rw [if_pos h]; exact ⟨fun _ => h, fun _ => rfl⟩
  · rw [if_neg h]; exact ⟨fun e => absurd e (by decide), fun e => absurd e h⟩
theorem bf_0 {s : Int32} {j : Nat} : bf s j = 0 ↔ ¬ bt s j = true := by
  unfold bf
  by_cases h : bt s j = true
  · rw [if_pos h]; exact ⟨fun e => absurd e (by decide), fun e => absurd h e⟩
  · rw [if_neg h]; exact ⟨fun _ => h, fun _ => rfl⟩
theorem an_1 {s c : Int32} (h : 0 ≤ c.toInt ∧ c.toInt ≤ 31) : s &&& ((1 : Int32) <<< (c &&& 31)) = 0 ↔ bt s c.toInt.toNat = false := by
  constructor
  · intro e
    have h1 := b_and s ((1 : Int32) <<< (c &&& 31)) c.toInt.toNat
    rw [e, b_0, b_one h (by omega), decide_eq_true rfl, Bool.and_true] at h1
    exact h1.symm
  · intro e
    refine b_ext (fun i hi => ?_)
    rw [b_and, b_one h hi, b_0]
    by_cases q : i = c.toInt.toNat
    · rw [q, e]; rfl
    · rw [decide_eq_false q, Bool.and_false]
theorem cn_cv {c d : Nat → Int32} {x y : Int32} : ∀ n, (∀ j, j < n → (c j = x ↔ d j = y)) → cn c x n = cn d y n
  | 0, _ => rfl
  | n + 1, h => by
    have ih := cn_cv n (fun j hj => h j (by omega))
    by_cases q : c n = x
    · rw [cn_y q, cn_y ((h n (by omega)).mp q), ih]
    · rw [cn_n q, cn_n (fun e => q ((h n (by omega)).mpr e)), ih]
theorem NTH_cv {c d : Nat → Int32} {x y : Int32} {n k r : Int} (h : ∀ j : Nat, (j : Int) < n → (c j = x ↔ d j = y)) (q : NTH c n x k r) : NTH d n y k r := by
  rcases q with ⟨q1, q2⟩ | ⟨q1, q2, q3, q4⟩
  · refine Or.inl ⟨q1, fun i hi e => q2 i hi ⟨(h i hi).mpr e.1, ?_⟩⟩
    rw [cn_cv i (fun j hj => h j (by omega))]; exact e.2
  · refine Or.inr ⟨q1, q2, (h r.toNat (by omega)).mp q3, ?_⟩
    rw [← cn_cv r.toNat (fun j hj => h j (by omega))]; exact q4
theorem b_not (x : Int32) {i : Nat} (hi : i < 32) : bt (x ^^^ (-1)) i = !(bt x i) := by
  rw [b_xor, b_m1 i hi]
  cases bt x i <;> rfl
theorem b_all : ∀ i, i < 24 → bt 16777215 i = true := by decide +kernel
def ABS (c : Nat → Int32) (n l r k x : Int) : Prop := (¬ ((0 ≤ l ∧ l ≤ r ∧ r < n) ∧ 0 ≤ k) ∧ x = -1) ∨ ((0 ≤ l ∧ l ≤ r ∧ r < n) ∧ 0 ≤ k ∧ NTH (bf (sS c l r)) 24 0 k x)
theorem ABS_u {c d : Nat → Int32} {n l r k x y : Int} (hc : ∀ j : Nat, (j : Int) < n → c j = d j) (h1 : ABS c n l r k x) (h2 : ABS d n l r k y) : x = y := by
  rcases h1 with ⟨p1, p2⟩ | ⟨p1, p2, p3⟩
  · rcases h2 with ⟨q1, q2⟩ | ⟨q1, q2, q3⟩
    · omega
    · exact absurd ⟨q1, q2⟩ p1
  · rcases h2 with ⟨q1, q2⟩ | ⟨q1, q2, q3⟩
    · exact absurd ⟨p1, p2⟩ q1
    · rw [← sS_eq hc ⟨p1.1, p1.2.2⟩] at q3
      exact NTH_u (fun _ _ => rfl) p3 q3
def frB (N : Nat → Nat) (m len : Int) : Nat → Int32
  | 0 => 0
  | k + 1 => frB N m len k ||| (if len < (N k : Int) * m then (1 : Int32) <<< (Int32.ofInt (k : Int) &&& 31) else 0)
theorem or_z (x : Int32) : x ||| 0 = x := b_ext (fun i _ => by rw [b_or, b_0, Bool.or_false])
theorem frB_y {N : Nat → Nat} {m len : Int} {z : Int32} (h0 : 0 ≤ z.toInt) (h : len < (N z.toInt.toNat : Int) * m) : frB N m len (z.toInt.toNat + 1) = frB N m len z.toInt.toNat ||| ((1 : Int32) <<< (z &&& 31)) := by
  rw [frB, if_pos h, show ((z.toInt.toNat : Nat) : Int) = z.toInt by omega, Int32.ofInt_toInt]
theorem frB_n {N : Nat → Nat} {m len : Int} {k : Nat} (h : ¬ len < (N k : Int) * m) : frB N m len (k + 1) = frB N m len k := by rw [frB, if_neg h, or_z]
theorem frB_b {N : Nat → Nat} {m len : Int} {i : Nat} : ∀ k, k ≤ 31 → i < 32 → bt (frB N m len k) i = decide (i < k ∧ len < (N i : Int) * m)
  | 0, _, _ => by show bt 0 i = _; rw [b_0, decide_eq_false (by omega)]
  | k + 1, hk, hi => by
    have ih := frB_b (N := N) (m := m) (len := len) (i := i) k (by omega) hi
    obtain ⟨z, hz⟩ : ∃ z : Int32, z.toInt = (k : Int) := ⟨Int32.ofInt (k : Int), by rw [Int32.toInt_ofInt, show Int32.size = 4294967296 from rfl]; exact Int.bmod_eq_of_le (by omega) (by omega)⟩
    have ek : k = z.toInt.toNat := by omega
    by_cases h : len < (N k : Int) * m
    · rw [ek, frB_y (by omega) (by rw [← ek]; exact h), b_or, b_one (by omega) hi, ← ek, ih]
      by_cases e : i = k
      · subst e; rw [decide_eq_true rfl, Bool.or_true, decide_eq_true ⟨by omega, h⟩]
      · rw [decide_eq_false e, Bool.or_false]
        congr 1
        apply propext
        constructor
        · exact fun q => ⟨by omega, q.2⟩
        · exact fun q => ⟨by omega, q.2⟩
    · rw [frB_n h, ih]
      congr 1
      apply propext
      constructor
      · exact fun q => ⟨by omega, q.2⟩
      · intro q
        refine ⟨?_, q.2⟩
        by_cases e : i = k
        · subst e; exact absurd q.2 h
        · omega
def FAI (c : Nat → Int32) (n l r m : Int) : Int32 := if (0 ≤ l ∧ l ≤ r ∧ r < n) ∧ 1 ≤ m then frB (nS c l r) m (r + 1 - l) 24 else -1
theorem FAI_y {c : Nat → Int32} {n l r m : Int} (h : (0 ≤ l ∧ l ≤ r ∧ r < n) ∧ 1 ≤ m) : FAI c n l r m = frB (nS c l r) m (r + 1 - l) 24 := if_pos h
theorem FAI_n {c : Nat → Int32} {n l r m : Int} (h : ¬ ((0 ≤ l ∧ l ≤ r ∧ r < n) ∧ 1 ≤ m)) : FAI c n l r m = -1 := if_neg h
theorem FAI_eq {c d : Nat → Int32} {n l r m : Int} (hc : ∀ j : Nat, (j : Int) < n → c j = d j) : FAI c n l r m = FAI d n l r m := by
  by_cases h : (0 ≤ l ∧ l ≤ r ∧ r < n) ∧ 1 ≤ m
  · rw [FAI_y h, FAI_y h, nS_eq hc ⟨h.1.1, h.1.2.2⟩]
  · rw [FAI_n h, FAI_n h]
def MAJ (c : Nat → Int32) (n l r x : Int) : Prop := (¬ (0 ≤ l ∧ l ≤ r ∧ r < n) ∧ x = -1) ∨ ((0 ≤ l ∧ l ≤ r ∧ r < n) ∧ FIR (fun k => r + 1 - l < (nS c l r k.toNat : Int) * 2) 0 24 x)
theorem MAJ_u {c d : Nat → Int32} {n l r x y : Int} (hc : ∀ j : Nat, (j : Int) < n → c j = d j) (h1 : MAJ c n l r x) (h2 : MAJ d n l r y) : x = y := by
  rcases h1 with ⟨p1, p2⟩ | ⟨p1, p2⟩
  · rcases h2 with ⟨q1, q2⟩ | ⟨q1, q2⟩
    · omega
    · exact absurd q1 p1
  · rcases h2 with ⟨q1, q2⟩ | ⟨q1, q2⟩
    · exact absurd p1 q1
    · exact FIR_u (fun k _ _ => by rw [nS_eq hc ⟨p1.1, p1.2.2⟩]) p2 q2
theorem NTH_F {s : Int32} {P : Int → Prop} {x : Int} (h : ∀ j : Nat, j < 24 → (bt s j = true ↔ P (j : Int))) (q : NTH (bf s) 24 1 0 x) : FIR P 0 24 x := by
  have key : ∀ i : Nat, i ≤ 24 → (∀ j, j < i → ¬ bf s j = 1) → cn (bf s) 1 i = 0 := by
    intro i
    induction i with
    | zero => intro _ _; rfl
    | succ i ih => intro hi hn; rw [cn_n (hn i (by omega))]; exact ih (by omega) (fun j hj => hn j (by omega))
  have none : ∀ i : Nat, i ≤ 24 → cn (bf s) 1 i = 0 → ∀ j, j < i → ¬ bf s j = 1 := fun i hi h0 j hj e => by
    have h1 : cn (bf s) 1 (j + 1) = cn (bf s) 1 j + 1 := cn_y e
    have h2 := cn_m (bf s) 1 (j + 1) i (by omega)
    omega
  rcases q with ⟨q1, q2⟩ | ⟨q1, q2, q3, q4⟩
  · refine Or.inl ⟨q1, fun r h1 h2 hp => ?_⟩
    have all : ∀ i : Nat, i ≤ 24 → cn (bf s) 1 i = 0 := by
      intro i
      induction i with
      | zero => intro _; rfl
      | succ i ih =>
        intro hi
        have h0 := ih (by omega)
        have h3 : ¬ bf s i = 1 := fun e => q2 i (by omega) ⟨e, by omega⟩
        rw [cn_n h3]; exact h0
    exact none 24 (Nat.le_refl _) (all 24 (Nat.le_refl _)) r.toNat (by omega) (bf_1.mpr ((h r.toNat (by omega)).mpr (by rw [show ((r.toNat : Nat) : Int) = r by omega]; exact hp)))
  · refine Or.inr ⟨q1, q2, ?_, fun r h1 h2 hp => ?_⟩
    · have := (h x.toNat (by omega)).mp (bf_1.mp q3)
      rwa [show ((x.toNat : Nat) : Int) = x by omega] at this
    · exact none x.toNat (by omega) (by omega) r.toNat (by omega) (bf_1.mpr ((h r.toNat (by omega)).mpr (by rw [show ((r.toNat : Nat) : Int) = r by omega]; exact hp)))
theorem bn1 {s c : Int32} (h : 0 ≤ c.toInt ∧ c.toInt ≤ 31) (e : s &&& ((1 : Int32) <<< (c &&& 31)) = 0) : ¬ bf s c.toInt.toNat = 1 := fun q => by
  have h1 := (an_1 h).mp e
  rw [bf_1.mp q] at h1
  exact absurd h1 (by decide)
theorem by1 {s c : Int32} (h : 0 ≤ c.toInt ∧ c.toInt ≤ 31) (e : ¬ s &&& ((1 : Int32) <<< (c &&& 31)) = 0) : bf s c.toInt.toNat = 1 := by
  refine bf_1.mpr ?_
  cases q : bt s c.toInt.toNat with
  | true => rfl
  | false => exact absurd ((an_1 h).mpr q) e
theorem AB_c {s : Int32} : ∀ j : Nat, (j : Int) < 24 → (bf (16777215 &&& (s ^^^ (-1))) j = 1 ↔ bf s j = 0) := fun j hj => by
  rw [bf_1, bf_0, b_and, b_all j (by omega), b_not s (by omega), Bool.true_and]
  cases bt s j <;> simp
theorem NTH_neg {c : Nat → Int32} {x : Int32} {n k r : Int} (h : NTH c n x k r) (hk : k < 0) : r = -1 := by
  rcases h with h | h
  · exact h.1
  · have := h.2.2.2; omega
