
def bt (x : Int32) (i : Nat) : Bool := x.toBitVec.getLsbD i
theorem b_ext {x y : Int32} (h : ∀ i, i < 32 → bt x i = bt y i) : x = y := Int32.toBitVec_inj.mp (BitVec.eq_of_getLsbD_eq (fun i hi => h i hi))
theorem b_or (x y : Int32) (i : Nat) : bt (x ||| y) i = (bt x i || bt y i) := by unfold bt; rw [Int32.toBitVec_or, BitVec.getLsbD_or]
theorem b_and (x y : Int32) (i : Nat) : bt (x &&& y) i = (bt x i && bt y i) := by unfold bt; rw [Int32.toBitVec_and, BitVec.getLsbD_and]
theorem b_xor (x y : Int32) (i : Nat) : bt (x ^^^ y) i = (bt x i ^^ bt y i) := by unfold bt; rw [Int32.toBitVec_xor, BitVec.getLsbD_xor]
theorem b_big {x : Int32} {i : Nat} (h : 32 ≤ i) : bt x i = false := BitVec.getLsbD_of_ge _ _ h
theorem b_m1 : ∀ i, i < 32 → bt (-1) i = true := by decide +kernel
theorem b_0 (i : Nat) : bt 0 i = false := BitVec.getLsbD_zero
theorem s_l : ∀ n, n < 32 → ((nI n &&& 31).toBitVec.smod 32).toNat = n := by decide +kernel
theorem b_shl (n : Nat) (hn : n < 32) (x : Int32) {i : Nat} (hi : i < 32) : bt (x <<< (nI n &&& 31)) i = (decide (n ≤ i) && bt x (i - n)) := by
  unfold bt
  rw [Int32.toBitVec_shiftLeft]
  show (x.toBitVec <<< ((nI n &&& 31).toBitVec.smod 32).toNat).getLsbD i = _
  rw [s_l n hn, BitVec.getLsbD_shiftLeft]
  rcases Nat.lt_or_ge i n with h | h
  · simp [h, Nat.not_le.mpr h]
  · simp [hi, h, Nat.not_lt.mpr h]
theorem b_sshr (n : Nat) (hn : n < 32) (x : Int32) {i : Nat} (hi : i < 32) : bt (x >>> (nI n &&& 31)) i = if n + i < 32 then bt x (n + i) else bt x 31 := by
  unfold bt
  rw [Int32.toBitVec_shiftRight]
  show (x.toBitVec.sshiftRight ((nI n &&& 31).toBitVec.smod 32).toNat).getLsbD i = _
  rw [s_l n hn, BitVec.getLsbD_sshiftRight, BitVec.msb_eq_getLsbD_last]
  simp [hi]
/-! bits by a number c of 0 .. 31, as the machine tells them -/
theorem bn_of {c : Int32} (h : 0 ≤ c.toInt ∧ c.toInt ≤ 31) : ∃ n : Nat, n < 32 ∧ c = nI n ∧ c.toInt = n := by
  obtain ⟨n, hn, rfl⟩ := nI_of (x := c) (fun h2 => by have := (pm_lt0 c).mp h2; omega)
  have h3 := nI_toInt hn
  exact ⟨n, by omega, rfl, h3⟩
theorem b_1 (i : Nat) : bt 1 i = decide (i = 0) := by
  rcases Nat.lt_or_ge i 32 with h | h
  · exact (by decide +kernel : ∀ i, i < 32 → bt 1 i = decide (i = 0)) i h
  · rw [b_big h, decide_eq_false (by omega)]
theorem b_one {c : Int32} (h : 0 ≤ c.toInt ∧ c.toInt ≤ 31) {i : Nat} (hi : i < 32) : bt ((1 : Int32) <<< (c &&& 31)) i = decide (i = c.toInt.toNat) := by
  obtain ⟨n, hn, rfl, e⟩ := bn_of h
  rw [b_shl n hn 1 hi, b_1, e, Int.toNat_natCast]
  by_cases h1 : i = n
  · subst h1
    simp
  · rw [decide_eq_false h1]
    by_cases h2 : n ≤ i
    · have h3 : ¬ i - n = 0 := by omega
      simp [h3]
    · simp [h2]
theorem b_sh1 (x : Int32) {c : Int32} (h : 0 ≤ c.toInt ∧ c.toInt ≤ 31) : ((x >>> (c &&& 31)) &&& 1) = if bt x c.toInt.toNat = true then 1 else 0 := by
  obtain ⟨n, hn, rfl, e⟩ := bn_of h
  apply b_ext
  intro i hi
  rw [b_and, b_sshr n hn x hi, b_1, e, Int.toNat_natCast]
  by_cases h0 : i = 0
  · subst h0
    rw [if_pos (by omega), Nat.add_zero]
    cases bt x n
    · simp [b_0]
    · simp [b_1]
  · rw [decide_eq_false h0, Bool.and_false]
    split
    · rw [b_1, decide_eq_false h0]
    · rw [b_0]
theorem b_y {x c : Int32} (h : 0 ≤ c.toInt ∧ c.toInt ≤ 31) (hb : ¬ ((x >>> (c &&& 31)) &&& 1) = 0) : bt x c.toInt.toNat = true := by
  rw [b_sh1 x h] at hb
  cases e : bt x c.toInt.toNat
  · rw [e] at hb; exact absurd rfl hb
  · rfl
theorem b_n {x c : Int32} (h : 0 ≤ c.toInt ∧ c.toInt ≤ 31) (hb : ¬ ((x >>> (c &&& 31)) &&& 1) = 1) : bt x c.toInt.toNat = false := by
  rw [b_sh1 x h] at hb
  cases e : bt x c.toInt.toNat
  · rfl
  · rw [e] at hb; exact absurd rfl hb
theorem b_y' {x c : Int32} (h : 0 ≤ c.toInt ∧ c.toInt ≤ 31) (hb : bt x c.toInt.toNat = true) : ¬ ((x >>> (c &&& 31)) &&& 1) = 0 := by
  rw [b_sh1 x h, hb]; decide
def cntB (x : Int32) : Nat → Nat
  | 0 => 0
  | k + 1 => cntB x k + if bt x k = true then 1 else 0
theorem cntB_le (x : Int32) : ∀ k, cntB x k ≤ k
  | 0 => Nat.le_refl _
  | k + 1 => by
    have := cntB_le x k
    unfold cntB
    split <;> omega
theorem cntB_lt {x : Int32} {c : Nat} (hb : bt x c = false) : ∀ k, c < k → cntB x k < k
  | 0, h => by omega
  | k + 1, h => by
    have h1 := cntB_le x k
    unfold cntB
    by_cases hk : c = k
    · subst hk
      rw [hb]
      simp
      omega
    · have := cntB_lt hb k (by omega)
      split <;> omega
theorem cntB_or {x c : Int32} (h : 0 ≤ c.toInt ∧ c.toInt ≤ 31) (hb : bt x c.toInt.toNat = false) : ∀ k, k ≤ 32 → cntB (x ||| ((1 : Int32) <<< (c &&& 31))) k = cntB x k + if c.toInt.toNat < k then 1 else 0
  | 0, _ => rfl
  | k + 1, hk => by
    unfold cntB
    rw [cntB_or h hb k (by omega), b_or, b_one h (show k < 32 by omega)]
    by_cases e : k = c.toInt.toNat
    · rw [← e] at hb
      rw [e] at hb ⊢
      rw [hb]
      simp
    · rw [decide_eq_false e, Bool.or_false]
      by_cases h1 : c.toInt.toNat < k
      · simp only [if_pos h1, if_pos (show c.toInt.toNat < k + 1 by omega)]; omega
      · simp only [if_neg h1, if_neg (show ¬ c.toInt.toNat < k + 1 by omega)]; omega
theorem cnt_lt {n x c : Int32} (hn : n.toInt = (cntB x 24 : Int)) (h : 0 ≤ c.toInt ∧ c.toInt ≤ 23) (hb : ¬ ((x >>> (c &&& 31)) &&& 1) = 1) : 0 ≤ n.toInt ∧ n.toInt < 24 := by
  have h1 := b_n (x := x) (c := c) (by omega) hb
  have h2 := cntB_lt h1 24 (by omega)
  omega
theorem cnt_st {n x c : Int32} (hn : n.toInt = (cntB x 24 : Int)) (h : 0 ≤ c.toInt ∧ c.toInt ≤ 23) (hb : ¬ ((x >>> (c &&& 31)) &&& 1) = 1) : (n + 1).toInt = (cntB (x ||| ((1 : Int32) <<< (c &&& 31))) 24 : Int) := by
  have h1 := b_n (x := x) (c := c) (by omega) hb
  have h2 := cntB_lt h1 24 (by omega)
  have h3 := cntB_or (c := c) (by omega) h1 24 (by omega)
  have k1 : (1 : Int32).toInt = 1 := rfl
  rw [pm_add n 1 (by omega) (by omega), h3, if_pos (by omega), hn, k1]
  omega
theorem cnt_0 : (0 : Int32).toInt = (cntB 0 24 : Int) := by decide +kernel
theorem p2_one {c : Int32} (h : 0 ≤ c.toInt ∧ c.toInt ≤ 23) : ¬ ((0 : Int32) ||| ((1 : Int32) <<< (c &&& 31))) = 0 ∧ ((0 : Int32) ||| ((1 : Int32) <<< (c &&& 31))) &&& (((0 : Int32) ||| ((1 : Int32) <<< (c &&& 31))) - 1) = 0 := by
  obtain ⟨n, hn, rfl, e⟩ := bn_of (c := c) (by omega)
  have h3 : n < 24 := by omega
  exact (by decide +kernel : ∀ n, n < 24 → ¬ ((0 : Int32) ||| ((1 : Int32) <<< (nI n &&& 31))) = 0 ∧ ((0 : Int32) ||| ((1 : Int32) <<< (nI n &&& 31))) &&& (((0 : Int32) ||| ((1 : Int32) <<< (nI n &&& 31))) - 1) = 0) n h3
def goB (s : Int32) (c : Nat → Int32) (p : Int) : Prop := ∀ c9 : Int32, (0 ≤ c9.toInt ∧ c9.toInt ≤ 23) → ¬ ((s >>> (c9 &&& 31)) &&& 1) = 0 → ∃ k9 : Nat, (k9 : Int) < p ∧ c k9 = c9
theorem go_0 (c : Nat → Int32) (p : Int) : goB 0 c p := fun c9 h9 h8 => by
  have h1 := b_y (x := 0) (c := c9) (by omega) h8
  rw [b_0] at h1
  cases h1
theorem go_mono {s : Int32} {c : Nat → Int32} {p p' : Int} (h : goB s c p) (hp : p ≤ p') : goB s c p' := fun c9 h9 h8 => by
  obtain ⟨k, h1, h2⟩ := h c9 h9 h8
  exact ⟨k, by omega, h2⟩
theorem go_and {s m : Int32} {c : Nat → Int32} {p : Int} (h : goB s c p) : goB (s &&& m) c p := fun c9 h9 h8 => by
  have h1 := b_y (x := s &&& m) (c := c9) (by omega) h8
  rw [b_and, Bool.and_eq_true] at h1
  exact h c9 h9 (b_y' (by omega) h1.1)
theorem go_or {s x : Int32} {c : Nat → Int32} {p p' : Int} (h : goB s c p) (h0 : 0 ≤ p) (hp : p + 1 ≤ p') (hx : c p.toNat = x) (hr : 0 ≤ x.toInt ∧ x.toInt ≤ 23) : goB (s ||| ((1 : Int32) <<< (x &&& 31))) c p' := fun c9 h9 h8 => by
  have h1 := b_y (x := s ||| ((1 : Int32) <<< (x &&& 31))) (c := c9) (by omega) h8
  rw [b_or, Bool.or_eq_true, b_one (c := x) (by omega) (by omega), decide_eq_true_eq] at h1
  rcases h1 with h1 | h1
  · obtain ⟨k, h2, h3⟩ := h c9 h9 (b_y' (by omega) h1)
    exact ⟨k, by omega, h3⟩
  · refine ⟨p.toNat, by omega, hx.trans (pm_eqI ?_)⟩
    omega
def ctLt (c : Nat → Int32) (x : Int) (l : Nat) : Nat → Nat
  | 0 => 0
  | k + 1 => ctLt c x l k + if (c (l + k)).toInt < x then 1 else 0
