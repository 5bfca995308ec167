
theorem pc_low : ∀ (N m : Nat), m ≤ N → m ≠ 0 → ∃ i, m.testBit i = true ∧ ∀ j, (m.testBit j && (m - 1).testBit j) = (decide (j ≠ i) && m.testBit j) := by
  intro N
  induction N with
  | zero => intro m h1 h2; omega
  | succ N ih =>
    intro m h1 h2
    by_cases ho : m % 2 = 1
    · refine ⟨0, by rw [Nat.testBit_zero]; exact decide_eq_true ho, fun j => ?_⟩
      cases j with
      | zero => rw [Nat.testBit_zero, Nat.testBit_zero, decide_eq_false (show ¬ (m - 1) % 2 = 1 by omega)]; simp
      | succ j => rw [Nat.testBit_succ, Nat.testBit_succ, show (m - 1) / 2 = m / 2 by omega]; simp
    · obtain ⟨i, hi, hj⟩ := ih (m / 2) (by omega) (by omega)
      refine ⟨i + 1, by rw [Nat.testBit_succ]; exact hi, fun j => ?_⟩
      cases j with
      | zero => rw [Nat.testBit_zero, decide_eq_false ho]; simp
      | succ j =>
        rw [Nat.testBit_succ, Nat.testBit_succ, show (m - 1) / 2 = m / 2 - 1 by omega, hj j]
        simp
theorem bt_m1 {x : Int32} (h : ¬ x = 0) : ∃ i, i < 32 ∧ bt x i = true ∧ ∀ j, bt (x &&& (x - 1)) j = (decide (j ≠ i) && bt x j) := by
  have h0 : x.toBitVec ≠ 0 := fun q => h (by
    have : x = ⟨⟨x.toBitVec⟩⟩ := rfl
    rw [this, q]; rfl)
  have h3 : x.toBitVec.toNat ≠ 0 := fun q => h0 (BitVec.eq_of_toNat_eq (by simpa using q))
  have h4 : (x.toBitVec - 1).toNat = x.toBitVec.toNat - 1 := by
    rw [BitVec.toNat_sub]
    have := x.toBitVec.isLt
    have h5 : (1 : BitVec 32).toNat = 1 := rfl
    rw [h5]
    omega
  obtain ⟨i, hi, hj⟩ := pc_low _ x.toBitVec.toNat (Nat.le_refl _) h3
  have hb : ∀ j, bt x j = x.toBitVec.toNat.testBit j := fun j => (BitVec.testBit_toNat _).symm
  have hb1 : ∀ j, bt (x - 1) j = (x.toBitVec.toNat - 1).testBit j := fun j => by
    rw [← h4, BitVec.testBit_toNat]; rfl
  refine ⟨i, ?_, by rw [hb]; exact hi, fun j => ?_⟩
  · by_cases h9 : i < 32
    · exact h9
    · have h8 := hb i
      rw [b_big (by omega), hi] at h8
      exact absurd h8 (by decide)
  · rw [b_and, hb1, hb]; exact hj j
theorem cntB_clr {x y : Int32} {i : Nat} (hx : bt x i = true) (h : ∀ j, bt y j = (decide (j ≠ i) && bt x j)) : ∀ k, cntB y k + (if i < k then 1 else 0) = cntB x k
  | 0 => by rw [if_neg (by omega)]; rfl
  | k + 1 => by
    have ih := cntB_clr hx h k
    rw [cntB, cntB]
    by_cases e : k = i
    · have hy : bt y k = false := by rw [h k, decide_eq_false (fun h9 => h9 e)]; rfl
      rw [hy, show bt x k = true by rw [e]; exact hx, if_neg (by decide), if_pos rfl, if_pos (by omega)]
      rw [if_neg (by omega)] at ih
      omega
    · have hy : bt y k = bt x k := by rw [h k, decide_eq_true e]; rfl
      rw [hy]
      obtain ⟨z, hz⟩ : ∃ z : Nat, z = (if bt x k = true then 1 else 0) := ⟨_, rfl⟩
      rw [← hz]
      by_cases e2 : i < k
      · rw [if_pos e2] at ih; rw [if_pos (by omega)]; omega
      · rw [if_neg e2] at ih; rw [if_neg (by omega)]; omega
theorem pcB {x : Int32} (h : ¬ x = 0) : cntB (x &&& (x - 1)) 32 + 1 = cntB x 32 := by
  obtain ⟨i, hi, h1, h2⟩ := bt_m1 h
  have h3 := cntB_clr h1 h2 32
  rw [if_pos hi] at h3
  exact h3
theorem cntB_z : ∀ k, cntB 0 k = 0
  | 0 => rfl
  | k + 1 => by rw [cntB, cntB_z k, b_0, if_neg (by decide)]
theorem cntB_24 {x : Int32} (h : ∀ i, 24 ≤ i → i < 32 → bt x i = false) : ∀ k, k ≤ 8 → cntB x (24 + k) = cntB x 24
  | 0, _ => rfl
  | k + 1, hk => by
    show cntB x (24 + k + 1) = _
    rw [cntB, cntB_24 h k (by omega), h (24 + k) (by omega) (by omega), if_neg (by decide), Nat.add_zero]
def msB (W : Nat → Int32) (x : Int32) : Nat → Int32
  | 0 => 0
  | k + 1 => msB W x k + if bt x k = true then W k else 0
theorem msB_z (W : Nat → Int32) : ∀ k, msB W 0 k = 0
  | 0 => rfl
  | k + 1 => by rw [msB, msB_z W k, b_0, if_neg (by decide)]; rfl
theorem ad_r (a b c : Int32) : a + b + c = a + c + b := by rw [Int32.add_assoc, Int32.add_comm b c, ← Int32.add_assoc]
theorem msB_up {W : Nat → Int32} {x y : Int32} {i : Nat} (hx : bt x i = false) (hy : bt y i = true) (h : ∀ j, j ≠ i → bt y j = bt x j) : ∀ k, msB W y k = msB W x k + (if i < k then W i else 0)
  | 0 => by rw [if_neg (by omega)]; rfl
  | k + 1 => by
    have ih := msB_up (W := W) hx hy h k
    rw [msB, msB, ih]
    by_cases e : k = i
    · rw [e, hy, hx, if_neg (by omega), if_pos rfl, if_neg (by decide), if_pos (by omega), Int32.add_zero]
    · rw [h k e]
      by_cases e2 : i < k
      · rw [if_pos e2, if_pos (show i < k + 1 by omega), ad_r]
      · rw [if_neg e2, if_neg (show ¬ i < k + 1 by omega), ad_r]
theorem cntB_up {x y : Int32} {i : Nat} (hx : bt x i = false) (hy : bt y i = true) (h : ∀ j, j ≠ i → bt y j = bt x j) (k : Nat) : cntB y k = cntB x k + (if i < k then 1 else 0) := by
  refine (cntB_clr (x := y) (y := x) hy (fun j => ?_) k).symm
  by_cases e : j = i
  · rw [e, hx, decide_eq_false (fun h9 => h9 rfl)]; rfl
  · rw [h j e, decide_eq_true e]; rfl
def upN (N : Nat → Nat) (c : Nat) : Nat → Nat := fun x => if x = c then N x + 1 else N x
theorem upN_s (N : Nat → Nat) (c : Nat) : upN N c c = N c + 1 := if_pos rfl
theorem upN_n {N : Nat → Nat} {c x : Nat} (h : x ≠ c) : upN N c x = N x := if_neg h
def nc (c : Nat → Int32) (l : Nat) : Nat → (Nat → Nat)
  | 0 => fun _ => 0
  | k + 1 => upN (nc c l k) (c (l + k)).toInt.toNat
def ok24 (c : Nat → Int32) : Prop := ∀ j, 0 ≤ (c j).toInt ∧ (c j).toInt ≤ 23
theorem nc_hi {c : Nat → Int32} {l x : Nat} (hc : ok24 c) (hx : 24 ≤ x) : ∀ k, nc c l k x = 0
  | 0 => rfl
  | k + 1 => by
    have h0 := hc (l + k)
    rw [nc, upN_n (by omega), nc_hi hc hx k]
theorem setF_eq {c d : Nat → Int32} {l : Nat} : ∀ k, (∀ j, l ≤ j → j < l + k → c j = d j) → setF c l k = setF d l k
  | 0, _ => rfl
  | k + 1, h => by rw [setF, setF, setF_eq k (fun j hi hj => h j hi (by omega)), h (l + k) (by omega) (by omega)]
theorem bt_set {c : Nat → Int32} {l : Nat} (hc : ok24 c) {i : Nat} (hi : i < 32) : ∀ k, bt (setF c l k) i = decide (0 < nc c l k i)
  | 0 => by
    show bt 0 i = _
    rw [b_0]; rfl
  | k + 1 => by
    have ih := bt_set (l := l) hc hi k
    have h0 := hc (l + k)
    rw [setF, b_or, b_one (by omega) hi, ih, nc]
    by_cases e : i = (c (l + k)).toInt.toNat
    · rw [decide_eq_true e, Bool.or_true, ← e, upN_s, decide_eq_true (by omega)]
    · rw [decide_eq_false e, Bool.or_false, upN_n e]
theorem set_24 {c : Nat → Int32} {l : Nat} (hc : ok24 c) (k : Nat) : cntB (setF c l k) 32 = cntB (setF c l k) 24 := cntB_24 (fun i h1 h2 => by rw [bt_set hc h2, nc_hi hc h1]; rfl) 8 (by omega)
def PAL (v k W : Nat → Int32) (N : Nat → Nat) (n : Int) : Prop := (∀ x, x < 24 → (k x).toInt = (N x : Int)) ∧ (v 1).toInt = n ∧ (v 2).toInt = (cntB (v 3) 24 : Int) ∧ (∀ i, i < 32 → bt (v 3) i = decide (0 < N i)) ∧ v 4 = msB W (v 3) 24 ∧ (∀ x, (N x : Int) ≤ n) ∧ n ≤ 1000 ∧ (∀ x, 24 ≤ x → N x = 0)
theorem PAL_0 {v k W : Nat → Int32} (hk : ∀ x, x < 24 → k x = 0) (h1 : v 1 = 0) (h2 : v 2 = 0) (h3 : v 3 = 0) (h4 : v 4 = 0) : PAL v k W (fun _ => 0) 0 := by
  refine ⟨fun x hx => by rw [hk x hx]; rfl, by rw [h1]; rfl, by rw [h2, h3, cntB_z]; rfl, fun i hi => by rw [h3, b_0]; rfl, by rw [h4, h3, msB_z], fun x => by simp, by decide, fun _ _ => rfl⟩
