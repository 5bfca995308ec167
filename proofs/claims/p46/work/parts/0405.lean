
def bf (s : Int32) (j : Nat) : Int32 := if bt s j = true then 1 else 0
theorem bf_1 {s : Int32} {j : Nat} : bf s j = 1 ↔ bt s j = true := by
  unfold bf
  by_cases h : bt s j = true
  · rw [if_pos h]; exact ⟨fun _ => h, fun _ => rfl⟩
  · rw [if_neg h]; exact ⟨fun e => absurd e (by decide), fun e => absurd e h⟩
theorem an_1 {s c : Int32} (h : 0 ≤ c.toInt ∧ c.toInt ≤ 31) : s &&& ((1 : Int32) <<< (c &&& 31)) = 0 ↔ bt s c.toInt.toNat = false := by
  constructor
  · intro e
    have h1 := b_and s ((1 : Int32) <<< (c &&& 31)) c.toInt.toNat
    rw [e, b_0, b_one h (by omega), decide_eq_true rfl, Bool.and_true] at h1
    exact h1.symm
  · intro e
    refine b_ext (fun i hi => ?_)
    rw [b_and, b_one h hi, b_0]
    by_cases q : i = c.toInt.toNat
    · rw [q, e]; rfl
    · rw [decide_eq_false q, Bool.and_false]
theorem by1 {s c : Int32} (h : 0 ≤ c.toInt ∧ c.toInt ≤ 31) (e : ¬ s &&& ((1 : Int32) <<< (c &&& 31)) = 0) : bf s c.toInt.toNat = 1 := by
  refine bf_1.mpr ?_
  cases q : bt s c.toInt.toNat with
  | true => rfl
  | false => exact absurd ((an_1 h).mpr q) e
