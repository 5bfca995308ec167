
def cw_e0 : Nat → Nat → Int32 := fun i => if i = 15 then (fun j => if j < 24 then 1 else 0) else fun _ => 0
def cw_pi (i : Nat) : Nat := ([43, 42, 34, 31, 28, 24, 22, 18, 16, 5, 41, 15, 40, 39, 33, 32, 30, 29, 27, 26, 25, 23, 21, 20, 19, 17, 14, 13, 12, 11, 10, 9, 8, 7, 6, 4, 3, 2, 1, 0, 38, 37, 36, 35] : List Nat).getD i 0
theorem cw_pi_lt : ∀ i, i < 44 → cw_pi i < 44 := by decide +kernel
theorem cw_pi_inj : ∀ i, i < 44 → ∀ j, j < 44 → cw_pi i = cw_pi j → i = j := by decide +kernel
theorem cw_I0 {q : Nat → Nat} (D : gw_D 44 q) : cw_I 1 40 40 q (fun _ => 0) cw_e0 := ⟨D, by unfold cw_W; decide, fun _ _ _ => (by decide : 0 ≤ (0 : Int32).toInt ∧ (0 : Int32).toInt ≤ 160), fun o h1 _ j => by
  have e1 : cw_e0 (o + 1) j = 0 := by unfold cw_e0; rw [if_neg (by omega)]
  have e3 : cw_e0 (o + 3) j = 0 := by unfold cw_e0; rw [if_neg (by omega)]
  rw [e1, e3]; decide⟩
theorem cw_S0 : cw_S (fun _ => 0) (fun _ _ => 0) := ⟨by decide, fun _ => (by decide : 0 ≤ (0 : Int32).toInt ∧ (0 : Int32).toInt ≤ 23), fun _ => (by decide : -1 ≤ (0 : Int32).toInt ∧ (0 : Int32).toInt ≤ 159)⟩
