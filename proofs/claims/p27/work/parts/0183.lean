
def gw (A0 : pm_H) (N : Nat) (q : Nat → Nat) (c : Nat → va_E) : pm_H := fun a => match (List.range N).find? (fun i => decide (a = q i)) with
  | some i => some (c i)
  | none => A0 a
def gw_D (N : Nat) (q : Nat → Nat) : Prop := ∀ i j, i < N → j < N → q i = q j → i = j
theorem gw_find {N : Nat} {q : Nat → Nat} (D : gw_D N q) {i : Nat} (hi : i < N) : (List.range N).find? (fun j => decide (q i = q j)) = some i := by
  cases hx : (List.range N).find? (fun j => decide (q i = q j)) with
  | none =>
    have := List.find?_eq_none.mp hx i (List.mem_range.mpr hi)
    simp at this
  | some j =>
    have h1 := List.find?_some hx
    have h2 := List.mem_range.mp (List.mem_of_find?_eq_some hx)
    have h3 : q i = q j := by simpa using h1
    rw [D i j hi h2 h3]
theorem gw_a {A0 : pm_H} {N : Nat} {q : Nat → Nat} {c : Nat → va_E} (D : gw_D N q) {i : Nat} (hi : i < N) : gw A0 N q c (q i) = some (c i) := by
  unfold gw
  rw [gw_find D hi]
theorem gw_out {A0 : pm_H} {N : Nat} {q : Nat → Nat} {c : Nat → va_E} {a : Nat} (h : ∀ i, i < N → a ≠ q i) : gw A0 N q c a = A0 a := by
  unfold gw
  cases hx : (List.range N).find? (fun j => decide (a = q j)) with
  | none => rfl
  | some j =>
    have h1 : a = q j := by simpa using List.find?_some hx
    have h2 := List.mem_range.mp (List.mem_of_find?_eq_some hx)
    exact absurd h1 (h j h2)
theorem gw_none {A0 : pm_H} {N : Nat} {q : Nat → Nat} {c : Nat → va_E} {a : Nat} (h : gw A0 N q c a = none) : (∀ i, i < N → a ≠ q i) ∧ A0 a = none := by
  unfold gw at h
  cases hx : (List.range N).find? (fun j => decide (a = q j)) with
  | none =>
    rw [hx] at h
    refine ⟨fun i hi e => ?_, h⟩
    have := List.find?_eq_none.mp hx i (List.mem_range.mpr hi)
    simp [e] at this
  | some j => rw [hx] at h; cases h
theorem gw_up {A0 : pm_H} {N : Nat} {q : Nat → Nat} {c c' : Nat → va_E} {e : va_E} (D : gw_D N q) {i : Nat} (hi : i < N) (he : c' i = e) (h : ∀ j, j ≠ i → c' j = c j) : pm_up (gw A0 N q c) (q i) e = gw A0 N q c' := by
  funext a
  by_cases ha : a = q i
  · subst ha
    rw [pm_up_s, gw_a D hi, he]
  · rw [pm_up_n ha]
    unfold gw
    cases hx : (List.range N).find? (fun j => decide (a = q j)) with
    | none => rfl
    | some j =>
      have h3 : a = q j := by simpa using List.find?_some hx
      have hj : j ≠ i := fun e => ha (by rw [h3, e])
      show some (c j) = some (c' j)
      rw [h j hj]
def cw_rr (K : Nat) (q : Nat → Nat) (j : Nat) : Option Nat := if j < K then some (q (40 + 4 * j)) else none
def cw_ww (q : Nat → Nat) (j : Nat) : Option Nat := if j < 9 then some (q (26 + j)) else none
theorem cw_ww_lt {q : Nat → Nat} {j : Nat} (h : j < 9) : cw_ww q j = some (q (26 + j)) := if_pos h
def cw_fix (g : pm_G) (K nn dn : Nat) (q : Nat → Nat) (w v : Nat → Int32) : Nat → va_E
  | 0 => pm_ob 10 [.ref (q 1), .ref (q 2), .ref (q 3), .ref (q 4), .ref (q 5), .ref (q 6), .ref (q 7), .ref (q 8), .ref (q 9)]
  | 1 => pm_ob 9 [.ref (q 10), .ref (q 12), .ref (q 13), .ref (q dn), .ref (q nn), .int (w 0), .int (w 1), .int (w 2)]
  | 2 => pm_ob 2 [.ref (q 14), .ref (q 15), .int (v 1), .int (v 2), .int (v 3), .int (v 4)]
  | 3 => pm_ob 0 [.ref (q 16), .ref (q 17), .int (v 0)]
  | 4 => pm_ob 1 [.ref (q 18), .ref (q 19), .ref (q 20), .int (v 5), .int (v 6)]
  | 5 => pm_ob 6 [.ref (q 21), .int (v 7), .int (v 8), .int (v 9), .int (v 10)]
  | 6 => pm_ob 8 [.ref (q 22), .ref (q 23), .ref (q 24), .int (v 11), .int (v 12)]
  | 7 => pm_ob 4 [.ref (q 25), .int (v 13), .int (v 14)]
  | 8 => pm_ob 3 [.ref (q 11)]
  | 9 => pm_ob 5 [.ref (q 35), .ref (q 36), .ref (q 37), .ref (q 38), .ref (q 39), .int (w 3)]
  | 10 => pm_ra g 41 (cw_rr K q)
  | _ => pm_ma g 9 (cw_ww q)
def cw_ln (i : Nat) : Nat := ([160, 24, 24, 24, 24, 160, 160, 24, 24, 24, 160, 24, 24, 160, 161, 161, 161, 161, 161, 161, 161, 161, 161, 30, 30, 30, 30, 30] : List Nat).getD (i - 12) 0
def cw_pe (i : Nat) : Bool := Nat.beq i 15 || Nat.ble 35 i
def cw_c (g : pm_G) (K nn dn : Nat) (q : Nat → Nat) (w : Nat → Int32) (e : Nat → Nat → Int32) (v : Nat → Int32) (f : Nat → Nat → Int32) (i : Nat) : va_E :=
  if i < 12 then cw_fix g K nn dn q w v i else if i < 40 then pm_ia g (cw_ln i) (if cw_pe i = true then e i else f i) else if i % 4 = 0 then pm_ob 7 [.ref (q (i + 1)), .ref (q (i + 2)), .ref (q (i + 3)), .int (w i), .int (w (i + 1))] else pm_ia g 160 (e i)
def cw (A0 : pm_H) (g : pm_G) (K nn dn : Nat) (q : Nat → Nat) (w : Nat → Int32) (e : Nat → Nat → Int32) (v : Nat → Int32) (f : Nat → Nat → Int32) : pm_H := gw A0 (40 + 4 * K) q (cw_c g K nn dn q w e v f)
def cw_ro (K o : Nat) : Prop := 40 ≤ o ∧ o < 40 + 4 * K ∧ o % 4 = 0
