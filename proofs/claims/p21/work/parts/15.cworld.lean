/-! the class: its cells by number (0 the object .. 9 its parts, 10 the rows, 11 the worths, 12 .. 39 rows of ints, 40 + 4 m the m-th row with its three rows of ints); what lasts: w, e; scratch: v, f -/
def gw (A0 : pm_H) (N : Nat) (q : Nat → Nat) (c : Nat → va_E) : pm_H := fun a => match (List.range N).find? (fun i => decide (a = q i)) with
  | some i => some (c i)
  | none => A0 a
def gw_D (N : Nat) (q : Nat → Nat) : Prop := ∀ i j, i < N → j < N → q i = q j → i = j
theorem gw_find {N : Nat} {q : Nat → Nat} (D : gw_D N q) {i : Nat} (hi : i < N) : (List.range N).find? (fun j => decide (q i = q j)) = some i := by
  cases hx : (List.range N).find? (fun j => decide (q i = q j)) with
  | none =>
    have := List.find?_eq_none.mp hx i (List.mem_range.mpr hi)
    simp at this
  | some j =>
    have h1 := List.find?_some hx
    have h2 := List.mem_range.mp (List.mem_of_find?_eq_some hx)
    have h3 : q i = q j := by simpa using h1
    rw [D i j hi h2 h3]
theorem gw_a {A0 : pm_H} {N : Nat} {q : Nat → Nat} {c : Nat → va_E} (D : gw_D N q) {i : Nat} (hi : i < N) : gw A0 N q c (q i) = some (c i) := by
  unfold gw
  rw [gw_find D hi]
theorem gw_out {A0 : pm_H} {N : Nat} {q : Nat → Nat} {c : Nat → va_E} {a : Nat} (h : ∀ i, i < N → a ≠ q i) : gw A0 N q c a = A0 a := by
  unfold gw
  cases hx : (List.range N).find? (fun j => decide (a = q j)) with
  | none => rfl
  | some j =>
    have h1 : a = q j := by simpa using List.find?_some hx
    have h2 := List.mem_range.mp (List.mem_of_find?_eq_some hx)
    exact absurd h1 (h j h2)
theorem gw_none {A0 : pm_H} {N : Nat} {q : Nat → Nat} {c : Nat → va_E} {a : Nat} (h : gw A0 N q c a = none) : (∀ i, i < N → a ≠ q i) ∧ A0 a = none := by
  unfold gw at h
  cases hx : (List.range N).find? (fun j => decide (a = q j)) with
  | none =>
    rw [hx] at h
    refine ⟨fun i hi e => ?_, h⟩
    have := List.find?_eq_none.mp hx i (List.mem_range.mpr hi)
    simp [e] at this
  | some j => rw [hx] at h; cases h
theorem gw_up {A0 : pm_H} {N : Nat} {q : Nat → Nat} {c c' : Nat → va_E} {e : va_E} (D : gw_D N q) {i : Nat} (hi : i < N) (he : c' i = e) (h : ∀ j, j ≠ i → c' j = c j) : pm_up (gw A0 N q c) (q i) e = gw A0 N q c' := by
  funext a
  by_cases ha : a = q i
  · subst ha
    rw [pm_up_s, gw_a D hi, he]
  · rw [pm_up_n ha]
    unfold gw
    cases hx : (List.range N).find? (fun j => decide (a = q j)) with
    | none => rfl
    | some j =>
      have h3 : a = q j := by simpa using List.find?_some hx
      have hj : j ≠ i := fun e => ha (by rw [h3, e])
      show some (c j) = some (c' j)
      rw [h j hj]
def cw_rr (K : Nat) (q : Nat → Nat) (j : Nat) : Option Nat := if j < K then some (q (40 + 4 * j)) else none
def cw_ww (q : Nat → Nat) (j : Nat) : Option Nat := if j < 9 then some (q (26 + j)) else none
theorem cw_ww_lt {q : Nat → Nat} {j : Nat} (h : j < 9) : cw_ww q j = some (q (26 + j)) := if_pos h
def cw_fix (g : pm_G) (K nn dn : Nat) (q : Nat → Nat) (w v : Nat → Int32) : Nat → va_E
  | 0 => pm_ob 10 [.ref (q 1), .ref (q 2), .ref (q 3), .ref (q 4), .ref (q 5), .ref (q 6), .ref (q 7), .ref (q 8), .ref (q 9)]
  | 1 => pm_ob 9 [.ref (q 10), .ref (q 12), .ref (q 13), .ref (q dn), .ref (q nn), .int (w 0), .int (w 1), .int (w 2)]
  | 2 => pm_ob 2 [.ref (q 14), .ref (q 15), .int (v 1), .int (v 2), .int (v 3), .int (v 4)]
  | 3 => pm_ob 0 [.ref (q 16), .ref (q 17), .int (v 0)]
  | 4 => pm_ob 1 [.ref (q 18), .ref (q 19), .ref (q 20), .int (v 5), .int (v 6)]
  | 5 => pm_ob 6 [.ref (q 21), .int (v 7), .int (v 8), .int (v 9), .int (v 10)]
  | 6 => pm_ob 8 [.ref (q 22), .ref (q 23), .ref (q 24), .int (v 11), .int (v 12)]
  | 7 => pm_ob 4 [.ref (q 25), .int (v 13), .int (v 14)]
  | 8 => pm_ob 3 [.ref (q 11)]
  | 9 => pm_ob 5 [.ref (q 35), .ref (q 36), .ref (q 37), .ref (q 38), .ref (q 39), .int (w 3)]
  | 10 => pm_ra g 41 (cw_rr K q)
  | _ => pm_ma g 9 (cw_ww q)
def cw_ln (i : Nat) : Nat := ([160, 24, 24, 24, 24, 160, 160, 24, 24, 24, 160, 24, 24, 160, 161, 161, 161, 161, 161, 161, 161, 161, 161, 30, 30, 30, 30, 30] : List Nat).getD (i - 12) 0
def cw_pe (i : Nat) : Bool := Nat.beq i 15 || Nat.ble 35 i
def cw_c (g : pm_G) (K nn dn : Nat) (q : Nat → Nat) (w : Nat → Int32) (e : Nat → Nat → Int32) (v : Nat → Int32) (f : Nat → Nat → Int32) (i : Nat) : va_E :=
  if i < 12 then cw_fix g K nn dn q w v i else if i < 40 then pm_ia g (cw_ln i) (if cw_pe i = true then e i else f i) else if i % 4 = 0 then pm_ob 7 [.ref (q (i + 1)), .ref (q (i + 2)), .ref (q (i + 3)), .int (w i), .int (w (i + 1))] else pm_ia g 160 (e i)
def cw (A0 : pm_H) (g : pm_G) (K nn dn : Nat) (q : Nat → Nat) (w : Nat → Int32) (e : Nat → Nat → Int32) (v : Nat → Int32) (f : Nat → Nat → Int32) : pm_H := gw A0 (40 + 4 * K) q (cw_c g K nn dn q w e v f)
def cw_ro (K o : Nat) : Prop := 40 ≤ o ∧ o < 40 + 4 * K ∧ o % 4 = 0
section CW
variable {A0 : pm_H} {g : pm_G} {K nn dn : Nat} {q : Nat → Nat} {w : Nat → Int32} {e : Nat → Nat → Int32} {v : Nat → Int32} {f : Nat → Nat → Int32}
theorem cw_o0 (D : gw_D (40 + 4 * K) q) : cw A0 g K nn dn q w e v f (q 0) = some (pm_ob 10 [.ref (q 1), .ref (q 2), .ref (q 3), .ref (q 4), .ref (q 5), .ref (q 6), .ref (q 7), .ref (q 8), .ref (q 9)]) := gw_a D (by omega)
theorem cw_o1 (D : gw_D (40 + 4 * K) q) : cw A0 g K nn dn q w e v f (q 1) = some (pm_ob 9 [.ref (q 10), .ref (q 12), .ref (q 13), .ref (q dn), .ref (q nn), .int (w 0), .int (w 1), .int (w 2)]) := gw_a D (by omega)
theorem cw_o2 (D : gw_D (40 + 4 * K) q) : cw A0 g K nn dn q w e v f (q 2) = some (pm_ob 2 [.ref (q 14), .ref (q 15), .int (v 1), .int (v 2), .int (v 3), .int (v 4)]) := gw_a D (by omega)
theorem cw_o3 (D : gw_D (40 + 4 * K) q) : cw A0 g K nn dn q w e v f (q 3) = some (pm_ob 0 [.ref (q 16), .ref (q 17), .int (v 0)]) := gw_a D (by omega)
theorem cw_o4 (D : gw_D (40 + 4 * K) q) : cw A0 g K nn dn q w e v f (q 4) = some (pm_ob 1 [.ref (q 18), .ref (q 19), .ref (q 20), .int (v 5), .int (v 6)]) := gw_a D (by omega)
theorem cw_o5 (D : gw_D (40 + 4 * K) q) : cw A0 g K nn dn q w e v f (q 5) = some (pm_ob 6 [.ref (q 21), .int (v 7), .int (v 8), .int (v 9), .int (v 10)]) := gw_a D (by omega)
theorem cw_o6 (D : gw_D (40 + 4 * K) q) : cw A0 g K nn dn q w e v f (q 6) = some (pm_ob 8 [.ref (q 22), .ref (q 23), .ref (q 24), .int (v 11), .int (v 12)]) := gw_a D (by omega)
theorem cw_o7 (D : gw_D (40 + 4 * K) q) : cw A0 g K nn dn q w e v f (q 7) = some (pm_ob 4 [.ref (q 25), .int (v 13), .int (v 14)]) := gw_a D (by omega)
theorem cw_o8 (D : gw_D (40 + 4 * K) q) : cw A0 g K nn dn q w e v f (q 8) = some (pm_ob 3 [.ref (q 11)]) := gw_a D (by omega)
theorem cw_o9 (D : gw_D (40 + 4 * K) q) : cw A0 g K nn dn q w e v f (q 9) = some (pm_ob 5 [.ref (q 35), .ref (q 36), .ref (q 37), .ref (q 38), .ref (q 39), .int (w 3)]) := gw_a D (by omega)
theorem cw_rows (D : gw_D (40 + 4 * K) q) : cw A0 g K nn dn q w e v f (q 10) = some (pm_ra g 41 (cw_rr K q)) := gw_a D (by omega)
theorem cw_worths (D : gw_D (40 + 4 * K) q) : cw A0 g K nn dn q w e v f (q 11) = some (pm_ma g 9 (cw_ww q)) := gw_a D (by omega)
theorem cw_a12 (D : gw_D (40 + 4 * K) q) : cw A0 g K nn dn q w e v f (q 12) = some (pm_ia g 160 (f 12)) := gw_a D (by omega)
theorem cw_a13 (D : gw_D (40 + 4 * K) q) : cw A0 g K nn dn q w e v f (q 13) = some (pm_ia g 24 (f 13)) := gw_a D (by omega)
theorem cw_a14 (D : gw_D (40 + 4 * K) q) : cw A0 g K nn dn q w e v f (q 14) = some (pm_ia g 24 (f 14)) := gw_a D (by omega)
theorem cw_a15 (D : gw_D (40 + 4 * K) q) : cw A0 g K nn dn q w e v f (q 15) = some (pm_ia g 24 (e 15)) := gw_a D (by omega)
theorem cw_a16 (D : gw_D (40 + 4 * K) q) : cw A0 g K nn dn q w e v f (q 16) = some (pm_ia g 24 (f 16)) := gw_a D (by omega)
theorem cw_a17 (D : gw_D (40 + 4 * K) q) : cw A0 g K nn dn q w e v f (q 17) = some (pm_ia g 160 (f 17)) := gw_a D (by omega)
theorem cw_a18 (D : gw_D (40 + 4 * K) q) : cw A0 g K nn dn q w e v f (q 18) = some (pm_ia g 160 (f 18)) := gw_a D (by omega)
theorem cw_a19 (D : gw_D (40 + 4 * K) q) : cw A0 g K nn dn q w e v f (q 19) = some (pm_ia g 24 (f 19)) := gw_a D (by omega)
theorem cw_a20 (D : gw_D (40 + 4 * K) q) : cw A0 g K nn dn q w e v f (q 20) = some (pm_ia g 24 (f 20)) := gw_a D (by omega)
theorem cw_a21 (D : gw_D (40 + 4 * K) q) : cw A0 g K nn dn q w e v f (q 21) = some (pm_ia g 24 (f 21)) := gw_a D (by omega)
theorem cw_a22 (D : gw_D (40 + 4 * K) q) : cw A0 g K nn dn q w e v f (q 22) = some (pm_ia g 160 (f 22)) := gw_a D (by omega)
theorem cw_a23 (D : gw_D (40 + 4 * K) q) : cw A0 g K nn dn q w e v f (q 23) = some (pm_ia g 24 (f 23)) := gw_a D (by omega)
theorem cw_a24 (D : gw_D (40 + 4 * K) q) : cw A0 g K nn dn q w e v f (q 24) = some (pm_ia g 24 (f 24)) := gw_a D (by omega)
theorem cw_a25 (D : gw_D (40 + 4 * K) q) : cw A0 g K nn dn q w e v f (q 25) = some (pm_ia g 160 (f 25)) := gw_a D (by omega)
theorem cw_a35 (D : gw_D (40 + 4 * K) q) : cw A0 g K nn dn q w e v f (q 35) = some (pm_ia g 30 (e 35)) := gw_a D (by omega)
theorem cw_a36 (D : gw_D (40 + 4 * K) q) : cw A0 g K nn dn q w e v f (q 36) = some (pm_ia g 30 (e 36)) := gw_a D (by omega)
theorem cw_a37 (D : gw_D (40 + 4 * K) q) : cw A0 g K nn dn q w e v f (q 37) = some (pm_ia g 30 (e 37)) := gw_a D (by omega)
theorem cw_a38 (D : gw_D (40 + 4 * K) q) : cw A0 g K nn dn q w e v f (q 38) = some (pm_ia g 30 (e 38)) := gw_a D (by omega)
theorem cw_a39 (D : gw_D (40 + 4 * K) q) : cw A0 g K nn dn q w e v f (q 39) = some (pm_ia g 30 (e 39)) := gw_a D (by omega)
theorem cw_wr (D : gw_D (40 + 4 * K) q) {j : Nat} (hj : j < 9) : cw A0 g K nn dn q w e v f (q (26 + j)) = some (pm_ia g 161 (f (26 + j))) := by
  refine (gw_a D (by omega)).trans ?_
  rcases (show j = 0 ∨ j = 1 ∨ j = 2 ∨ j = 3 ∨ j = 4 ∨ j = 5 ∨ j = 6 ∨ j = 7 ∨ j = 8 by omega) with rfl | rfl | rfl | rfl | rfl | rfl | rfl | rfl | rfl <;> rfl
theorem cw_ro_o (D : gw_D (40 + 4 * K) q) {o : Nat} (ho : cw_ro K o) : cw A0 g K nn dn q w e v f (q o) = some (pm_ob 7 [.ref (q (o + 1)), .ref (q (o + 2)), .ref (q (o + 3)), .int (w o), .int (w (o + 1))]) := by
  obtain ⟨h1, h2, h3⟩ := ho
  refine (gw_a D h2).trans ?_
  unfold cw_c
  rw [if_neg (by omega), if_neg (by omega), if_pos h3]
theorem cw_ro_a (D : gw_D (40 + 4 * K) q) {o : Nat} (ho : cw_ro K o) {k : Nat} (hk : 1 ≤ k ∧ k ≤ 3) : cw A0 g K nn dn q w e v f (q (o + k)) = some (pm_ia g 160 (e (o + k))) := by
  obtain ⟨h1, h2, h3⟩ := ho
  refine (gw_a D (by omega)).trans ?_
  unfold cw_c
  rw [if_neg (by omega), if_neg (by omega), if_neg (by omega)]
theorem cw_ro_1 (D : gw_D (40 + 4 * K) q) {o : Nat} (ho : cw_ro K o) : cw A0 g K nn dn q w e v f (q (o + 1)) = some (pm_ia g 160 (e (o + 1))) := cw_ro_a D ho (by omega)
theorem cw_ro_2 (D : gw_D (40 + 4 * K) q) {o : Nat} (ho : cw_ro K o) : cw A0 g K nn dn q w e v f (q (o + 2)) = some (pm_ia g 160 (e (o + 2))) := cw_ro_a D ho (by omega)
theorem cw_ro_3 (D : gw_D (40 + 4 * K) q) {o : Nat} (ho : cw_ro K o) : cw A0 g K nn dn q w e v f (q (o + 3)) = some (pm_ia g 160 (e (o + 3))) := cw_ro_a D ho (by omega)
theorem cw_c_f (i : Nat) (x : Nat → Int32) {j : Nat} (hj : j ≠ i) : cw_c g K nn dn q w e v (va_up f i x) j = cw_c g K nn dn q w e v f j := by
  unfold cw_c
  simp only [va_up, if_neg hj]
theorem cw_c_e (i : Nat) (x : Nat → Int32) {j : Nat} (hj : j ≠ i) : cw_c g K nn dn q w (va_up e i x) v f j = cw_c g K nn dn q w e v f j := by
  unfold cw_c
  simp only [va_up, if_neg hj]
theorem cw_s12 (D : gw_D (40 + 4 * K) q) (x : Nat → Int32) : pm_up (cw A0 g K nn dn q w e v f) (q 12) (pm_ia g 160 x) = cw A0 g K nn dn q w e v (va_up f 12 x) := gw_up D (by omega) rfl (fun _ hj => cw_c_f 12 x hj)
theorem cw_s13 (D : gw_D (40 + 4 * K) q) (x : Nat → Int32) : pm_up (cw A0 g K nn dn q w e v f) (q 13) (pm_ia g 24 x) = cw A0 g K nn dn q w e v (va_up f 13 x) := gw_up D (by omega) rfl (fun _ hj => cw_c_f 13 x hj)
theorem cw_s14 (D : gw_D (40 + 4 * K) q) (x : Nat → Int32) : pm_up (cw A0 g K nn dn q w e v f) (q 14) (pm_ia g 24 x) = cw A0 g K nn dn q w e v (va_up f 14 x) := gw_up D (by omega) rfl (fun _ hj => cw_c_f 14 x hj)
theorem cw_s15 (D : gw_D (40 + 4 * K) q) (x : Nat → Int32) : pm_up (cw A0 g K nn dn q w e v f) (q 15) (pm_ia g 24 x) = cw A0 g K nn dn q w (va_up e 15 x) v f := gw_up D (by omega) rfl (fun _ hj => cw_c_e 15 x hj)
theorem cw_s16 (D : gw_D (40 + 4 * K) q) (x : Nat → Int32) : pm_up (cw A0 g K nn dn q w e v f) (q 16) (pm_ia g 24 x) = cw A0 g K nn dn q w e v (va_up f 16 x) := gw_up D (by omega) rfl (fun _ hj => cw_c_f 16 x hj)
theorem cw_s17 (D : gw_D (40 + 4 * K) q) (x : Nat → Int32) : pm_up (cw A0 g K nn dn q w e v f) (q 17) (pm_ia g 160 x) = cw A0 g K nn dn q w e v (va_up f 17 x) := gw_up D (by omega) rfl (fun _ hj => cw_c_f 17 x hj)
theorem cw_s18 (D : gw_D (40 + 4 * K) q) (x : Nat → Int32) : pm_up (cw A0 g K nn dn q w e v f) (q 18) (pm_ia g 160 x) = cw A0 g K nn dn q w e v (va_up f 18 x) := gw_up D (by omega) rfl (fun _ hj => cw_c_f 18 x hj)
theorem cw_s19 (D : gw_D (40 + 4 * K) q) (x : Nat → Int32) : pm_up (cw A0 g K nn dn q w e v f) (q 19) (pm_ia g 24 x) = cw A0 g K nn dn q w e v (va_up f 19 x) := gw_up D (by omega) rfl (fun _ hj => cw_c_f 19 x hj)
theorem cw_s20 (D : gw_D (40 + 4 * K) q) (x : Nat → Int32) : pm_up (cw A0 g K nn dn q w e v f) (q 20) (pm_ia g 24 x) = cw A0 g K nn dn q w e v (va_up f 20 x) := gw_up D (by omega) rfl (fun _ hj => cw_c_f 20 x hj)
theorem cw_s21 (D : gw_D (40 + 4 * K) q) (x : Nat → Int32) : pm_up (cw A0 g K nn dn q w e v f) (q 21) (pm_ia g 24 x) = cw A0 g K nn dn q w e v (va_up f 21 x) := gw_up D (by omega) rfl (fun _ hj => cw_c_f 21 x hj)
theorem cw_s22 (D : gw_D (40 + 4 * K) q) (x : Nat → Int32) : pm_up (cw A0 g K nn dn q w e v f) (q 22) (pm_ia g 160 x) = cw A0 g K nn dn q w e v (va_up f 22 x) := gw_up D (by omega) rfl (fun _ hj => cw_c_f 22 x hj)
theorem cw_s23 (D : gw_D (40 + 4 * K) q) (x : Nat → Int32) : pm_up (cw A0 g K nn dn q w e v f) (q 23) (pm_ia g 24 x) = cw A0 g K nn dn q w e v (va_up f 23 x) := gw_up D (by omega) rfl (fun _ hj => cw_c_f 23 x hj)
theorem cw_s24 (D : gw_D (40 + 4 * K) q) (x : Nat → Int32) : pm_up (cw A0 g K nn dn q w e v f) (q 24) (pm_ia g 24 x) = cw A0 g K nn dn q w e v (va_up f 24 x) := gw_up D (by omega) rfl (fun _ hj => cw_c_f 24 x hj)
theorem cw_s25 (D : gw_D (40 + 4 * K) q) (x : Nat → Int32) : pm_up (cw A0 g K nn dn q w e v f) (q 25) (pm_ia g 160 x) = cw A0 g K nn dn q w e v (va_up f 25 x) := gw_up D (by omega) rfl (fun _ hj => cw_c_f 25 x hj)
theorem cw_s35 (D : gw_D (40 + 4 * K) q) (x : Nat → Int32) : pm_up (cw A0 g K nn dn q w e v f) (q 35) (pm_ia g 30 x) = cw A0 g K nn dn q w (va_up e 35 x) v f := gw_up D (by omega) rfl (fun _ hj => cw_c_e 35 x hj)
theorem cw_s36 (D : gw_D (40 + 4 * K) q) (x : Nat → Int32) : pm_up (cw A0 g K nn dn q w e v f) (q 36) (pm_ia g 30 x) = cw A0 g K nn dn q w (va_up e 36 x) v f := gw_up D (by omega) rfl (fun _ hj => cw_c_e 36 x hj)
theorem cw_s37 (D : gw_D (40 + 4 * K) q) (x : Nat → Int32) : pm_up (cw A0 g K nn dn q w e v f) (q 37) (pm_ia g 30 x) = cw A0 g K nn dn q w (va_up e 37 x) v f := gw_up D (by omega) rfl (fun _ hj => cw_c_e 37 x hj)
theorem cw_s38 (D : gw_D (40 + 4 * K) q) (x : Nat → Int32) : pm_up (cw A0 g K nn dn q w e v f) (q 38) (pm_ia g 30 x) = cw A0 g K nn dn q w (va_up e 38 x) v f := gw_up D (by omega) rfl (fun _ hj => cw_c_e 38 x hj)
theorem cw_s39 (D : gw_D (40 + 4 * K) q) (x : Nat → Int32) : pm_up (cw A0 g K nn dn q w e v f) (q 39) (pm_ia g 30 x) = cw A0 g K nn dn q w (va_up e 39 x) v f := gw_up D (by omega) rfl (fun _ hj => cw_c_e 39 x hj)
theorem cw_swr (D : gw_D (40 + 4 * K) q) {j : Nat} (hj : j < 9) (x : Nat → Int32) : pm_up (cw A0 g K nn dn q w e v f) (q (26 + j)) (pm_ia g 161 x) = cw A0 g K nn dn q w e v (va_up f (26 + j) x) := by
  refine gw_up D (by omega) ?_ (fun _ hj => cw_c_f _ x hj)
  rcases (show j = 0 ∨ j = 1 ∨ j = 2 ∨ j = 3 ∨ j = 4 ∨ j = 5 ∨ j = 6 ∨ j = 7 ∨ j = 8 by omega) with rfl | rfl | rfl | rfl | rfl | rfl | rfl | rfl | rfl <;> rfl
theorem cw_sr (D : gw_D (40 + 4 * K) q) {o : Nat} (ho : cw_ro K o) {k : Nat} (hk : 1 ≤ k ∧ k ≤ 3) (x : Nat → Int32) : pm_up (cw A0 g K nn dn q w e v f) (q (o + k)) (pm_ia g 160 x) = cw A0 g K nn dn q w (va_up e (o + k) x) v f := by
  obtain ⟨h1, h2, h3⟩ := ho
  refine gw_up D (by omega) ?_ (fun _ hj => cw_c_e _ x hj)
  unfold cw_c
  rw [if_neg (by omega), if_neg (by omega), if_neg (by omega)]
  simp [va_up]
theorem cw_sr_1 (D : gw_D (40 + 4 * K) q) {o : Nat} (ho : cw_ro K o) (x : Nat → Int32) : pm_up (cw A0 g K nn dn q w e v f) (q (o + 1)) (pm_ia g 160 x) = cw A0 g K nn dn q w (va_up e (o + 1) x) v f := cw_sr D ho (by omega) x
theorem cw_sr_2 (D : gw_D (40 + 4 * K) q) {o : Nat} (ho : cw_ro K o) (x : Nat → Int32) : pm_up (cw A0 g K nn dn q w e v f) (q (o + 2)) (pm_ia g 160 x) = cw A0 g K nn dn q w (va_up e (o + 2) x) v f := cw_sr D ho (by omega) x
theorem cw_sr_3 (D : gw_D (40 + 4 * K) q) {o : Nat} (ho : cw_ro K o) (x : Nat → Int32) : pm_up (cw A0 g K nn dn q w e v f) (q (o + 3)) (pm_ia g 160 x) = cw A0 g K nn dn q w (va_up e (o + 3) x) v f := cw_sr D ho (by omega) x
theorem cw_c_v {s o : Nat} (x : Int32) (hf : ∀ j, j < 12 → j ≠ o → cw_fix g K nn dn q w (upd v s x) j = cw_fix g K nn dn q w v j) {j : Nat} (hj : j ≠ o) : cw_c g K nn dn q w e (upd v s x) f j = cw_c g K nn dn q w e v f j := by
  unfold cw_c
  by_cases h : j < 12
  · rw [if_pos h, if_pos h, hf j h hj]
  · rw [if_neg h, if_neg h]
theorem cw_c_w {s o : Nat} (x : Int32) (hs : s < 4) (hf : ∀ j, j < 12 → j ≠ o → cw_fix g K nn dn q (upd w s x) v j = cw_fix g K nn dn q w v j) {j : Nat} (hj : j ≠ o) : cw_c g K nn dn q (upd w s x) e v f j = cw_c g K nn dn q w e v f j := by
  unfold cw_c
  by_cases h : j < 12
  · rw [if_pos h, if_pos h, hf j h hj]
  · rw [if_neg h, if_neg h]
    by_cases h2 : j < 40
    · rw [if_pos h2, if_pos h2]
    · rw [if_neg h2, if_neg h2]
      have e1 : upd w s x j = w j := pk_un (by omega)
      have e2 : upd w s x (j + 1) = w (j + 1) := pk_un (by omega)
      rw [e1, e2]
theorem cw_p_edits (D : gw_D (40 + 4 * K) q) (x : Int32) : pm_up (cw A0 g K nn dn q w e v f) (q 1) (pm_ob 9 (([.ref (q 10), .ref (q 12), .ref (q 13), .ref (q dn), .ref (q nn), .int (w 0), .int (w 1), .int (w 2)] : List Value).set 5 (.int x))) = cw A0 g K nn dn q (upd w 0 x) e v f := gw_up D (by omega) rfl (fun _ hj => cw_c_w x (by decide) (fun j h h2 => by
  rcases (show j = 0 ∨ j = 1 ∨ j = 2 ∨ j = 3 ∨ j = 4 ∨ j = 5 ∨ j = 6 ∨ j = 7 ∨ j = 8 ∨ j = 9 ∨ j = 10 ∨ j = 11 by omega) with rfl | rfl | rfl | rfl | rfl | rfl | rfl | rfl | rfl | rfl | rfl | rfl <;> first | rfl | exact absurd rfl h2) hj)
theorem cw_p_named (D : gw_D (40 + 4 * K) q) (x : Int32) : pm_up (cw A0 g K nn dn q w e v f) (q 1) (pm_ob 9 (([.ref (q 10), .ref (q 12), .ref (q 13), .ref (q dn), .ref (q nn), .int (w 0), .int (w 1), .int (w 2)] : List Value).set 6 (.int x))) = cw A0 g K nn dn q (upd w 1 x) e v f := gw_up D (by omega) rfl (fun _ hj => cw_c_w x (by decide) (fun j h h2 => by
  rcases (show j = 0 ∨ j = 1 ∨ j = 2 ∨ j = 3 ∨ j = 4 ∨ j = 5 ∨ j = 6 ∨ j = 7 ∨ j = 8 ∨ j = 9 ∨ j = 10 ∨ j = 11 by omega) with rfl | rfl | rfl | rfl | rfl | rfl | rfl | rfl | rfl | rfl | rfl | rfl <;> first | rfl | exact absurd rfl h2) hj)
theorem cw_p_touchedInAll (D : gw_D (40 + 4 * K) q) (x : Int32) : pm_up (cw A0 g K nn dn q w e v f) (q 1) (pm_ob 9 (([.ref (q 10), .ref (q 12), .ref (q 13), .ref (q dn), .ref (q nn), .int (w 0), .int (w 1), .int (w 2)] : List Value).set 7 (.int x))) = cw A0 g K nn dn q (upd w 2 x) e v f := gw_up D (by omega) rfl (fun _ hj => cw_c_w x (by decide) (fun j h h2 => by
  rcases (show j = 0 ∨ j = 1 ∨ j = 2 ∨ j = 3 ∨ j = 4 ∨ j = 5 ∨ j = 6 ∨ j = 7 ∨ j = 8 ∨ j = 9 ∨ j = 10 ∨ j = 11 by omega) with rfl | rfl | rfl | rfl | rfl | rfl | rfl | rfl | rfl | rfl | rfl | rfl <;> first | rfl | exact absurd rfl h2) hj)
theorem cw_p_length (D : gw_D (40 + 4 * K) q) (x : Int32) : pm_up (cw A0 g K nn dn q w e v f) (q 2) (pm_ob 2 (([.ref (q 14), .ref (q 15), .int (v 1), .int (v 2), .int (v 3), .int (v 4)] : List Value).set 2 (.int x))) = cw A0 g K nn dn q w e (upd v 1 x) f := gw_up D (by omega) rfl (fun _ hj => cw_c_v x (fun j h h2 => by
  rcases (show j = 0 ∨ j = 1 ∨ j = 2 ∨ j = 3 ∨ j = 4 ∨ j = 5 ∨ j = 6 ∨ j = 7 ∨ j = 8 ∨ j = 9 ∨ j = 10 ∨ j = 11 by omega) with rfl | rfl | rfl | rfl | rfl | rfl | rfl | rfl | rfl | rfl | rfl | rfl <;> first | rfl | exact absurd rfl h2) hj)
theorem cw_p_kinds (D : gw_D (40 + 4 * K) q) (x : Int32) : pm_up (cw A0 g K nn dn q w e v f) (q 2) (pm_ob 2 (([.ref (q 14), .ref (q 15), .int (v 1), .int (v 2), .int (v 3), .int (v 4)] : List Value).set 3 (.int x))) = cw A0 g K nn dn q w e (upd v 2 x) f := gw_up D (by omega) rfl (fun _ hj => cw_c_v x (fun j h h2 => by
  rcases (show j = 0 ∨ j = 1 ∨ j = 2 ∨ j = 3 ∨ j = 4 ∨ j = 5 ∨ j = 6 ∨ j = 7 ∨ j = 8 ∨ j = 9 ∨ j = 10 ∨ j = 11 by omega) with rfl | rfl | rfl | rfl | rfl | rfl | rfl | rfl | rfl | rfl | rfl | rfl <;> first | rfl | exact absurd rfl h2) hj)
theorem cw_p_bits (D : gw_D (40 + 4 * K) q) (x : Int32) : pm_up (cw A0 g K nn dn q w e v f) (q 2) (pm_ob 2 (([.ref (q 14), .ref (q 15), .int (v 1), .int (v 2), .int (v 3), .int (v 4)] : List Value).set 4 (.int x))) = cw A0 g K nn dn q w e (upd v 3 x) f := gw_up D (by omega) rfl (fun _ hj => cw_c_v x (fun j h h2 => by
  rcases (show j = 0 ∨ j = 1 ∨ j = 2 ∨ j = 3 ∨ j = 4 ∨ j = 5 ∨ j = 6 ∨ j = 7 ∨ j = 8 ∨ j = 9 ∨ j = 10 ∨ j = 11 by omega) with rfl | rfl | rfl | rfl | rfl | rfl | rfl | rfl | rfl | rfl | rfl | rfl <;> first | rfl | exact absurd rfl h2) hj)
theorem cw_p_mass (D : gw_D (40 + 4 * K) q) (x : Int32) : pm_up (cw A0 g K nn dn q w e v f) (q 2) (pm_ob 2 (([.ref (q 14), .ref (q 15), .int (v 1), .int (v 2), .int (v 3), .int (v 4)] : List Value).set 5 (.int x))) = cw A0 g K nn dn q w e (upd v 4 x) f := gw_up D (by omega) rfl (fun _ hj => cw_c_v x (fun j h h2 => by
  rcases (show j = 0 ∨ j = 1 ∨ j = 2 ∨ j = 3 ∨ j = 4 ∨ j = 5 ∨ j = 6 ∨ j = 7 ∨ j = 8 ∨ j = 9 ∨ j = 10 ∨ j = 11 by omega) with rfl | rfl | rfl | rfl | rfl | rfl | rfl | rfl | rfl | rfl | rfl | rfl <;> first | rfl | exact absurd rfl h2) hj)
theorem cw_p_found (D : gw_D (40 + 4 * K) q) (x : Int32) : pm_up (cw A0 g K nn dn q w e v f) (q 3) (pm_ob 0 (([.ref (q 16), .ref (q 17), .int (v 0)] : List Value).set 2 (.int x))) = cw A0 g K nn dn q w e (upd v 0 x) f := gw_up D (by omega) rfl (fun _ hj => cw_c_v x (fun j h h2 => by
  rcases (show j = 0 ∨ j = 1 ∨ j = 2 ∨ j = 3 ∨ j = 4 ∨ j = 5 ∨ j = 6 ∨ j = 7 ∨ j = 8 ∨ j = 9 ∨ j = 10 ∨ j = 11 by omega) with rfl | rfl | rfl | rfl | rfl | rfl | rfl | rfl | rfl | rfl | rfl | rfl <;> first | rfl | exact absurd rfl h2) hj)
theorem cw_p_pairDistance (D : gw_D (40 + 4 * K) q) (x : Int32) : pm_up (cw A0 g K nn dn q w e v f) (q 4) (pm_ob 1 (([.ref (q 18), .ref (q 19), .ref (q 20), .int (v 5), .int (v 6)] : List Value).set 3 (.int x))) = cw A0 g K nn dn q w e (upd v 5 x) f := gw_up D (by omega) rfl (fun _ hj => cw_c_v x (fun j h h2 => by
  rcases (show j = 0 ∨ j = 1 ∨ j = 2 ∨ j = 3 ∨ j = 4 ∨ j = 5 ∨ j = 6 ∨ j = 7 ∨ j = 8 ∨ j = 9 ∨ j = 10 ∨ j = 11 by omega) with rfl | rfl | rfl | rfl | rfl | rfl | rfl | rfl | rfl | rfl | rfl | rfl <;> first | rfl | exact absurd rfl h2) hj)
theorem cw_p_pairFirst (D : gw_D (40 + 4 * K) q) (x : Int32) : pm_up (cw A0 g K nn dn q w e v f) (q 4) (pm_ob 1 (([.ref (q 18), .ref (q 19), .ref (q 20), .int (v 5), .int (v 6)] : List Value).set 4 (.int x))) = cw A0 g K nn dn q w e (upd v 6 x) f := gw_up D (by omega) rfl (fun _ hj => cw_c_v x (fun j h h2 => by
  rcases (show j = 0 ∨ j = 1 ∨ j = 2 ∨ j = 3 ∨ j = 4 ∨ j = 5 ∨ j = 6 ∨ j = 7 ∨ j = 8 ∨ j = 9 ∨ j = 10 ∨ j = 11 by omega) with rfl | rfl | rfl | rfl | rfl | rfl | rfl | rfl | rfl | rfl | rfl | rfl <;> first | rfl | exact absurd rfl h2) hj)
theorem cw_p_first (D : gw_D (40 + 4 * K) q) (x : Int32) : pm_up (cw A0 g K nn dn q w e v f) (q 5) (pm_ob 6 (([.ref (q 21), .int (v 7), .int (v 8), .int (v 9), .int (v 10)] : List Value).set 1 (.int x))) = cw A0 g K nn dn q w e (upd v 7 x) f := gw_up D (by omega) rfl (fun _ hj => cw_c_v x (fun j h h2 => by
  rcases (show j = 0 ∨ j = 1 ∨ j = 2 ∨ j = 3 ∨ j = 4 ∨ j = 5 ∨ j = 6 ∨ j = 7 ∨ j = 8 ∨ j = 9 ∨ j = 10 ∨ j = 11 by omega) with rfl | rfl | rfl | rfl | rfl | rfl | rfl | rfl | rfl | rfl | rfl | rfl <;> first | rfl | exact absurd rfl h2) hj)
theorem cw_p_last (D : gw_D (40 + 4 * K) q) (x : Int32) : pm_up (cw A0 g K nn dn q w e v f) (q 5) (pm_ob 6 (([.ref (q 21), .int (v 7), .int (v 8), .int (v 9), .int (v 10)] : List Value).set 2 (.int x))) = cw A0 g K nn dn q w e (upd v 8 x) f := gw_up D (by omega) rfl (fun _ hj => cw_c_v x (fun j h h2 => by
  rcases (show j = 0 ∨ j = 1 ∨ j = 2 ∨ j = 3 ∨ j = 4 ∨ j = 5 ∨ j = 6 ∨ j = 7 ∨ j = 8 ∨ j = 9 ∨ j = 10 ∨ j = 11 by omega) with rfl | rfl | rfl | rfl | rfl | rfl | rfl | rfl | rfl | rfl | rfl | rfl <;> first | rfl | exact absurd rfl h2) hj)
theorem cw_p_massFound (D : gw_D (40 + 4 * K) q) (x : Int32) : pm_up (cw A0 g K nn dn q w e v f) (q 5) (pm_ob 6 (([.ref (q 21), .int (v 7), .int (v 8), .int (v 9), .int (v 10)] : List Value).set 3 (.int x))) = cw A0 g K nn dn q w e (upd v 9 x) f := gw_up D (by omega) rfl (fun _ hj => cw_c_v x (fun j h h2 => by
  rcases (show j = 0 ∨ j = 1 ∨ j = 2 ∨ j = 3 ∨ j = 4 ∨ j = 5 ∨ j = 6 ∨ j = 7 ∨ j = 8 ∨ j = 9 ∨ j = 10 ∨ j = 11 by omega) with rfl | rfl | rfl | rfl | rfl | rfl | rfl | rfl | rfl | rfl | rfl | rfl <;> first | rfl | exact absurd rfl h2) hj)
theorem cw_p_spansWithAll (D : gw_D (40 + 4 * K) q) (x : Int32) : pm_up (cw A0 g K nn dn q w e v f) (q 5) (pm_ob 6 (([.ref (q 21), .int (v 7), .int (v 8), .int (v 9), .int (v 10)] : List Value).set 4 (.int x))) = cw A0 g K nn dn q w e (upd v 10 x) f := gw_up D (by omega) rfl (fun _ hj => cw_c_v x (fun j h h2 => by
  rcases (show j = 0 ∨ j = 1 ∨ j = 2 ∨ j = 3 ∨ j = 4 ∨ j = 5 ∨ j = 6 ∨ j = 7 ∨ j = 8 ∨ j = 9 ∨ j = 10 ∨ j = 11 by omega) with rfl | rfl | rfl | rfl | rfl | rfl | rfl | rfl | rfl | rfl | rfl | rfl <;> first | rfl | exact absurd rfl h2) hj)
theorem cw_p_missed (D : gw_D (40 + 4 * K) q) (x : Int32) : pm_up (cw A0 g K nn dn q w e v f) (q 6) (pm_ob 8 (([.ref (q 22), .ref (q 23), .ref (q 24), .int (v 11), .int (v 12)] : List Value).set 3 (.int x))) = cw A0 g K nn dn q w e (upd v 11 x) f := gw_up D (by omega) rfl (fun _ hj => cw_c_v x (fun j h h2 => by
  rcases (show j = 0 ∨ j = 1 ∨ j = 2 ∨ j = 3 ∨ j = 4 ∨ j = 5 ∨ j = 6 ∨ j = 7 ∨ j = 8 ∨ j = 9 ∨ j = 10 ∨ j = 11 by omega) with rfl | rfl | rfl | rfl | rfl | rfl | rfl | rfl | rfl | rfl | rfl | rfl <;> first | rfl | exact absurd rfl h2) hj)
theorem cw_p_sbits (D : gw_D (40 + 4 * K) q) (x : Int32) : pm_up (cw A0 g K nn dn q w e v f) (q 6) (pm_ob 8 (([.ref (q 22), .ref (q 23), .ref (q 24), .int (v 11), .int (v 12)] : List Value).set 4 (.int x))) = cw A0 g K nn dn q w e (upd v 12 x) f := gw_up D (by omega) rfl (fun _ hj => cw_c_v x (fun j h h2 => by
  rcases (show j = 0 ∨ j = 1 ∨ j = 2 ∨ j = 3 ∨ j = 4 ∨ j = 5 ∨ j = 6 ∨ j = 7 ∨ j = 8 ∨ j = 9 ∨ j = 10 ∨ j = 11 by omega) with rfl | rfl | rfl | rfl | rfl | rfl | rfl | rfl | rfl | rfl | rfl | rfl <;> first | rfl | exact absurd rfl h2) hj)
theorem cw_p_twinFirst (D : gw_D (40 + 4 * K) q) (x : Int32) : pm_up (cw A0 g K nn dn q w e v f) (q 7) (pm_ob 4 (([.ref (q 25), .int (v 13), .int (v 14)] : List Value).set 1 (.int x))) = cw A0 g K nn dn q w e (upd v 13 x) f := gw_up D (by omega) rfl (fun _ hj => cw_c_v x (fun j h h2 => by
  rcases (show j = 0 ∨ j = 1 ∨ j = 2 ∨ j = 3 ∨ j = 4 ∨ j = 5 ∨ j = 6 ∨ j = 7 ∨ j = 8 ∨ j = 9 ∨ j = 10 ∨ j = 11 by omega) with rfl | rfl | rfl | rfl | rfl | rfl | rfl | rfl | rfl | rfl | rfl | rfl <;> first | rfl | exact absurd rfl h2) hj)
theorem cw_p_twinLength (D : gw_D (40 + 4 * K) q) (x : Int32) : pm_up (cw A0 g K nn dn q w e v f) (q 7) (pm_ob 4 (([.ref (q 25), .int (v 13), .int (v 14)] : List Value).set 2 (.int x))) = cw A0 g K nn dn q w e (upd v 14 x) f := gw_up D (by omega) rfl (fun _ hj => cw_c_v x (fun j h h2 => by
  rcases (show j = 0 ∨ j = 1 ∨ j = 2 ∨ j = 3 ∨ j = 4 ∨ j = 5 ∨ j = 6 ∨ j = 7 ∨ j = 8 ∨ j = 9 ∨ j = 10 ∨ j = 11 by omega) with rfl | rfl | rfl | rfl | rfl | rfl | rfl | rfl | rfl | rfl | rfl | rfl <;> first | rfl | exact absurd rfl h2) hj)
theorem cw_p_number (D : gw_D (40 + 4 * K) q) (x : Int32) : pm_up (cw A0 g K nn dn q w e v f) (q 9) (pm_ob 5 (([.ref (q 35), .ref (q 36), .ref (q 37), .ref (q 38), .ref (q 39), .int (w 3)] : List Value).set 5 (.int x))) = cw A0 g K nn dn q (upd w 3 x) e v f := gw_up D (by omega) rfl (fun _ hj => cw_c_w x (by decide) (fun j h h2 => by
  rcases (show j = 0 ∨ j = 1 ∨ j = 2 ∨ j = 3 ∨ j = 4 ∨ j = 5 ∨ j = 6 ∨ j = 7 ∨ j = 8 ∨ j = 9 ∨ j = 10 ∨ j = 11 by omega) with rfl | rfl | rfl | rfl | rfl | rfl | rfl | rfl | rfl | rfl | rfl | rfl <;> first | rfl | exact absurd rfl h2) hj)
theorem cw_p_draft (D : gw_D (40 + 4 * K) q) (o : Nat) : pm_up (cw A0 g K nn dn q w e v f) (q 1) (pm_ob 9 (([.ref (q 10), .ref (q 12), .ref (q 13), .ref (q dn), .ref (q nn), .int (w 0), .int (w 1), .int (w 2)] : List Value).set 3 (.ref (q o)))) = cw A0 g K nn o q w e v f := gw_up D (by omega) rfl (fun j hj => by
  unfold cw_c
  by_cases h : j < 12
  · rw [if_pos h, if_pos h]
    rcases (show j = 0 ∨ j = 1 ∨ j = 2 ∨ j = 3 ∨ j = 4 ∨ j = 5 ∨ j = 6 ∨ j = 7 ∨ j = 8 ∨ j = 9 ∨ j = 10 ∨ j = 11 by omega) with rfl | rfl | rfl | rfl | rfl | rfl | rfl | rfl | rfl | rfl | rfl | rfl <;> first | rfl | exact absurd rfl hj
  · rw [if_neg h, if_neg h])
theorem cw_p_now (D : gw_D (40 + 4 * K) q) (o : Nat) : pm_up (cw A0 g K nn dn q w e v f) (q 1) (pm_ob 9 (([.ref (q 10), .ref (q 12), .ref (q 13), .ref (q dn), .ref (q nn), .int (w 0), .int (w 1), .int (w 2)] : List Value).set 4 (.ref (q o)))) = cw A0 g K o dn q w e v f := gw_up D (by omega) rfl (fun j hj => by
  unfold cw_c
  by_cases h : j < 12
  · rw [if_pos h, if_pos h]
    rcases (show j = 0 ∨ j = 1 ∨ j = 2 ∨ j = 3 ∨ j = 4 ∨ j = 5 ∨ j = 6 ∨ j = 7 ∨ j = 8 ∨ j = 9 ∨ j = 10 ∨ j = 11 by omega) with rfl | rfl | rfl | rfl | rfl | rfl | rfl | rfl | rfl | rfl | rfl | rfl <;> first | rfl | exact absurd rfl hj
  · rw [if_neg h, if_neg h])
theorem cw_p_size (D : gw_D (40 + 4 * K) q) {o : Nat} (ho : cw_ro K o) (x : Int32) : pm_up (cw A0 g K nn dn q w e v f) (q o) (pm_ob 7 (([.ref (q (o + 1)), .ref (q (o + 2)), .ref (q (o + 3)), .int (w o), .int (w (o + 1))] : List Value).set 3 (.int x))) = cw A0 g K nn dn q (upd w o x) e v f := by
  obtain ⟨h1, h2, h3⟩ := ho
  refine gw_up D h2 ?_ (fun j hj => ?_)
  · unfold cw_c
    rw [if_neg (by omega), if_neg (by omega), if_pos h3]
    simp [upd]
  · unfold cw_c
    by_cases h : j < 12
    · rw [if_pos h, if_pos h]
      have e0 : upd w o x 0 = w 0 := pk_un (by omega)
      have e1 : upd w o x 1 = w 1 := pk_un (by omega)
      have e2 : upd w o x 2 = w 2 := pk_un (by omega)
      have e3 : upd w o x 3 = w 3 := pk_un (by omega)
      rcases (show j = 0 ∨ j = 1 ∨ j = 2 ∨ j = 3 ∨ j = 4 ∨ j = 5 ∨ j = 6 ∨ j = 7 ∨ j = 8 ∨ j = 9 ∨ j = 10 ∨ j = 11 by omega) with rfl | rfl | rfl | rfl | rfl | rfl | rfl | rfl | rfl | rfl | rfl | rfl <;> first | rfl | (simp only [cw_fix, e0, e1, e2, e3])
    · rw [if_neg h, if_neg h]
      by_cases h4 : j < 40
      · rw [if_pos h4, if_pos h4]
      · rw [if_neg h4, if_neg h4]
        by_cases h5 : j % 4 = 0
        · rw [if_pos h5, if_pos h5]
          have e1 : upd w o x j = w j := pk_un (by omega)
          have e2 : upd w o x (j + 1) = w (j + 1) := pk_un (by omega)
          rw [e1, e2]
        · rw [if_neg h5, if_neg h5]
theorem cw_p_touches (D : gw_D (40 + 4 * K) q) {o : Nat} (ho : cw_ro K o) (x : Int32) : pm_up (cw A0 g K nn dn q w e v f) (q o) (pm_ob 7 (([.ref (q (o + 1)), .ref (q (o + 2)), .ref (q (o + 3)), .int (w o), .int (w (o + 1))] : List Value).set 4 (.int x))) = cw A0 g K nn dn q (upd w (o + 1) x) e v f := by
  obtain ⟨h1, h2, h3⟩ := ho
  refine gw_up D h2 ?_ (fun j hj => ?_)
  · unfold cw_c
    rw [if_neg (by omega), if_neg (by omega), if_pos h3]
    simp [upd]
  · unfold cw_c
    by_cases h : j < 12
    · rw [if_pos h, if_pos h]
      have e0 : upd w (o + 1) x 0 = w 0 := pk_un (by omega)
      have e1 : upd w (o + 1) x 1 = w 1 := pk_un (by omega)
      have e2 : upd w (o + 1) x 2 = w 2 := pk_un (by omega)
      have e3 : upd w (o + 1) x 3 = w 3 := pk_un (by omega)
      rcases (show j = 0 ∨ j = 1 ∨ j = 2 ∨ j = 3 ∨ j = 4 ∨ j = 5 ∨ j = 6 ∨ j = 7 ∨ j = 8 ∨ j = 9 ∨ j = 10 ∨ j = 11 by omega) with rfl | rfl | rfl | rfl | rfl | rfl | rfl | rfl | rfl | rfl | rfl | rfl <;> first | rfl | (simp only [cw_fix, e0, e1, e2, e3])
    · rw [if_neg h, if_neg h]
      by_cases h4 : j < 40
      · rw [if_pos h4, if_pos h4]
      · rw [if_neg h4, if_neg h4]
        by_cases h5 : j % 4 = 0
        · rw [if_pos h5, if_pos h5]
          have e1 : upd w (o + 1) x j = w j := pk_un (by omega)
          have e2 : upd w (o + 1) x (j + 1) = w (j + 1) := pk_un (by omega)
          rw [e1, e2]
        · rw [if_neg h5, if_neg h5]
end CW
/-! what is always so of the class's cells -/
def cw_W (K nn dn : Nat) (w : Nat → Int32) : Prop := (1 ≤ K ∧ K ≤ 41) ∧ (40 ≤ nn ∧ nn < 40 + 4 * K ∧ nn % 4 = 0) ∧ (40 ≤ dn ∧ dn < 40 + 4 * K ∧ dn % 4 = 0) ∧ (0 ≤ (w 0).toInt ∧ (w 0).toInt ≤ 100000) ∧ ((w 0).toInt + 1 ≤ K ∨ K = 41) ∧ (0 ≤ (w 1).toInt ∧ (w 1).toInt ≤ 10000) ∧ (0 ≤ (w 3).toInt ∧ (w 3).toInt ≤ 30)
def cw_Z (w : Nat → Int32) : Prop := ∀ o : Nat, 40 ≤ o → o % 4 = 0 → 0 ≤ (w o).toInt ∧ (w o).toInt ≤ 160
def cw_E (e : Nat → Nat → Int32) : Prop := ∀ o : Nat, 40 ≤ o → o % 4 = 0 → ∀ j : Nat, (0 ≤ (e (o + 1) j).toInt ∧ (e (o + 1) j).toInt ≤ 23) ∧ (-1 ≤ (e (o + 3) j).toInt ∧ (e (o + 3) j).toInt ≤ 159)
def cw_S (v : Nat → Int32) (f : Nat → Nat → Int32) : Prop := (0 ≤ (v 0).toInt ∧ (v 0).toInt ≤ 24) ∧ (∀ j : Nat, 0 ≤ (f 16 j).toInt ∧ (f 16 j).toInt ≤ 23) ∧ ∀ j : Nat, -1 ≤ (f 13 j).toInt ∧ (f 13 j).toInt ≤ 159
def cw_I (K nn dn : Nat) (q : Nat → Nat) (w : Nat → Int32) (e : Nat → Nat → Int32) : Prop := gw_D (40 + 4 * K) q ∧ cw_W K nn dn w ∧ cw_Z w ∧ cw_E e
theorem cw_S_v {v : Nat → Int32} {f : Nat → Nat → Int32} (h : cw_S v f) (s : Nat) (x : Int32) (hs : s ≠ 0) : cw_S (upd v s x) f := ⟨by rw [pk_un (Ne.symm hs)]; exact h.1, h.2⟩
theorem cw_S_v0 {v : Nat → Int32} {f : Nat → Nat → Int32} (h : cw_S v f) (x : Int32) (hx : 0 ≤ x.toInt ∧ x.toInt ≤ 24) : cw_S (upd v 0 x) f := ⟨by rw [pk_us]; exact hx, h.2⟩
theorem cw_S_fr {v : Nat → Int32} {f : Nat → Nat → Int32} (h : cw_S v f) (i : Nat) (r : Nat → Int32) (h1 : i ≠ 16) (h2 : i ≠ 13) : cw_S v (va_up f i r) := ⟨h.1, by
  have e1 : va_up f i r 16 = f 16 := by simp [va_up, Ne.symm h1]
  have e2 : va_up f i r 13 = f 13 := by simp [va_up, Ne.symm h2]
  rw [e1, e2]; exact h.2⟩
theorem cw_S_f16 {v : Nat → Int32} {f : Nat → Nat → Int32} (h : cw_S v f) (k : Nat) (x : Int32) (hx : 0 ≤ x.toInt ∧ x.toInt ≤ 23) : cw_S v (va_up f 16 (upd (f 16) k x)) := by
  refine ⟨h.1, fun j => ?_, h.2.2⟩
  show 0 ≤ (upd (f 16) k x j).toInt ∧ (upd (f 16) k x j).toInt ≤ 23
  by_cases hj : j = k
  · subst hj; rw [pk_us]; exact hx
  · rw [pk_un hj]; exact h.2.1 j
theorem cw_S_f13 {v : Nat → Int32} {f : Nat → Nat → Int32} (h : cw_S v f) (k : Nat) (x : Int32) (hx : -1 ≤ x.toInt ∧ x.toInt ≤ 159) : cw_S v (va_up f 13 (upd (f 13) k x)) := by
  refine ⟨h.1, h.2.1, fun j => ?_⟩
  show -1 ≤ (upd (f 13) k x j).toInt ∧ (upd (f 13) k x j).toInt ≤ 159
  by_cases hj : j = k
  · subst hj; rw [pk_us]; exact hx
  · rw [pk_un hj]; exact h.2.2 j
theorem cw_E_up {e : Nat → Nat → Int32} (h : cw_E e) (i : Nat) (r : Nat → Int32) (h1 : 40 ≤ i → i % 4 = 1 → ∀ j, 0 ≤ (r j).toInt ∧ (r j).toInt ≤ 23) (h3 : 40 ≤ i → i % 4 = 3 → ∀ j, -1 ≤ (r j).toInt ∧ (r j).toInt ≤ 159) : cw_E (va_up e i r) := by
  intro o ho hm j
  constructor
  · by_cases hi : o + 1 = i
    · simp only [va_up, if_pos hi]; exact h1 (by omega) (by omega) j
    · simp only [va_up, if_neg hi]; exact (h o ho hm j).1
  · by_cases hi : o + 3 = i
    · simp only [va_up, if_pos hi]; exact h3 (by omega) (by omega) j
    · simp only [va_up, if_neg hi]; exact (h o ho hm j).2
theorem cw_E_1 {e : Nat → Nat → Int32} (h : cw_E e) {o : Nat} (ho : 40 ≤ o ∧ o % 4 = 0) (k : Nat) (x : Int32) (hx : 0 ≤ x.toInt ∧ x.toInt ≤ 23) : cw_E (va_up e (o + 1) (upd (e (o + 1)) k x)) := cw_E_up h _ _ (fun _ _ j => by
  by_cases hj : j = k
  · subst hj; rw [pk_us]; exact hx
  · rw [pk_un hj]; exact (h o ho.1 ho.2 j).1) (fun _ h => by omega)
theorem cw_E_2 {e : Nat → Nat → Int32} (h : cw_E e) {o : Nat} (ho : 40 ≤ o ∧ o % 4 = 0) (r : Nat → Int32) : cw_E (va_up e (o + 2) r) := cw_E_up h _ _ (fun _ h => by omega) (fun _ h => by omega)
theorem cw_E_3 {e : Nat → Nat → Int32} (h : cw_E e) {o : Nat} (ho : 40 ≤ o ∧ o % 4 = 0) (k : Nat) (x : Int32) (hx : -1 ≤ x.toInt ∧ x.toInt ≤ 159) : cw_E (va_up e (o + 3) (upd (e (o + 3)) k x)) := cw_E_up h _ _ (fun _ h => by omega) (fun _ _ j => by
  by_cases hj : j = k
  · subst hj; rw [pk_us]; exact hx
  · rw [pk_un hj]; exact (h o ho.1 ho.2 j).2)
theorem cw_Z_up {w : Nat → Int32} (h : cw_Z w) (s : Nat) (x : Int32) (hs : s < 40 ∨ s % 4 = 1 ∨ (0 ≤ x.toInt ∧ x.toInt ≤ 160)) : cw_Z (upd w s x) := by
  intro o h1 h2
  by_cases ho : o = s
  · subst ho
    rw [pk_us]
    rcases hs with h | h | h
    · omega
    · omega
    · exact h
  · rw [pk_un ho]; exact h o h1 h2
theorem cw_rr_c {K : Nat} (q : Nat → Nat) (j : Nat) : cw_rr K q j = none ∨ ∃ o, cw_rr K q j = some (q o) ∧ cw_ro K o := by
  unfold cw_rr
  by_cases h : j < K
  · rw [if_pos h]
    exact Or.inr ⟨_, rfl, by unfold cw_ro; omega⟩
  · rw [if_neg h]
    exact Or.inl rfl
theorem cw_sz {K nn dn : Nat} {q : Nat → Nat} {w : Nat → Int32} {e : Nat → Nat → Int32} (hI : cw_I K nn dn q w e) {o : Nat} (ho : cw_ro K o) : 0 ≤ (w o).toInt ∧ (w o).toInt ≤ 160 := hI.2.2.1 o ho.1 ho.2.2
theorem cw_col {K nn dn : Nat} {q : Nat → Nat} {w : Nat → Int32} {e : Nat → Nat → Int32} (hI : cw_I K nn dn q w e) {o : Nat} (ho : cw_ro K o) (j : Nat) : 0 ≤ (e (o + 1) j).toInt ∧ (e (o + 1) j).toInt ≤ 23 := (hI.2.2.2 o ho.1 ho.2.2 j).1
theorem cw_ahd {K nn dn : Nat} {q : Nat → Nat} {w : Nat → Int32} {e : Nat → Nat → Int32} (hI : cw_I K nn dn q w e) {o : Nat} (ho : cw_ro K o) (j : Nat) : -1 ≤ (e (o + 3) j).toInt ∧ (e (o + 3) j).toInt ≤ 159 := (hI.2.2.2 o ho.1 ho.2.2 j).2
theorem cw_S_fl {v : Nat → Int32} {f : Nat → Nat → Int32} (h : cw_S v f) (n : Nat) (x : Int32) (hx : -1 ≤ x.toInt ∧ x.toInt ≤ 159) : cw_S v (va_up f 13 (fun j => if j < n then x else f 13 j)) := by
  refine ⟨h.1, h.2.1, fun j => ?_⟩
  show -1 ≤ (if j < n then x else f 13 j).toInt ∧ (if j < n then x else f 13 j).toInt ≤ 159
  split
  · exact hx
  · exact h.2.2 j
/-! the ends of its contracts -/
def cw_Qs (A0 : pm_H) (g : pm_G) (K nn dn : Nat) (q : Nat → Nat) (w : Nat → Int32) (e : Nat → Nat → Int32) (P : Option Value → (Nat → Int32) → (Nat → Nat → Int32) → Prop) : Option Value → pm_H → Prop := fun r A' => ∃ (v2 : Nat → Int32) (f2 : Nat → Nat → Int32), A' = cw A0 g K nn dn q w e v2 f2 ∧ cw_S v2 f2 ∧ P r v2 f2
def cw_Qt (A0 : pm_H) (g : pm_G) (K nn dn : Nat) (q : Nat → Nat) (P : Option Value → (Nat → Int32) → (Nat → Nat → Int32) → Prop) : Option Value → pm_H → Prop := fun r A' => ∃ (w2 : Nat → Int32) (e2 : Nat → Nat → Int32) (v2 : Nat → Int32) (f2 : Nat → Nat → Int32), A' = cw A0 g K nn dn q w2 e2 v2 f2 ∧ cw_I K nn dn q w2 e2 ∧ cw_S v2 f2 ∧ P r w2 e2
def cw_X (A0 : pm_H) (K : Nat) (q : Nat → Nat) (K2 : Nat) (q2 : Nat → Nat) : Prop := K ≤ K2 ∧ (∀ i, i < 40 + 4 * K → q2 i = q i) ∧ ∀ i, 40 + 4 * K ≤ i → i < 40 + 4 * K2 → A0 (q2 i) = none
theorem cw_X_r {A0 : pm_H} {K : Nat} {q : Nat → Nat} : cw_X A0 K q K q := ⟨Nat.le_refl _, fun _ _ => rfl, fun _ h1 h2 => absurd h2 (by omega)⟩
def cw_Qb (A0 : pm_H) (g : pm_G) (K nn : Nat) (q : Nat → Nat) (P : Option Value → Nat → Nat → Nat → (Nat → Int32) → (Nat → Nat → Int32) → Prop) : Option Value → pm_H → Prop := fun r A' => ∃ (K2 nn2 dn2 : Nat) (q2 : Nat → Nat) (w2 : Nat → Int32) (e2 : Nat → Nat → Int32) (v2 : Nat → Int32) (f2 : Nat → Nat → Int32), A' = cw A0 g K2 nn2 dn2 q2 w2 e2 v2 f2 ∧ cw_I K2 nn2 dn2 q2 w2 e2 ∧ cw_S v2 f2 ∧ cw_X A0 K q K2 q2 ∧ P r K2 nn2 dn2 w2 e2