section
/-! the class: its cells by number (0 the object .. 9 its parts, 10 the rows, 11 the worths, 12 .. 39 rows of ints, 40 + 4 m the m-th row with its three rows of ints); what lasts: w, e; scratch: v, f -/
noncomputable def gw (A0 : pm_H) (N : Nat) (q : Nat → Nat) (c : Nat → va_E) : pm_H := fun a => match (List.range N).find? (fun i => decide (a = q i)) with
  | some i => some (c i)
  | none => A0 a
noncomputable def gw_D (N : Nat) (q : Nat → Nat) : Prop := ∀ i j, i < N → j < N → q i = q j → i = j
theorem gw_find {N : Nat} {q : Nat → Nat} (D : gw_D N q) {i : Nat} (hi : i < N) : (List.range N).find? (fun j => decide (q i = q j)) = some i := by
  cases hx : (List.range N).find? (fun j => decide (q i = q j)) with
  | none =>
    have := List.find?_eq_none.mp hx i (List.mem_range.mpr hi)
    simp at this
  | some j =>
    have h1 := List.find?_some hx
    have h2 := List.mem_range.mp (List.mem_of_find?_eq_some hx)
    have h3 : q i = q j := by simpa using h1
    rw [D i j hi h2 h3]
theorem gw_a {A0 : pm_H} {N : Nat} {q : Nat → Nat} {c : Nat → va_E} (D : gw_D N q) {i : Nat} (hi : i < N) : gw A0 N q c (q i) = some (c i) := by
  unfold gw
  rw [gw_find D hi]
theorem gw_out {A0 : pm_H} {N : Nat} {q : Nat → Nat} {c : Nat → va_E} {a : Nat} (h : ∀ i, i < N → a ≠ q i) : gw A0 N q c a = A0 a := by
  unfold gw
  cases hx : (List.range N).find? (fun j => decide (a = q j)) with
  | none => rfl
  | some j =>
    have h1 : a = q j := by simpa using List.find?_some hx
    have h2 := List.mem_range.mp (List.mem_of_find?_eq_some hx)
    exact absurd h1 (h j h2)
theorem gw_none {A0 : pm_H} {N : Nat} {q : Nat → Nat} {c : Nat → va_E} {a : Nat} (h : gw A0 N q c a = none) : (∀ i, i < N → a ≠ q i) ∧ A0 a = none := by
  unfold gw at h
  cases hx : (List.range N).find? (fun j => decide (a = q j)) with
  | none =>
    rw [hx] at h
    refine ⟨fun i hi e => ?_, h⟩
    have := List.find?_eq_none.mp hx i (List.mem_range.mpr hi)
    simp [e] at this
  | some j => rw [hx] at h; cases h
theorem gw_up {A0 : pm_H} {N : Nat} {q : Nat → Nat} {c c' : Nat → va_E} {e : va_E} (D : gw_D N q) {i : Nat} (hi : i < N) (he : c' i = e) (h : ∀ j, j ≠ i → c' j = c j) : pm_up (gw A0 N q c) (q i) e = gw A0 N q c' := by
  funext a
  by_cases ha : a = q i
  · subst ha
    rw [pm_up_s, gw_a D hi, he]
  · rw [pm_up_n ha]
    unfold gw
    cases hx : (List.range N).find? (fun j => decide (a = q j)) with
    | none => rfl
    | some j =>
      have h3 : a = q j := by simpa using List.find?_some hx
      have hj : j ≠ i := fun e => ha (by rw [h3, e])
      show some (c j) = some (c' j)
      rw [h j hj]
noncomputable def cw_rr (K : Nat) (q : Nat → Nat) (j : Nat) : Option Nat := if j < K then some (q (40 + 4 * j)) else none
noncomputable def cw_ww (q : Nat → Nat) (j : Nat) : Option Nat := if j < 9 then some (q (26 + j)) else none
theorem cw_ww_lt {q : Nat → Nat} {j : Nat} (h : j < 9) : cw_ww q j = some (q (26 + j)) := if_pos h
noncomputable def cw_fix (g : pm_G) (K nn dn : Nat) (q : Nat → Nat) (w v : Nat → Int32) : Nat → va_E
  | 0 => pm_ob 10 [.ref (q 1), .ref (q 2), .ref (q 3), .ref (q 4), .ref (q 5), .ref (q 6), .ref (q 7), .ref (q 8), .ref (q 9)]
  | 1 => pm_ob 9 [.ref (q 10), .ref (q 12), .ref (q 13), .ref (q dn), .ref (q nn), .int (w 0), .int (w 1), .int (w 2)]
  | 2 => pm_ob 2 [.ref (q 14), .ref (q 15), .int (v 1), .int (v 2), .int (v 3), .int (v 4)]
  | 3 => pm_ob 0 [.ref (q 16), .ref (q 17), .int (v 0)]
  | 4 => pm_ob 1 [.ref (q 18), .ref (q 19), .ref (q 20), .int (v 5), .int (v 6)]
  | 5 => pm_ob 6 [.ref (q 21), .int (v 7), .int (v 8), .int (v 9), .int (v 10)]
  | 6 => pm_ob 8 [.ref (q 22), .ref (q 23), .ref (q 24), .int (v 11), .int (v 12)]
  | 7 => pm_ob 4 [.ref (q 25), .int (v 13), .int (v 14)]
  | 8 => pm_ob 3 [.ref (q 11)]
  | 9 => pm_ob 5 [.ref (q 35), .ref (q 36), .ref (q 37), .ref (q 38), .ref (q 39), .int (w 3)]
  | 10 => pm_ra g 41 (cw_rr K q)
  | _ => pm_ma g 9 (cw_ww q)
noncomputable def cw_ln (i : Nat) : Nat := ([160, 24, 24, 24, 24, 160, 160, 24, 24, 24, 160, 24, 24, 160, 161, 161, 161, 161, 161, 161, 161, 161, 161, 30, 30, 30, 30, 30] : List Nat).getD (i - 12) 0
noncomputable def cw_pe (i : Nat) : Bool := Nat.beq i 15 || Nat.ble 35 i
noncomputable def cw_c (g : pm_G) (K nn dn : Nat) (q : Nat → Nat) (w : Nat → Int32) (e : Nat → Nat → Int32) (v : Nat → Int32) (f : Nat → Nat → Int32) (i : Nat) : va_E :=
  if i < 12 then cw_fix g K nn dn q w v i else if i < 40 then pm_ia g (cw_ln i) (if cw_pe i = true then e i else f i) else if i % 4 = 0 then pm_ob 7 [.ref (q (i + 1)), .ref (q (i + 2)), .ref (q (i + 3)), .int (w i), .int (w (i + 1))] else pm_ia g 160 (e i)
noncomputable def cw (A0 : pm_H) (g : pm_G) (K nn dn : Nat) (q : Nat → Nat) (w : Nat → Int32) (e : Nat → Nat → Int32) (v : Nat → Int32) (f : Nat → Nat → Int32) : pm_H := gw A0 (40 + 4 * K) q (cw_c g K nn dn q w e v f)
noncomputable def cw_ro (K o : Nat) : Prop := 40 ≤ o ∧ o < 40 + 4 * K ∧ o % 4 = 0
section CW
variable {A0 : pm_H} {g : pm_G} {K nn dn : Nat} {q : Nat → Nat} {w : Nat → Int32} {e : Nat → Nat → Int32} {v : Nat → Int32} {f : Nat → Nat → Int32}
theorem cw_o0 (D : gw_D (40 + 4 * K) q) : cw A0 g K nn dn q w e v f (q 0) = some (pm_ob 10 [.ref (q 1), .ref (q 2), .ref (q 3), .ref (q 4), .ref (q 5), .ref (q 6), .ref (q 7), .ref (q 8), .ref (q 9)]) := gw_a D (by omega)
theorem cw_o1 (D : gw_D (40 + 4 * K) q) : cw A0 g K nn dn q w e v f (q 1) = some (pm_ob 9 [.ref (q 10), .ref (q 12), .ref (q 13), .ref (q dn), .ref (q nn), .int (w 0), .int (w 1), .int (w 2)]) := gw_a D (by omega)
theorem cw_o2 (D : gw_D (40 + 4 * K) q) : cw A0 g K nn dn q w e v f (q 2) = some (pm_ob 2 [.ref (q 14), .ref (q 15), .int (v 1), .int (v 2), .int (v 3), .int (v 4)]) := gw_a D (by omega)
theorem cw_o3 (D : gw_D (40 + 4 * K) q) : cw A0 g K nn dn q w e v f (q 3) = some (pm_ob 0 [.ref (q 16), .ref (q 17), .int (v 0)]) := gw_a D (by omega)
theorem cw_o4 (D : gw_D (40 + 4 * K) q) : cw A0 g K nn dn q w e v f (q 4) = some (pm_ob 1 [.ref (q 18), .ref (q 19), .ref (q 20), .int (v 5), .int (v 6)]) := gw_a D (by omega)
theorem cw_o5 (D : gw_D (40 + 4 * K) q) : cw A0 g K nn dn q w e v f (q 5) = some (pm_ob 6 [.ref (q 21), .int (v 7), .int (v 8), .int (v 9), .int (v 10)]) := gw_a D (by omega)
theorem cw_o6 (D : gw_D (40 + 4 * K) q) : cw A0 g K nn dn q w e v f (q 6) = some (pm_ob 8 [.ref (q 22), .ref (q 23), .ref (q 24), .int (v 11), .int (v 12)]) := gw_a D (by omega)
theorem cw_o7 (D : gw_D (40 + 4 * K) q) : cw A0 g K nn dn q w e v f (q 7) = some (pm_ob 4 [.ref (q 25), .int (v 13), .int (v 14)]) := gw_a D (by omega)
theorem cw_o8 (D : gw_D (40 + 4 * K) q) : cw A0 g K nn dn q w e v f (q 8) = some (pm_ob 3 [.ref (q 11)]) := gw_a D (by omega)
theorem cw_o9 (D : gw_D (40 + 4 * K) q) : cw A0 g K nn dn q w e v f (q 9) = some (pm_ob 5 [.ref (q 35), .ref (q 36), .ref (q 37), .ref (q 38), .ref (q 39), .int (w 3)]) := gw_a D (by omega)
theorem cw_rows (D : gw_D (40 + 4 * K) q) : cw A0 g K nn dn q w e v f (q 10) = some (pm_ra g 41 (cw_rr K q)) := gw_a D (by omega)
theorem cw_worths (D : gw_D (40 + 4 * K) q) : cw A0 g K nn dn q w e v f (q 11) = some (pm_ma g 9 (cw_ww q)) := gw_a D (by omega)
theorem cw_a12 (D : gw_D (40 + 4 * K) q) : cw A0 g K nn dn q w e v f (q 12) = some (pm_ia g 160 (f 12)) := gw_a D (by omega)
theorem cw_a13 (D : gw_D (40 + 4 * K) q) : cw A0 g K nn dn q w e v f (q 13) = some (pm_ia g 24 (f 13)) := gw_a D (by omega)
theorem cw_a14 (D : gw_D (40 + 4 * K) q) : cw A0 g K nn dn q w e v f (q 14) = some (pm_ia g 24 (f 14)) := gw_a D (by omega)
theorem cw_a15 (D : gw_D (40 + 4 * K) q) : cw A0 g K nn dn q w e v f (q 15) = some (pm_ia g 24 (e 15)) := gw_a D (by omega)
theorem cw_a16 (D : gw_D (40 + 4 * K) q) : cw A0 g K nn dn q w e v f (q 16) = some (pm_ia g 24 (f 16)) := gw_a D (by omega)
theorem cw_a17 (D : gw_D (40 + 4 * K) q) : cw A0 g K nn dn q w e v f (q 17) = some (pm_ia g 160 (f 17)) := gw_a D (by omega)
theorem cw_a18 (D : gw_D (40 + 4 * K) q) : cw A0 g K nn dn q w e v f (q 18) = some (pm_ia g 160 (f 18)) := gw_a D (by omega)
theorem cw_a19 (D : gw_D (40 + 4 * K) q) : cw A0 g K nn dn q w e v f (q 19) = some (pm_ia g 24 (f 19)) := gw_a D (by omega)
theorem cw_a20 (D : gw_D (40 + 4 * K) q) : cw A0 g K nn dn q w e v f (q 20) = some (pm_ia g 24 (f 20)) := gw_a D (by omega)
theorem cw_a21 (D : gw_D (40 + 4 * K) q) : cw A0 g K nn dn q w e v f (q 21) = some (pm_ia g 24 (f 21)) := gw_a D (by omega)
theorem cw_a22 (D : gw_D (40 + 4 * K) q) : cw A0 g K nn dn q w e v f (q 22) = some (pm_ia g 160 (f 22)) := gw_a D (by omega)
theorem cw_a23 (D : gw_D (40 + 4 * K) q) : cw A0 g K nn dn q w e v f (q 23) = some (pm_ia g 24 (f 23)) := gw_a D (by omega)
theorem cw_a24 (D : gw_D (40 + 4 * K) q) : cw A0 g K nn dn q w e v f (q 24) = some (pm_ia g 24 (f 24)) := gw_a D (by omega)
theorem cw_a25 (D : gw_D (40 + 4 * K) q) : cw A0 g K nn dn q w e v f (q 25) = some (pm_ia g 160 (f 25)) := gw_a D (by omega)
theorem cw_a35 (D : gw_D (40 + 4 * K) q) : cw A0 g K nn dn q w e v f (q 35) = some (pm_ia g 30 (e 35)) := gw_a D (by omega)
theorem cw_a36 (D : gw_D (40 + 4 * K) q) : cw A0 g K nn dn q w e v f (q 36) = some (pm_ia g 30 (e 36)) := gw_a D (by omega)
theorem cw_a37 (D : gw_D (40 + 4 * K) q) : cw A0 g K nn dn q w e v f (q 37) = some (pm_ia g 30 (e 37)) := gw_a D (by omega)
theorem cw_a38 (D : gw_D (40 + 4 * K) q) : cw A0 g K nn dn q w e v f (q 38) = some (pm_ia g 30 (e 38)) := gw_a D (by omega)
theorem cw_a39 (D : gw_D (40 + 4 * K) q) : cw A0 g K nn dn q w e v f (q 39) = some (pm_ia g 30 (e 39)) := gw_a D (by omega)
theorem cw_wr (D : gw_D (40 + 4 * K) q) {j : Nat} (hj : j < 9) : cw A0 g K nn dn q w e v f (q (26 + j)) = some (pm_ia g 161 (f (26 + j))) := by
  refine (gw_a D (by omega)).trans ?_
  rcases (show j = 0 ∨ j = 1 ∨ j = 2 ∨ j = 3 ∨ j = 4 ∨ j = 5 ∨ j = 6 ∨ j = 7 ∨ j = 8 by omega) with rfl | rfl | rfl | rfl | rfl | rfl | rfl | rfl | rfl <;> rfl
theorem cw_ro_o (D : gw_D (40 + 4 * K) q) {o : Nat} (ho : cw_ro K o) : cw A0 g K nn dn q w e v f (q o) = some (pm_ob 7 [.ref (q (o + 1)), .ref (q (o + 2)), .ref (q (o + 3)), .int (w o), .int (w (o + 1))]) := by
  obtain ⟨h1, h2, h3⟩ := ho
  refine (gw_a D h2).trans ?_
  unfold cw_c
  rw [if_neg (by omega), if_neg (by omega), if_pos h3]
theorem cw_ro_a (D : gw_D (40 + 4 * K) q) {o : Nat} (ho : cw_ro K o) {k : Nat} (hk : 1 ≤ k ∧ k ≤ 3) : cw A0 g K nn dn q w e v f (q (o + k)) = some (pm_ia g 160 (e (o + k))) := by
  obtain ⟨h1, h2, h3⟩ := ho
  refine (gw_a D (by omega)).trans ?_
  unfold cw_c
  rw [if_neg (by omega), if_neg (by omega), if_neg (by omega)]
theorem cw_ro_1 (D : gw_D (40 + 4 * K) q) {o : Nat} (ho : cw_ro K o) : cw A0 g K nn dn q w e v f (q (o + 1)) = some (pm_ia g 160 (e (o + 1))) := cw_ro_a D ho (by omega)
theorem cw_ro_2 (D : gw_D (40 + 4 * K) q) {o : Nat} (ho : cw_ro K o) : cw A0 g K nn dn q w e v f (q (o + 2)) = some (pm_ia g 160 (e (o + 2))) := cw_ro_a D ho (by omega)
theorem cw_ro_3 (D : gw_D (40 + 4 * K) q) {o : Nat} (ho : cw_ro K o) : cw A0 g K nn dn q w e v f (q (o + 3)) = some (pm_ia g 160 (e (o + 3))) := cw_ro_a D ho (by omega)
theorem cw_c_f (i : Nat) (x : Nat → Int32) {j : Nat} (hj : j ≠ i) : cw_c g K nn dn q w e v (va_up f i x) j = cw_c g K nn dn q w e v f j := by
  unfold cw_c
  simp only [va_up, if_neg hj]
theorem cw_c_e (i : Nat) (x : Nat → Int32) {j : Nat} (hj : j ≠ i) : cw_c g K nn dn q w (va_up e i x) v f j = cw_c g K nn dn q w e v f j := by
  unfold cw_c
  simp only [va_up, if_neg hj]
theorem cw_s12 (D : gw_D (40 + 4 * K) q) (x : Nat → Int32) : pm_up (cw A0 g K nn dn q w e v f) (q 12) (pm_ia g 160 x) = cw A0 g K nn dn q w e v (va_up f 12 x) := gw_up D (by omega) rfl (fun _ hj => cw_c_f 12 x hj)
theorem cw_s13 (D : gw_D (40 + 4 * K) q) (x : Nat → Int32) : pm_up (cw A0 g K nn dn q w e v f) (q 13) (pm_ia g 24 x) = cw A0 g K nn dn q w e v (va_up f 13 x) := gw_up D (by omega) rfl (fun _ hj => cw_c_f 13 x hj)
theorem cw_s14 (D : gw_D (40 + 4 * K) q) (x : Nat → Int32) : pm_up (cw A0 g K nn dn q w e v f) (q 14) (pm_ia g 24 x) = cw A0 g K nn dn q w e v (va_up f 14 x) := gw_up D (by omega) rfl (fun _ hj => cw_c_f 14 x hj)
theorem cw_s15 (D : gw_D (40 + 4 * K) q) (x : Nat → Int32) : pm_up (cw A0 g K nn dn q w e v f) (q 15) (pm_ia g 24 x) = cw A0 g K nn dn q w (va_up e 15 x) v f := gw_up D (by omega) rfl (fun _ hj => cw_c_e 15 x hj)
theorem cw_s16 (D : gw_D (40 + 4 * K) q) (x : Nat → Int32) : pm_up (cw A0 g K nn dn q w e v f) (q 16) (pm_ia g 24 x) = cw A0 g K nn dn q w e v (va_up f 16 x) := gw_up D (by omega) rfl (fun _ hj => cw_c_f 16 x hj)
theorem cw_s17 (D : gw_D (40 + 4 * K) q) (x : Nat → Int32) : pm_up (cw A0 g K nn dn q w e v f) (q 17) (pm_ia g 160 x) = cw A0 g K nn dn q w e v (va_up f 17 x) := gw_up D (by omega) rfl (fun _ hj => cw_c_f 17 x hj)
theorem cw_s18 (D : gw_D (40 + 4 * K) q) (x : Nat → Int32) : pm_up (cw A0 g K nn dn q w e v f) (q 18) (pm_ia g 160 x) = cw A0 g K nn dn q w e v (va_up f 18 x) := gw_up D (by omega) rfl (fun _ hj => cw_c_f 18 x hj)
theorem cw_s19 (D : gw_D (40 + 4 * K) q) (x : Nat → Int32) : pm_up (cw A0 g K nn dn q w e v f) (q 19) (pm_ia g 24 x) = cw A0 g K nn dn q w e v (va_up f 19 x) := gw_up D (by omega) rfl (fun _ hj => cw_c_f 19 x hj)
theorem cw_s20 (D : gw_D (40 + 4 * K) q) (x : Nat → Int32) : pm_up (cw A0 g K nn dn q w e v f) (q 20) (pm_ia g 24 x) = cw A0 g K nn dn q w e v (va_up f 20 x) := gw_up D (by omega) rfl (fun _ hj => cw_c_f 20 x hj)
theorem cw_s21 (D : gw_D (40 + 4 * K) q) (x : Nat → Int32) : pm_up (cw A0 g K nn dn q w e v f) (q 21) (pm_ia g 24 x) = cw A0 g K nn dn q w e v (va_up f 21 x) := gw_up D (by omega) rfl (fun _ hj => cw_c_f 21 x hj)
theorem cw_s22 (D : gw_D (40 + 4 * K) q) (x : Nat → Int32) : pm_up (cw A0 g K nn dn q w e v f) (q 22) (pm_ia g 160 x) = cw A0 g K nn dn q w e v (va_up f 22 x) := gw_up D (by omega) rfl (fun _ hj => cw_c_f 22 x hj)
theorem cw_s23 (D : gw_D (40 + 4 * K) q) (x : Nat → Int32) : pm_up (cw A0 g K nn dn q w e v f) (q 23) (pm_ia g 24 x) = cw A0 g K nn dn q w e v (va_up f 23 x) := gw_up D (by omega) rfl (fun _ hj => cw_c_f 23 x hj)
theorem cw_s24 (D : gw_D (40 + 4 * K) q) (x : Nat → Int32) : pm_up (cw A0 g K nn dn q w e v f) (q 24) (pm_ia g 24 x) = cw A0 g K nn dn q w e v (va_up f 24 x) := gw_up D (by omega) rfl (fun _ hj => cw_c_f 24 x hj)
theorem cw_s25 (D : gw_D (40 + 4 * K) q) (x : Nat → Int32) : pm_up (cw A0 g K nn dn q w e v f) (q 25) (pm_ia g 160 x) = cw A0 g K nn dn q w e v (va_up f 25 x) := gw_up D (by omega) rfl (fun _ hj => cw_c_f 25 x hj)
theorem cw_s35 (D : gw_D (40 + 4 * K) q) (x : Nat → Int32) : pm_up (cw A0 g K nn dn q w e v f) (q 35) (pm_ia g 30 x) = cw A0 g K nn dn q w (va_up e 35 x) v f := gw_up D (by omega) rfl (fun _ hj => cw_c_e 35 x hj)
theorem cw_s36 (D : gw_D (40 + 4 * K) q) (x : Nat → Int32) : pm_up (cw A0 g K nn dn q w e v f) (q 36) (pm_ia g 30 x) = cw A0 g K nn dn q w (va_up e 36 x) v f := gw_up D (by omega) rfl (fun _ hj => cw_c_e 36 x hj)
theorem cw_s37 (D : gw_D (40 + 4 * K) q) (x : Nat → Int32) : pm_up (cw A0 g K nn dn q w e v f) (q 37) (pm_ia g 30 x) = cw A0 g K nn dn q w (va_up e 37 x) v f := gw_up D (by omega) rfl (fun _ hj => cw_c_e 37 x hj)
theorem cw_s38 (D : gw_D (40 + 4 * K) q) (x : Nat → Int32) : pm_up (cw A0 g K nn dn q w e v f) (q 38) (pm_ia g 30 x) = cw A0 g K nn dn q w (va_up e 38 x) v f := gw_up D (by omega) rfl (fun _ hj => cw_c_e 38 x hj)
theorem cw_s39 (D : gw_D (40 + 4 * K) q) (x : Nat → Int32) : pm_up (cw A0 g K nn dn q w e v f) (q 39) (pm_ia g 30 x) = cw A0 g K nn dn q w (va_up e 39 x) v f := gw_up D (by omega) rfl (fun _ hj => cw_c_e 39 x hj)
theorem cw_swr (D : gw_D (40 + 4 * K) q) {j : Nat} (hj : j < 9) (x : Nat → Int32) : pm_up (cw A0 g K nn dn q w e v f) (q (26 + j)) (pm_ia g 161 x) = cw A0 g K nn dn q w e v (va_up f (26 + j) x) := by
  refine gw_up D (by omega) ?_ (fun _ hj => cw_c_f _ x hj)
  rcases (show j = 0 ∨ j = 1 ∨ j = 2 ∨ j = 3 ∨ j = 4 ∨ j = 5 ∨ j = 6 ∨ j = 7 ∨ j = 8 by omega) with rfl | rfl | rfl | rfl | rfl | rfl | rfl | rfl | rfl <;> rfl
theorem cw_sr (D : gw_D (40 + 4 * K) q) {o : Nat} (ho : cw_ro K o) {k : Nat} (hk : 1 ≤ k ∧ k ≤ 3) (x : Nat → Int32) : pm_up (cw A0 g K nn dn q w e v f) (q (o + k)) (pm_ia g 160 x) = cw A0 g K nn dn q w (va_up e (o + k) x) v f := by
  obtain ⟨h1, h2, h3⟩ := ho
  refine gw_up D (by omega) ?_ (fun _ hj => cw_c_e _ x hj)
  unfold cw_c
  rw [if_neg (by omega), if_neg (by omega), if_neg (by omega)]
  simp [va_up]
theorem cw_sr_1 (D : gw_D (40 + 4 * K) q) {o : Nat} (ho : cw_ro K o) (x : Nat → Int32) : pm_up (cw A0 g K nn dn q w e v f) (q (o + 1)) (pm_ia g 160 x) = cw A0 g K nn dn q w (va_up e (o + 1) x) v f := cw_sr D ho (by omega) x
theorem cw_sr_2 (D : gw_D (40 + 4 * K) q) {o : Nat} (ho : cw_ro K o) (x : Nat → Int32) : pm_up (cw A0 g K nn dn q w e v f) (q (o + 2)) (pm_ia g 160 x) = cw A0 g K nn dn q w (va_up e (o + 2) x) v f := cw_sr D ho (by omega) x
theorem cw_sr_3 (D : gw_D (40 + 4 * K) q) {o : Nat} (ho : cw_ro K o) (x : Nat → Int32) : pm_up (cw A0 g K nn dn q w e v f) (q (o + 3)) (pm_ia g 160 x) = cw A0 g K nn dn q w (va_up e (o + 3) x) v f := cw_sr D ho (by omega) x
theorem cw_c_v {s o : Nat} (x : Int32) (hf : ∀ j, j < 12 → j ≠ o → cw_fix g K nn dn q w (upd v s x) j = cw_fix g K nn dn q w v j) {j : Nat} (hj : j ≠ o) : cw_c g K nn dn q w e (upd v s x) f j = cw_c g K nn dn q w e v f j := by
  unfold cw_c
  by_cases h : j < 12
  · rw [if_pos h, if_pos h, hf j h hj]
  · rw [if_neg h, if_neg h]
theorem cw_c_w {s o : Nat} (x : Int32) (hs : s < 4) (hf : ∀ j, j < 12 → j ≠ o → cw_fix g K nn dn q (upd w s x) v j = cw_fix g K nn dn q w v j) {j : Nat} (hj : j ≠ o) : cw_c g K nn dn q (upd w s x) e v f j = cw_c g K nn dn q w e v f j := by
  unfold cw_c
  by_cases h : j < 12
  · rw [if_pos h, if_pos h, hf j h hj]
  · rw [if_neg h, if_neg h]
    by_cases h2 : j < 40
    · rw [if_pos h2, if_pos h2]
    · rw [if_neg h2, if_neg h2]
      have e1 : upd w s x j = w j := pk_un (by omega)
      have e2 : upd w s x (j + 1) = w (j + 1) := pk_un (by omega)
      rw [e1, e2]
theorem cw_p_edits (D : gw_D (40 + 4 * K) q) (x : Int32) : pm_up (cw A0 g K nn dn q w e v f) (q 1) (pm_ob 9 (([.ref (q 10), .ref (q 12), .ref (q 13), .ref (q dn), .ref (q nn), .int (w 0), .int (w 1), .int (w 2)] : List Value).set 5 (.int x))) = cw A0 g K nn dn q (upd w 0 x) e v f := gw_up D (by omega) rfl (fun _ hj => cw_c_w x (by decide) (fun j h h2 => by
  rcases (show j = 0 ∨ j = 1 ∨ j = 2 ∨ j = 3 ∨ j = 4 ∨ j = 5 ∨ j = 6 ∨ j = 7 ∨ j = 8 ∨ j = 9 ∨ j = 10 ∨ j = 11 by omega) with rfl | rfl | rfl | rfl | rfl | rfl | rfl | rfl | rfl | rfl | rfl | rfl <;> first | rfl | exact absurd rfl h2) hj)
theorem cw_p_named (D : gw_D (40 + 4 * K) q) (x : Int32) : pm_up (cw A0 g K nn dn q w e v f) (q 1) (pm_ob 9 (([.ref (q 10), .ref (q 12), .ref (q 13), .ref (q dn), .ref (q nn), .int (w 0), .int (w 1), .int (w 2)] : List Value).set 6 (.int x))) = cw A0 g K nn dn q (upd w 1 x) e v f := gw_up D (by omega) rfl (fun _ hj => cw_c_w x (by decide) (fun j h h2 => by
  rcases (show j = 0 ∨ j = 1 ∨ j = 2 ∨ j = 3 ∨ j = 4 ∨ j = 5 ∨ j = 6 ∨ j = 7 ∨ j = 8 ∨ j = 9 ∨ j = 10 ∨ j = 11 by omega) with rfl | rfl | rfl | rfl | rfl | rfl | rfl | rfl | rfl | rfl | rfl | rfl <;> first | rfl | exact absurd rfl h2) hj)
theorem cw_p_touchedInAll (D : gw_D (40 + 4 * K) q) (x : Int32) : pm_up (cw A0 g K nn dn q w e v f) (q 1) (pm_ob 9 (([.ref (q 10), .ref (q 12), .ref (q 13), .ref (q dn), .ref (q nn), .int (w 0), .int (w 1), .int (w 2)] : List Value).set 7 (.int x))) = cw A0 g K nn dn q (upd w 2 x) e v f := gw_up D (by omega) rfl (fun _ hj => cw_c_w x (by decide) (fun j h h2 => by
  rcases (show j = 0 ∨ j = 1 ∨ j = 2 ∨ j = 3 ∨ j = 4 ∨ j = 5 ∨ j = 6 ∨ j = 7 ∨ j = 8 ∨ j = 9 ∨ j = 10 ∨ j = 11 by omega) with rfl | rfl | rfl | rfl | rfl | rfl | rfl | rfl | rfl | rfl | rfl | rfl <;> first | rfl | exact absurd rfl h2) hj)
theorem cw_p_length (D : gw_D (40 + 4 * K) q) (x : Int32) : pm_up (cw A0 g K nn dn q w e v f) (q 2) (pm_ob 2 (([.ref (q 14), .ref (q 15), .int (v 1), .int (v 2), .int (v 3), .int (v 4)] : List Value).set 2 (.int x))) = cw A0 g K nn dn q w e (upd v 1 x) f := gw_up D (by omega) rfl (fun _ hj => cw_c_v x (fun j h h2 => by
  rcases (show j = 0 ∨ j = 1 ∨ j = 2 ∨ j = 3 ∨ j = 4 ∨ j = 5 ∨ j = 6 ∨ j = 7 ∨ j = 8 ∨ j = 9 ∨ j = 10 ∨ j = 11 by omega) with rfl | rfl | rfl | rfl | rfl | rfl | rfl | rfl | rfl | rfl | rfl | rfl <;> first | rfl | exact absurd rfl h2) hj)
theorem cw_p_kinds (D : gw_D (40 + 4 * K) q) (x : Int32) : pm_up (cw A0 g K nn dn q w e v f) (q 2) (pm_ob 2 (([.ref (q 14), .ref (q 15), .int (v 1), .int (v 2), .int (v 3), .int (v 4)] : List Value).set 3 (.int x))) = cw A0 g K nn dn q w e (upd v 2 x) f := gw_up D (by omega) rfl (fun _ hj => cw_c_v x (fun j h h2 => by
  rcases (show j = 0 ∨ j = 1 ∨ j = 2 ∨ j = 3 ∨ j = 4 ∨ j = 5 ∨ j = 6 ∨ j = 7 ∨ j = 8 ∨ j = 9 ∨ j = 10 ∨ j = 11 by omega) with rfl | rfl | rfl | rfl | rfl | rfl | rfl | rfl | rfl | rfl | rfl | rfl <;> first | rfl | exact absurd rfl h2) hj)
theorem cw_p_bits (D : gw_D (40 + 4 * K) q) (x : Int32) : pm_up (cw A0 g K nn dn q w e v f) (q 2) (pm_ob 2 (([.ref (q 14), .ref (q 15), .int (v 1), .int (v 2), .int (v 3), .int (v 4)] : List Value).set 4 (.int x))) = cw A0 g K nn dn q w e (upd v 3 x) f := gw_up D (by omega) rfl (fun _ hj => cw_c_v x (fun j h h2 => by
  rcases (show j = 0 ∨ j = 1 ∨ j = 2 ∨ j = 3 ∨ j = 4 ∨ j = 5 ∨ j = 6 ∨ j = 7 ∨ j = 8 ∨ j = 9 ∨ j = 10 ∨ j = 11 by omega) with rfl | rfl | rfl | rfl | rfl | rfl | rfl | rfl | rfl | rfl | rfl | rfl <;> first | rfl | exact absurd rfl h2) hj)
theorem cw_p_mass (D : gw_D (40 + 4 * K) q) (x : Int32) : pm_up (cw A0 g K nn dn q w e v f) (q 2) (pm_ob 2 (([.ref (q 14), .ref (q 15), .int (v 1), .int (v 2), .int (v 3), .int (v 4)] : List Value).set 5 (.int x))) = cw A0 g K nn dn q w e (upd v 4 x) f := gw_up D (by omega) rfl (fun _ hj => cw_c_v x (fun j h h2 => by
  rcases (show j = 0 ∨ j = 1 ∨ j = 2 ∨ j = 3 ∨ j = 4 ∨ j = 5 ∨ j = 6 ∨ j = 7 ∨ j = 8 ∨ j = 9 ∨ j = 10 ∨ j = 11 by omega) with rfl | rfl | rfl | rfl | rfl | rfl | rfl | rfl | rfl | rfl | rfl | rfl <;> first | rfl | exact absurd rfl h2) hj)
theorem cw_p_found (D : gw_D (40 + 4 * K) q) (x : Int32) : pm_up (cw A0 g K nn dn q w e v f) (q 3) (pm_ob 0 (([.ref (q 16), .ref (q 17), .int (v 0)] : List Value).set 2 (.int x))) = cw A0 g K nn dn q w e (upd v 0 x) f := gw_up D (by omega) rfl (fun _ hj => cw_c_v x (fun j h h2 => by
  rcases (show j = 0 ∨ j = 1 ∨ j = 2 ∨ j = 3 ∨ j = 4 ∨ j = 5 ∨ j = 6 ∨ j = 7 ∨ j = 8 ∨ j = 9 ∨ j = 10 ∨ j = 11 by omega) with rfl | rfl | rfl | rfl | rfl | rfl | rfl | rfl | rfl | rfl | rfl | rfl <;> first | rfl | exact absurd rfl h2) hj)
theorem cw_p_pairDistance (D : gw_D (40 + 4 * K) q) (x : Int32) : pm_up (cw A0 g K nn dn q w e v f) (q 4) (pm_ob 1 (([.ref (q 18), .ref (q 19), .ref (q 20), .int (v 5), .int (v 6)] : List Value).set 3 (.int x))) = cw A0 g K nn dn q w e (upd v 5 x) f := gw_up D (by omega) rfl (fun _ hj => cw_c_v x (fun j h h2 => by
  rcases (show j = 0 ∨ j = 1 ∨ j = 2 ∨ j = 3 ∨ j = 4 ∨ j = 5 ∨ j = 6 ∨ j = 7 ∨ j = 8 ∨ j = 9 ∨ j = 10 ∨ j = 11 by omega) with rfl | rfl | rfl | rfl | rfl | rfl | rfl | rfl | rfl | rfl | rfl | rfl <;> first | rfl | exact absurd rfl h2) hj)
theorem cw_p_pairFirst (D : gw_D (40 + 4 * K) q) (x : Int32) : pm_up (cw A0 g K nn dn q w e v f) (q 4) (pm_ob 1 (([.ref (q 18), .ref (q 19), .ref (q 20), .int (v 5), .int (v 6)] : List Value).set 4 (.int x))) = cw A0 g K nn dn q w e (upd v 6 x) f := gw_up D (by omega) rfl (fun _ hj => cw_c_v x (fun j h h2 => by
  rcases (show j = 0 ∨ j = 1 ∨ j = 2 ∨ j = 3 ∨ j = 4 ∨ j = 5 ∨ j = 6 ∨ j = 7 ∨ j = 8 ∨ j = 9 ∨ j = 10 ∨ j = 11 by omega) with rfl | rfl | rfl | rfl | rfl | rfl | rfl | rfl | rfl | rfl | rfl | rfl <;> first | rfl | exact absurd rfl h2) hj)
theorem cw_p_first (D : gw_D (40 + 4 * K) q) (x : Int32) : pm_up (cw A0 g K nn dn q w e v f) (q 5) (pm_ob 6 (([.ref (q 21), .int (v 7), .int (v 8), .int (v 9), .int (v 10)] : List Value).set 1 (.int x))) = cw A0 g K nn dn q w e (upd v 7 x) f := gw_up D (by omega) rfl (fun _ hj => cw_c_v x (fun j h h2 => by
  rcases (show j = 0 ∨ j = 1 ∨ j = 2 ∨ j = 3 ∨ j = 4 ∨ j = 5 ∨ j = 6 ∨ j = 7 ∨ j = 8 ∨ j = 9 ∨ j = 10 ∨ j = 11 by omega) with rfl | rfl | rfl | rfl | rfl | rfl | rfl | rfl | rfl | rfl | rfl | rfl <;> first | rfl | exact absurd rfl h2) hj)
theorem cw_p_last (D : gw_D (40 + 4 * K) q) (x : Int32) : pm_up (cw A0 g K nn dn q w e v f) (q 5) (pm_ob 6 (([.ref (q 21), .int (v 7), .int (v 8), .int (v 9), .int (v 10)] : List Value).set 2 (.int x))) = cw A0 g K nn dn q w e (upd v 8 x) f := gw_up D (by omega) rfl (fun _ hj => cw_c_v x (fun j h h2 => by
  rcases (show j = 0 ∨ j = 1 ∨ j = 2 ∨ j = 3 ∨ j = 4 ∨ j = 5 ∨ j = 6 ∨ j = 7 ∨ j = 8 ∨ j = 9 ∨ j = 10 ∨ j = 11 by omega) with rfl | rfl | rfl | rfl | rfl | rfl | rfl | rfl | rfl | rfl | rfl | rfl <;> first | rfl | exact absurd rfl h2) hj)
theorem cw_p_massFound (D : gw_D (40 + 4 * K) q) (x : Int32) : pm_up (cw A0 g K nn dn q w e v f) (q 5) (pm_ob 6 (([.ref (q 21), .int (v 7), .int (v 8), .int (v 9), .int (v 10)] : List Value).set 3 (.int x))) = cw A0 g K nn dn q w e (upd v 9 x) f := gw_up D (by omega) rfl (fun _ hj => cw_c_v x (fun j h h2 => by
  rcases (show j = 0 ∨ j = 1 ∨ j = 2 ∨ j = 3 ∨ j = 4 ∨ j = 5 ∨ j = 6 ∨ j = 7 ∨ j = 8 ∨ j = 9 ∨ j = 10 ∨ j = 11 by omega) with rfl | rfl | rfl | rfl | rfl | rfl | rfl | rfl | rfl | rfl | rfl | rfl <;> first | rfl | exact absurd rfl h2) hj)
theorem cw_p_spansWithAll (D : gw_D (40 + 4 * K) q) (x : Int32) : pm_up (cw A0 g K nn dn q w e v f) (q 5) (pm_ob 6 (([.ref (q 21), .int (v 7), .int (v 8), .int (v 9), .int (v 10)] : List Value).set 4 (.int x))) = cw A0 g K nn dn q w e (upd v 10 x) f := gw_up D (by omega) rfl (fun _ hj => cw_c_v x (fun j h h2 => by
  rcases (show j = 0 ∨ j = 1 ∨ j = 2 ∨ j = 3 ∨ j = 4 ∨ j = 5 ∨ j = 6 ∨ j = 7 ∨ j = 8 ∨ j = 9 ∨ j = 10 ∨ j = 11 by omega) with rfl | rfl | rfl | rfl | rfl | rfl | rfl | rfl | rfl | rfl | rfl | rfl <;> first | rfl | exact absurd rfl h2) hj)
theorem cw_p_missed (D : gw_D (40 + 4 * K) q) (x : Int32) : pm_up (cw A0 g K nn dn q w e v f) (q 6) (pm_ob 8 (([.ref (q 22), .ref (q 23), .ref (q 24), .int (v 11), .int (v 12)] : List Value).set 3 (.int x))) = cw A0 g K nn dn q w e (upd v 11 x) f := gw_up D (by omega) rfl (fun _ hj => cw_c_v x (fun j h h2 => by
  rcases (show j = 0 ∨ j = 1 ∨ j = 2 ∨ j = 3 ∨ j = 4 ∨ j = 5 ∨ j = 6 ∨ j = 7 ∨ j = 8 ∨ j = 9 ∨ j = 10 ∨ j = 11 by omega) with rfl | rfl | rfl | rfl | rfl | rfl | rfl | rfl | rfl | rfl | rfl | rfl <;> first | rfl | exact absurd rfl h2) hj)
theorem cw_p_sbits (D : gw_D (40 + 4 * K) q) (x : Int32) : pm_up (cw A0 g K nn dn q w e v f) (q 6) (pm_ob 8 (([.ref (q 22), .ref (q 23), .ref (q 24), .int (v 11), .int (v 12)] : List Value).set 4 (.int x))) = cw A0 g K nn dn q w e (upd v 12 x) f := gw_up D (by omega) rfl (fun _ hj => cw_c_v x (fun j h h2 => by
  rcases (show j = 0 ∨ j = 1 ∨ j = 2 ∨ j = 3 ∨ j = 4 ∨ j = 5 ∨ j = 6 ∨ j = 7 ∨ j = 8 ∨ j = 9 ∨ j = 10 ∨ j = 11 by omega) with rfl | rfl | rfl | rfl | rfl | rfl | rfl | rfl | rfl | rfl | rfl | rfl <;> first | rfl | exact absurd rfl h2) hj)
theorem cw_p_twinFirst (D : gw_D (40 + 4 * K) q) (x : Int32) : pm_up (cw A0 g K nn dn q w e v f) (q 7) (pm_ob 4 (([.ref (q 25), .int (v 13), .int (v 14)] : List Value).set 1 (.int x))) = cw A0 g K nn dn q w e (upd v 13 x) f := gw_up D (by omega) rfl (fun _ hj => cw_c_v x (fun j h h2 => by
  rcases (show j = 0 ∨ j = 1 ∨ j = 2 ∨ j = 3 ∨ j = 4 ∨ j = 5 ∨ j = 6 ∨ j = 7 ∨ j = 8 ∨ j = 9 ∨ j = 10 ∨ j = 11 by omega) with rfl | rfl | rfl | rfl | rfl | rfl | rfl | rfl | rfl | rfl | rfl | rfl <;> first | rfl | exact absurd rfl h2) hj)
theorem cw_p_twinLength (D : gw_D (40 + 4 * K) q) (x : Int32) : pm_up (cw A0 g K nn dn q w e v f) (q 7) (pm_ob 4 (([.ref (q 25), .int (v 13), .int (v 14)] : List Value).set 2 (.int x))) = cw A0 g K nn dn q w e (upd v 14 x) f := gw_up D (by omega) rfl (fun _ hj => cw_c_v x (fun j h h2 => by
  rcases (show j = 0 ∨ j = 1 ∨ j = 2 ∨ j = 3 ∨ j = 4 ∨ j = 5 ∨ j = 6 ∨ j = 7 ∨ j = 8 ∨ j = 9 ∨ j = 10 ∨ j = 11 by omega) with rfl | rfl | rfl | rfl | rfl | rfl | rfl | rfl | rfl | rfl | rfl | rfl <;> first | rfl | exact absurd rfl h2) hj)
theorem cw_p_number (D : gw_D (40 + 4 * K) q) (x : Int32) : pm_up (cw A0 g K nn dn q w e v f) (q 9) (pm_ob 5 (([.ref (q 35), .ref (q 36), .ref (q 37), .ref (q 38), .ref (q 39), .int (w 3)] : List Value).set 5 (.int x))) = cw A0 g K nn dn q (upd w 3 x) e v f := gw_up D (by omega) rfl (fun _ hj => cw_c_w x (by decide) (fun j h h2 => by
  rcases (show j = 0 ∨ j = 1 ∨ j = 2 ∨ j = 3 ∨ j = 4 ∨ j = 5 ∨ j = 6 ∨ j = 7 ∨ j = 8 ∨ j = 9 ∨ j = 10 ∨ j = 11 by omega) with rfl | rfl | rfl | rfl | rfl | rfl | rfl | rfl | rfl | rfl | rfl | rfl <;> first | rfl | exact absurd rfl h2) hj)
theorem cw_p_draft (D : gw_D (40 + 4 * K) q) (o : Nat) : pm_up (cw A0 g K nn dn q w e v f) (q 1) (pm_ob 9 (([.ref (q 10), .ref (q 12), .ref (q 13), .ref (q dn), .ref (q nn), .int (w 0), .int (w 1), .int (w 2)] : List Value).set 3 (.ref (q o)))) = cw A0 g K nn o q w e v f := gw_up D (by omega) rfl (fun j hj => by
  unfold cw_c
  by_cases h : j < 12
  · rw [if_pos h, if_pos h]
    rcases (show j = 0 ∨ j = 1 ∨ j = 2 ∨ j = 3 ∨ j = 4 ∨ j = 5 ∨ j = 6 ∨ j = 7 ∨ j = 8 ∨ j = 9 ∨ j = 10 ∨ j = 11 by omega) with rfl | rfl | rfl | rfl | rfl | rfl | rfl | rfl | rfl | rfl | rfl | rfl <;> first | rfl | exact absurd rfl hj
  · rw [if_neg h, if_neg h])
theorem cw_p_now (D : gw_D (40 + 4 * K) q) (o : Nat) : pm_up (cw A0 g K nn dn q w e v f) (q 1) (pm_ob 9 (([.ref (q 10), .ref (q 12), .ref (q 13), .ref (q dn), .ref (q nn), .int (w 0), .int (w 1), .int (w 2)] : List Value).set 4 (.ref (q o)))) = cw A0 g K o dn q w e v f := gw_up D (by omega) rfl (fun j hj => by
  unfold cw_c
  by_cases h : j < 12
  · rw [if_pos h, if_pos h]
    rcases (show j = 0 ∨ j = 1 ∨ j = 2 ∨ j = 3 ∨ j = 4 ∨ j = 5 ∨ j = 6 ∨ j = 7 ∨ j = 8 ∨ j = 9 ∨ j = 10 ∨ j = 11 by omega) with rfl | rfl | rfl | rfl | rfl | rfl | rfl | rfl | rfl | rfl | rfl | rfl <;> first | rfl | exact absurd rfl hj
  · rw [if_neg h, if_neg h])
theorem cw_p_size (D : gw_D (40 + 4 * K) q) {o : Nat} (ho : cw_ro K o) (x : Int32) : pm_up (cw A0 g K nn dn q w e v f) (q o) (pm_ob 7 (([.ref (q (o + 1)), .ref (q (o + 2)), .ref (q (o + 3)), .int (w o), .int (w (o + 1))] : List Value).set 3 (.int x))) = cw A0 g K nn dn q (upd w o x) e v f := by
  obtain ⟨h1, h2, h3⟩ := ho
  refine gw_up D h2 ?_ (fun j hj => ?_)
  · unfold cw_c
    rw [if_neg (by omega), if_neg (by omega), if_pos h3]
    simp [upd]
  · unfold cw_c
    by_cases h : j < 12
    · rw [if_pos h, if_pos h]
      have e0 : upd w o x 0 = w 0 := pk_un (by omega)
      have e1 : upd w o x 1 = w 1 := pk_un (by omega)
      have e2 : upd w o x 2 = w 2 := pk_un (by omega)
      have e3 : upd w o x 3 = w 3 := pk_un (by omega)
      rcases (show j = 0 ∨ j = 1 ∨ j = 2 ∨ j = 3 ∨ j = 4 ∨ j = 5 ∨ j = 6 ∨ j = 7 ∨ j = 8 ∨ j = 9 ∨ j = 10 ∨ j = 11 by omega) with rfl | rfl | rfl | rfl | rfl | rfl | rfl | rfl | rfl | rfl | rfl | rfl <;> first | rfl | (simp only [cw_fix, e0, e1, e2, e3])
    · rw [if_neg h, if_neg h]
      by_cases h4 : j < 40
      · rw [if_pos h4, if_pos h4]
      · rw [if_neg h4, if_neg h4]
        by_cases h5 : j % 4 = 0
        · rw [if_pos h5, if_pos h5]
          have e1 : upd w o x j = w j := pk_un (by omega)
          have e2 : upd w o x (j + 1) = w (j + 1) := pk_un (by omega)
          rw [e1, e2]
        · rw [if_neg h5, if_neg h5]
theorem cw_p_touches (D : gw_D (40 + 4 * K) q) {o : Nat} (ho : cw_ro K o) (x : Int32) : pm_up (cw A0 g K nn dn q w e v f) (q o) (pm_ob 7 (([.ref (q (o + 1)), .ref (q (o + 2)), .ref (q (o + 3)), .int (w o), .int (w (o + 1))] : List Value).set 4 (.int x))) = cw A0 g K nn dn q (upd w (o + 1) x) e v f := by
  obtain ⟨h1, h2, h3⟩ := ho
  refine gw_up D h2 ?_ (fun j hj => ?_)
  · unfold cw_c
    rw [if_neg (by omega), if_neg (by omega), if_pos h3]
    simp [upd]
  · unfold cw_c
    by_cases h : j < 12
    · rw [if_pos h, if_pos h]
      have e0 : upd w (o + 1) x 0 = w 0 := pk_un (by omega)
      have e1 : upd w (o + 1) x 1 = w 1 := pk_un (by omega)
      have e2 : upd w (o + 1) x 2 = w 2 := pk_un (by omega)
      have e3 : upd w (o + 1) x 3 = w 3 := pk_un (by omega)
      rcases (show j = 0 ∨ j = 1 ∨ j = 2 ∨ j = 3 ∨ j = 4 ∨ j = 5 ∨ j = 6 ∨ j = 7 ∨ j = 8 ∨ j = 9 ∨ j = 10 ∨ j = 11 by omega) with rfl | rfl | rfl | rfl | rfl | rfl | rfl | rfl | rfl | rfl | rfl | rfl <;> first | rfl | (simp only [cw_fix, e0, e1, e2, e3])
    · rw [if_neg h, if_neg h]
      by_cases h4 : j < 40
      · rw [if_pos h4, if_pos h4]
      · rw [if_neg h4, if_neg h4]
        by_cases h5 : j % 4 = 0
        · rw [if_pos h5, if_pos h5]
          have e1 : upd w (o + 1) x j = w j := pk_un (by omega)
          have e2 : upd w (o + 1) x (j + 1) = w (j + 1) := pk_un (by omega)
          rw [e1, e2]
        · rw [if_neg h5, if_neg h5]
end CW
/-! what is always so of the class's cells -/
noncomputable def cw_W (K nn dn : Nat) (w : Nat → Int32) : Prop := (1 ≤ K ∧ K ≤ 41) ∧ (40 ≤ nn ∧ nn < 40 + 4 * K ∧ nn % 4 = 0) ∧ (40 ≤ dn ∧ dn < 40 + 4 * K ∧ dn % 4 = 0) ∧ (0 ≤ (w 0).toInt ∧ (w 0).toInt ≤ 100000) ∧ ((w 0).toInt + 1 ≤ K ∨ K = 41) ∧ (0 ≤ (w 1).toInt ∧ (w 1).toInt ≤ 10000) ∧ (0 ≤ (w 3).toInt ∧ (w 3).toInt ≤ 30)
noncomputable def cw_Z (w : Nat → Int32) : Prop := ∀ o : Nat, 40 ≤ o → o % 4 = 0 → 0 ≤ (w o).toInt ∧ (w o).toInt ≤ 160
noncomputable def cw_E (e : Nat → Nat → Int32) : Prop := ∀ o : Nat, 40 ≤ o → o % 4 = 0 → ∀ j : Nat, (0 ≤ (e (o + 1) j).toInt ∧ (e (o + 1) j).toInt ≤ 23) ∧ (-1 ≤ (e (o + 3) j).toInt ∧ (e (o + 3) j).toInt ≤ 159)
noncomputable def cw_S (v : Nat → Int32) (f : Nat → Nat → Int32) : Prop := (0 ≤ (v 0).toInt ∧ (v 0).toInt ≤ 24) ∧ (∀ j : Nat, 0 ≤ (f 16 j).toInt ∧ (f 16 j).toInt ≤ 23) ∧ ∀ j : Nat, -1 ≤ (f 13 j).toInt ∧ (f 13 j).toInt ≤ 159
noncomputable def cw_I (K nn dn : Nat) (q : Nat → Nat) (w : Nat → Int32) (e : Nat → Nat → Int32) : Prop := gw_D (40 + 4 * K) q ∧ cw_W K nn dn w ∧ cw_Z w ∧ cw_E e
theorem cw_S_v {v : Nat → Int32} {f : Nat → Nat → Int32} (h : cw_S v f) (s : Nat) (x : Int32) (hs : s ≠ 0) : cw_S (upd v s x) f := ⟨by rw [pk_un (Ne.symm hs)]; exact h.1, h.2⟩
theorem cw_S_v0 {v : Nat → Int32} {f : Nat → Nat → Int32} (h : cw_S v f) (x : Int32) (hx : 0 ≤ x.toInt ∧ x.toInt ≤ 24) : cw_S (upd v 0 x) f := ⟨by rw [pk_us]; exact hx, h.2⟩
theorem cw_S_fr {v : Nat → Int32} {f : Nat → Nat → Int32} (h : cw_S v f) (i : Nat) (r : Nat → Int32) (h1 : i ≠ 16) (h2 : i ≠ 13) : cw_S v (va_up f i r) := ⟨h.1, by
  have e1 : va_up f i r 16 = f 16 := by simp [va_up, Ne.symm h1]
  have e2 : va_up f i r 13 = f 13 := by simp [va_up, Ne.symm h2]
  rw [e1, e2]; exact h.2⟩
theorem cw_S_f16 {v : Nat → Int32} {f : Nat → Nat → Int32} (h : cw_S v f) (k : Nat) (x : Int32) (hx : 0 ≤ x.toInt ∧ x.toInt ≤ 23) : cw_S v (va_up f 16 (upd (f 16) k x)) := by
  refine ⟨h.1, fun j => ?_, h.2.2⟩
  show 0 ≤ (upd (f 16) k x j).toInt ∧ (upd (f 16) k x j).toInt ≤ 23
  by_cases hj : j = k
  · subst hj; rw [pk_us]; exact hx
  · rw [pk_un hj]; exact h.2.1 j
theorem cw_S_f13 {v : Nat → Int32} {f : Nat → Nat → Int32} (h : cw_S v f) (k : Nat) (x : Int32) (hx : -1 ≤ x.toInt ∧ x.toInt ≤ 159) : cw_S v (va_up f 13 (upd (f 13) k x)) := by
  refine ⟨h.1, h.2.1, fun j => ?_⟩
  show -1 ≤ (upd (f 13) k x j).toInt ∧ (upd (f 13) k x j).toInt ≤ 159
  by_cases hj : j = k
  · subst hj; rw [pk_us]; exact hx
  · rw [pk_un hj]; exact h.2.2 j
theorem cw_E_up {e : Nat → Nat → Int32} (h : cw_E e) (i : Nat) (r : Nat → Int32) (h1 : 40 ≤ i → i % 4 = 1 → ∀ j, 0 ≤ (r j).toInt ∧ (r j).toInt ≤ 23) (h3 : 40 ≤ i → i % 4 = 3 → ∀ j, -1 ≤ (r j).toInt ∧ (r j).toInt ≤ 159) : cw_E (va_up e i r) := by
  intro o ho hm j
  constructor
  · by_cases hi : o + 1 = i
    · simp only [va_up, if_pos hi]; exact h1 (by omega) (by omega) j
    · simp only [va_up, if_neg hi]; exact (h o ho hm j).1
  · by_cases hi : o + 3 = i
    · simp only [va_up, if_pos hi]; exact h3 (by omega) (by omega) j
    · simp only [va_up, if_neg hi]; exact (h o ho hm j).2
theorem cw_E_1 {e : Nat → Nat → Int32} (h : cw_E e) {o : Nat} (ho : 40 ≤ o ∧ o % 4 = 0) (k : Nat) (x : Int32) (hx : 0 ≤ x.toInt ∧ x.toInt ≤ 23) : cw_E (va_up e (o + 1) (upd (e (o + 1)) k x)) := cw_E_up h _ _ (fun _ _ j => by
  by_cases hj : j = k
  · subst hj; rw [pk_us]; exact hx
  · rw [pk_un hj]; exact (h o ho.1 ho.2 j).1) (fun _ h => by omega)
theorem cw_E_2 {e : Nat → Nat → Int32} (h : cw_E e) {o : Nat} (ho : 40 ≤ o ∧ o % 4 = 0) (r : Nat → Int32) : cw_E (va_up e (o + 2) r) := cw_E_up h _ _ (fun _ h => by omega) (fun _ h => by omega)
theorem cw_E_3 {e : Nat → Nat → Int32} (h : cw_E e) {o : Nat} (ho : 40 ≤ o ∧ o % 4 = 0) (k : Nat) (x : Int32) (hx : -1 ≤ x.toInt ∧ x.toInt ≤ 159) : cw_E (va_up e (o + 3) (upd (e (o + 3)) k x)) := cw_E_up h _ _ (fun _ h => by omega) (fun _ _ j => by
  by_cases hj : j = k
  · subst hj; rw [pk_us]; exact hx
  · rw [pk_un hj]; exact (h o ho.1 ho.2 j).2)
theorem cw_Z_up {w : Nat → Int32} (h : cw_Z w) (s : Nat) (x : Int32) (hs : s < 40 ∨ s % 4 = 1 ∨ (0 ≤ x.toInt ∧ x.toInt ≤ 160)) : cw_Z (upd w s x) := by
  intro o h1 h2
  by_cases ho : o = s
  · subst ho
    rw [pk_us]
    rcases hs with h | h | h
    · omega
    · omega
    · exact h
  · rw [pk_un ho]; exact h o h1 h2
theorem cw_rr_c {K : Nat} (q : Nat → Nat) (j : Nat) : cw_rr K q j = none ∨ ∃ o, cw_rr K q j = some (q o) ∧ cw_ro K o := by
  unfold cw_rr
  by_cases h : j < K
  · rw [if_pos h]
    exact Or.inr ⟨_, rfl, by unfold cw_ro; omega⟩
  · rw [if_neg h]
    exact Or.inl rfl
theorem cw_sz {K nn dn : Nat} {q : Nat → Nat} {w : Nat → Int32} {e : Nat → Nat → Int32} (hI : cw_I K nn dn q w e) {o : Nat} (ho : cw_ro K o) : 0 ≤ (w o).toInt ∧ (w o).toInt ≤ 160 := hI.2.2.1 o ho.1 ho.2.2
theorem cw_col {K nn dn : Nat} {q : Nat → Nat} {w : Nat → Int32} {e : Nat → Nat → Int32} (hI : cw_I K nn dn q w e) {o : Nat} (ho : cw_ro K o) (j : Nat) : 0 ≤ (e (o + 1) j).toInt ∧ (e (o + 1) j).toInt ≤ 23 := (hI.2.2.2 o ho.1 ho.2.2 j).1
theorem cw_ahd {K nn dn : Nat} {q : Nat → Nat} {w : Nat → Int32} {e : Nat → Nat → Int32} (hI : cw_I K nn dn q w e) {o : Nat} (ho : cw_ro K o) (j : Nat) : -1 ≤ (e (o + 3) j).toInt ∧ (e (o + 3) j).toInt ≤ 159 := (hI.2.2.2 o ho.1 ho.2.2 j).2
theorem cw_S_fl {v : Nat → Int32} {f : Nat → Nat → Int32} (h : cw_S v f) (n : Nat) (x : Int32) (hx : -1 ≤ x.toInt ∧ x.toInt ≤ 159) : cw_S v (va_up f 13 (fun j => if j < n then x else f 13 j)) := by
  refine ⟨h.1, h.2.1, fun j => ?_⟩
  show -1 ≤ (if j < n then x else f 13 j).toInt ∧ (if j < n then x else f 13 j).toInt ≤ 159
  split
  · exact hx
  · exact h.2.2 j
/-! the ends of its contracts -/
noncomputable def cw_Qs (A0 : pm_H) (g : pm_G) (K nn dn : Nat) (q : Nat → Nat) (w : Nat → Int32) (e : Nat → Nat → Int32) (P : Option Value → (Nat → Int32) → (Nat → Nat → Int32) → Prop) : Option Value → pm_H → Prop := fun r A' => ∃ (v2 : Nat → Int32) (f2 : Nat → Nat → Int32), A' = cw A0 g K nn dn q w e v2 f2 ∧ cw_S v2 f2 ∧ P r v2 f2
noncomputable def cw_Qt (A0 : pm_H) (g : pm_G) (K nn dn : Nat) (q : Nat → Nat) (P : Option Value → (Nat → Int32) → (Nat → Nat → Int32) → Prop) : Option Value → pm_H → Prop := fun r A' => ∃ (w2 : Nat → Int32) (e2 : Nat → Nat → Int32) (v2 : Nat → Int32) (f2 : Nat → Nat → Int32), A' = cw A0 g K nn dn q w2 e2 v2 f2 ∧ cw_I K nn dn q w2 e2 ∧ cw_S v2 f2 ∧ P r w2 e2
noncomputable def cw_X (A0 : pm_H) (K : Nat) (q : Nat → Nat) (K2 : Nat) (q2 : Nat → Nat) : Prop := K ≤ K2 ∧ (∀ i, i < 40 + 4 * K → q2 i = q i) ∧ ∀ i, 40 + 4 * K ≤ i → i < 40 + 4 * K2 → A0 (q2 i) = none
theorem cw_X_r {A0 : pm_H} {K : Nat} {q : Nat → Nat} : cw_X A0 K q K q := ⟨Nat.le_refl _, fun _ _ => rfl, fun _ h1 h2 => absurd h2 (by omega)⟩
noncomputable def cw_Qb (A0 : pm_H) (g : pm_G) (K nn : Nat) (q : Nat → Nat) (P : Option Value → Nat → Nat → Nat → (Nat → Int32) → (Nat → Nat → Int32) → Prop) : Option Value → pm_H → Prop := fun r A' => ∃ (K2 nn2 dn2 : Nat) (q2 : Nat → Nat) (w2 : Nat → Int32) (e2 : Nat → Nat → Int32) (v2 : Nat → Int32) (f2 : Nat → Nat → Int32), A' = cw A0 g K2 nn2 dn2 q2 w2 e2 v2 f2 ∧ cw_I K2 nn2 dn2 q2 w2 e2 ∧ cw_S v2 f2 ∧ cw_X A0 K q K2 q2 ∧ P r K2 nn2 dn2 w2 e2
end
section
theorem pm_neg (x : Int32) (h : -2147483647 ≤ x.toInt) : (-x).toInt = - x.toInt := by
  have h2 := pm_rng x
  rw [Int32.toInt_neg]
  exact Int.bmod_eq_of_le (by omega) (by omega)
theorem pm_up_id {A : pm_H} {a : Nat} {e : va_E} (h : A a = some e) : pm_up A a e = A := by
  funext q
  by_cases hq : q = a
  · subst hq; rw [pm_up_s, h]
  · rw [pm_up_n hq]
theorem pm_up_up {A : pm_H} {a : Nat} {e e' : va_E} : pm_up (pm_up A a e) a e' = pm_up A a e' := by
  funext q
  by_cases hq : q = a
  · subst hq; rw [pm_up_s, pm_up_s]
  · rw [pm_up_n hq, pm_up_n hq, pm_up_n hq]
theorem pm_xor0 (x y : Int32) (hx : 0 ≤ x.toInt) (hy : 0 ≤ y.toInt) : 0 ≤ (x ^^^ y).toInt := by
  have h1 : x.toBitVec.msb = false := by rw [BitVec.msb_eq_toInt]; exact decide_eq_false (by show ¬ x.toInt < 0; omega)
  have h2 : y.toBitVec.msb = false := by rw [BitVec.msb_eq_toInt]; exact decide_eq_false (by show ¬ y.toInt < 0; omega)
  have h3 : (x ^^^ y).toBitVec.msb = false := by rw [Int32.toBitVec_xor, BitVec.msb_xor, h1, h2]; rfl
  rw [BitVec.msb_eq_toInt] at h3
  have h4 := of_decide_eq_false h3
  have h5 : ¬ (x ^^^ y).toInt < 0 := h4
  omega
section
variable {l : Launch} {g : pm_G}
set_option maxRecDepth 100000 in
theorem c_fill {A : pm_H} {a n : Nat} {f0 : Nat → Int32} (hA : A a = some (pm_ia g n f0)) (hn : n < 1000) (x : Int32) : pm_Mt l g 4 0 0 0 [.ref a, .int x] A (fun r A' => r = none ∧ A' = pm_up A a (pm_ia g n (fun j => if j < n then x else f0 j))) := by
  refine mt_J7_fill_53178 rfl (fun J hC => ?_)
  have hN := nI_toInt (n := n) (by omega)
  have k1 : (1 : Int32).toInt = 1 := rfl
  have lp : ∀ (m : Nat) (i : Int32) (A1 : pm_H), 0 ≤ i.toInt ∧ i.toInt ≤ n → A1 = pm_up A a (pm_ia g n (fun j => if (j : Int) < i.toInt then x else f0 j)) → (n : Int) - i.toInt < m → J 5 [some (.ref a), some (.int x), some (.int i), some (.int (nI n))] [] A1 0 0 := by
    intro m
    induction m with
    | zero => intro i A1 h1 h2 h3; omega
    | succ m ih =>
      intro i A1 h1 h2 h3
      refine hC.1 1 5 _ _ rfl _ _ _ _ _ ?_
      refine And.intro (fun c => ?_) (fun c => ?_)
      · refine hC.1 2 20 _ _ rfl _ _ _ _ _ ?_
        refine ⟨rfl, rfl, rfl, ?_⟩
        rw [h2]
        have e : (fun j : Nat => if (j : Int) < i.toInt then x else f0 j) = fun j => if j < n then x else f0 j := by
          funext j
          by_cases hj : j < n
          · rw [if_pos hj, if_pos (by omega)]
          · rw [if_neg hj, if_neg (by omega)]
        rw [e]
      · refine Exists.intro n (Exists.intro _ (And.intro (by rw [h2, pm_up_s]) (And.intro (by omega) ?_)))
        intro i2 em
        have e2 : i2.toInt = i.toInt + 1 := by rw [em]; exact pm_addc _ _ 1 rfl (by omega) (by omega)
        refine ih i2 _ (by omega) ?_ (by omega)
        rw [h2, pm_up_up]
        have e : (upd (fun j : Nat => if (j : Int) < i.toInt then x else f0 j) i.toInt.toNat x) = fun j : Nat => if (j : Int) < i2.toInt then x else f0 j := by
          funext j
          by_cases hj : j = i.toInt.toNat
          · subst hj; rw [pk_us, if_pos (by omega)]
          · rw [pk_un hj]
            by_cases hj2 : (j : Int) < i.toInt
            · rw [if_pos hj2, if_pos (by omega)]
            · rw [if_neg hj2, if_neg (by omega)]
        rw [e]
  refine hC.1 0 0 _ _ rfl _ _ _ _ _ ?_
  refine Exists.intro n (Exists.intro f0 (And.intro (Or.inl hA) ?_))
  have k0 : (0 : Int32).toInt = 0 := rfl
  refine lp (n + 1) 0 A (by omega) ?_ (by omega)
  have e : (fun j : Nat => if (j : Int) < (0 : Int32).toInt then x else f0 j) = f0 := by
    funext j
    rw [if_neg (by omega)]
  rw [e, pm_up_id hA]
end
end
section
section
variable {l : Launch} {g : pm_G} {A0 : pm_H} {K nn dn : Nat} {q : Nat → Nat} {w : Nat → Int32} {e : Nat → Nat → Int32} {v : Nat → Int32} {f : Nat → Nat → Int32}
set_option maxRecDepth 100000 in
set_option maxHeartbeats 2000000 in
theorem c_J9_max_7cf53 (A : pm_H) (x0 : Int32) (x1 : Int32)  : pm_Mt l g 51 0 0 0 [.int x0, .int x1] A (md_Qp A (fun r => (x1.toInt ≤ x0.toInt ∧ r.toInt = x0.toInt) ∨ (x0.toInt < x1.toInt ∧ r.toInt = x1.toInt))) := by
  refine mt_J9_max_7cf53 rfl (fun J hC => ?_)
  have rg_x0 := pm_rng x0
  have rg_x1 := pm_rng x1
  refine hC.1 0 0 _ _ rfl _ _ _ _ _ ?_
  refine And.intro (fun c1 => ?_) (fun c1 => ?_)
  · skip
    refine hC.1 1 9 _ _ rfl _ _ _ _ _ ?_
    refine hC.1 2 10 _ _ rfl _ _ _ _ _ ?_
    exact ⟨rfl, fun e9 => absurd e9 (by decide), rfl, x1, rfl, rfl, by first | omega | (dsimp only; omega) | trivial⟩
  · skip
    refine hC.1 2 10 _ _ rfl _ _ _ _ _ ?_
    exact ⟨rfl, fun e9 => absurd e9 (by decide), rfl, x0, rfl, rfl, by first | omega | (dsimp only; omega) | trivial⟩

set_option maxRecDepth 100000 in
set_option maxHeartbeats 2000000 in
theorem c_J9_min_7cf53 (A : pm_H) (x0 : Int32) (x1 : Int32)  : pm_Mt l g 87 0 0 0 [.int x0, .int x1] A (md_Qp A (fun r => (x1.toInt ≤ x0.toInt ∧ r.toInt = x1.toInt) ∨ (x0.toInt ≤ x1.toInt ∧ r.toInt = x0.toInt))) := by
  refine mt_J9_min_7cf53 rfl (fun J hC => ?_)
  have rg_x0 := pm_rng x0
  have rg_x1 := pm_rng x1
  refine hC.1 0 0 _ _ rfl _ _ _ _ _ ?_
  refine And.intro (fun c1 => ?_) (fun c1 => ?_)
  · skip
    refine hC.1 1 9 _ _ rfl _ _ _ _ _ ?_
    refine hC.1 2 10 _ _ rfl _ _ _ _ _ ?_
    exact ⟨rfl, fun e9 => absurd e9 (by decide), rfl, x1, rfl, rfl, by first | omega | (dsimp only; omega) | trivial⟩
  · skip
    refine hC.1 2 10 _ _ rfl _ _ _ _ _ ?_
    exact ⟨rfl, fun e9 => absurd e9 (by decide), rfl, x0, rfl, rfl, by first | omega | (dsimp only; omega) | trivial⟩

set_option maxRecDepth 100000 in
set_option maxHeartbeats 2000000 in
theorem c_J9_abs_0f7a4 (A : pm_H) (x0 : Int32)  : pm_Mt l g 70 0 0 0 [.int x0] A (md_Qp A (fun r => -2147483647 ≤ x0.toInt → 0 ≤ r.toInt ∧ (r.toInt = x0.toInt ∨ r.toInt = - x0.toInt))) := by
  refine mt_J9_abs_0f7a4 rfl (fun J hC => ?_)
  have rg_x0 := pm_rng x0
  refine hC.1 0 0 _ _ rfl _ _ _ _ _ ?_
  refine And.intro (fun c1 => ?_) (fun c1 => ?_)
  · skip
    refine hC.1 1 9 _ _ rfl _ _ _ _ _ ?_
    refine hC.1 2 10 _ _ rfl _ _ _ _ _ ?_
    exact ⟨rfl, fun e9 => absurd e9 (by decide), rfl, x0, rfl, rfl, by intro h9; first | omega | exact ⟨by rw [em_5, pm_neg _ (by omega)]; omega, Or.inr (by rw [em_5, pm_neg _ (by omega)])⟩⟩
  · skip
    intro m2 em_5
    refine hC.1 2 10 _ _ rfl _ _ _ _ _ ?_
    exact ⟨rfl, fun e9 => absurd e9 (by decide), rfl, m2, rfl, rfl, by intro h9; first | omega | exact ⟨by rw [em_5, pm_neg _ (by omega)]; omega, Or.inr (by rw [em_5, pm_neg _ (by omega)])⟩⟩

set_option maxRecDepth 100000 in
set_option maxHeartbeats 2000000 in
theorem c_J9_floorMod_7cf53 (A : pm_H) (x0 : Int32) (x1 : Int32) (p0 : 0 ≤ x0.toInt) (p1 : 0 < x1.toInt) : pm_Mt l g 17 0 0 0 [.int x0, .int x1] A (md_Qp A (fun r => 0 ≤ r.toInt ∧ r.toInt < x1.toInt ∧ r.toInt = x0.toInt % x1.toInt)) := by
  refine mt_J9_floorMod_7cf53 rfl (fun J hC => ?_)
  have rg_x0 := pm_rng x0
  have rg_x1 := pm_rng x1
  have xx9 := pm_xor0 x0 x1 p0 (by omega)
  refine hC.1 0 0 _ _ rfl _ _ _ _ _ ?_
  refine And.intro (fun e9 => by have e8 := congrArg Int32.toInt e9; have e7 : (0 : Int32).toInt = 0 := rfl; omega) ?_
  intro m1 em_2
  try have e1 := pm_rem x0 x1 (by omega) (by omega)
  try rw [← em_2] at e1
  refine And.intro (fun c2 => ?_) (fun c2 => ?_)
  · skip
    refine hC.1 1 18 _ _ rfl _ _ _ _ _ ?_
    exact ⟨rfl, fun e9 => absurd e9 (by decide), rfl, m1, rfl, rfl, by first | exact absurd xx9 (by omega) | omega | (exact ⟨by omega, by omega, by assumption⟩)⟩
  · skip
    refine And.intro (fun c3 => ?_) (fun c3 => ?_)
    · skip
      have dc3 : (m1).toInt = (0 : Int32).toInt := congrArg Int32.toInt c3
      have k0 : (0 : Int32).toInt = 0 := rfl
      refine hC.1 1 18 _ _ rfl _ _ _ _ _ ?_
      exact ⟨rfl, fun e9 => absurd e9 (by decide), rfl, m1, rfl, rfl, by first | exact absurd xx9 (by omega) | omega | (exact ⟨by omega, by omega, by assumption⟩)⟩
    · skip
      have dc3 := pm_neI c3
      have k0 : (0 : Int32).toInt = 0 := rfl
      intro m4 em_16
      try have e4 : m4.toInt = (m1).toInt + (x1).toInt := by rw [em_16]; exact pm_add _ _ (by omega) (by omega)
      exact ⟨rfl, fun e9 => absurd e9 (by decide), rfl, m4, rfl, rfl, by first | exact absurd xx9 (by omega) | omega | (exact ⟨by omega, by omega, by assumption⟩)⟩

set_option maxRecDepth 100000 in
set_option maxHeartbeats 2000000 in
theorem c_J6_bitCount_0f7a4 (A : pm_H) (x0 : Int32)  : pm_Mt l g 75 0 0 0 [.int x0] A (md_Qp A (fun r => True)) := by
  refine mt_J6_bitCount_0f7a4 rfl (fun J hC => ?_)
  have rg_x0 := pm_rng x0
  refine hC.1 0 0 _ _ rfl _ _ _ _ _ ?_
  have k1 : (1 : Int32).toInt = 1 := rfl
  have k1431655765 : (1431655765 : Int32).toInt = 1431655765 := rfl
  intro m1 em_8
  try have e1 : m1.toInt = (x0).toInt - ((((x0).toUInt32 >>> (((1 : Int32)).toUInt32 &&& Int32.toUInt32 31)).toInt32 &&& (1431655765 : Int32))).toInt := by rw [em_8]; exact pm_sub _ _ (by omega) (by omega)
  have k858993459 : (858993459 : Int32).toInt = 858993459 := rfl
  have k2 : (2 : Int32).toInt = 2 := rfl
  intro m2 em_22
  try have e2 : m2.toInt = ((m1 &&& (858993459 : Int32))).toInt + ((((m1).toUInt32 >>> (((2 : Int32)).toUInt32 &&& Int32.toUInt32 31)).toInt32 &&& (858993459 : Int32))).toInt := by rw [em_22]; exact pm_add _ _ (by omega) (by omega)
  have k4 : (4 : Int32).toInt = 4 := rfl
  intro m3 em_28
  try have e3 : m3.toInt = (m2).toInt + (((m2).toUInt32 >>> (((4 : Int32)).toUInt32 &&& Int32.toUInt32 31)).toInt32).toInt := by rw [em_28]; exact pm_add _ _ (by omega) (by omega)
  have k252645135 : (252645135 : Int32).toInt = 252645135 := rfl
  have k8 : (8 : Int32).toInt = 8 := rfl
  intro m4 em_39
  try have e4 : m4.toInt = ((m3 &&& (252645135 : Int32))).toInt + ((((m3 &&& (252645135 : Int32))).toUInt32 >>> (((8 : Int32)).toUInt32 &&& Int32.toUInt32 31)).toInt32).toInt := by rw [em_39]; exact pm_add _ _ (by omega) (by omega)
  have k16 : (16 : Int32).toInt = 16 := rfl
  intro m5 em_46
  try have e5 : m5.toInt = (m4).toInt + (((m4).toUInt32 >>> (((16 : Int32)).toUInt32 &&& Int32.toUInt32 31)).toInt32).toInt := by rw [em_46]; exact pm_add _ _ (by omega) (by omega)
  have k63 : (63 : Int32).toInt = 63 := rfl
  exact ⟨rfl, fun e9 => absurd e9 (by decide), rfl, (m5 &&& (63 : Int32)), rfl, rfl, by exact True.intro⟩

set_option maxRecDepth 100000 in
set_option maxHeartbeats 2000000 in
theorem c_X10_isColour (A : pm_H) (x0 : Int32)  : pm_Mt l g 15 0 0 0 [.int x0] A (md_Qp A (fun r => (r = 1 ∧ (0 ≤ x0.toInt ∧ x0.toInt < 24)) ∨ (r = 0 ∧ (¬ (0 ≤ x0.toInt ∧ x0.toInt < 24))))) := by
  refine mt_X10_isColour rfl (fun J hC => ?_)
  have rg_x0 := pm_rng x0
  refine hC.1 0 0 _ _ rfl _ _ _ _ _ ?_
  refine And.intro (fun c1 => ?_) (fun c1 => ?_)
  · skip
    refine hC.1 1 14 _ _ rfl _ _ _ _ _ ?_
    have k0 : (0 : Int32).toInt = 0 := rfl
    refine hC.1 2 15 _ _ rfl _ _ _ _ _ ?_
    exact ⟨rfl, fun _ => (by decide), rfl, (0 : Int32), rfl, rfl, Or.inr ⟨rfl, by first | omega | (dsimp only; omega) | trivial⟩⟩
  · skip
    have k24 : (24 : Int32).toInt = 24 := rfl
    refine And.intro (fun c2 => ?_) (fun c2 => ?_)
    · skip
      refine hC.1 1 14 _ _ rfl _ _ _ _ _ ?_
      have k0 : (0 : Int32).toInt = 0 := rfl
      refine hC.1 2 15 _ _ rfl _ _ _ _ _ ?_
      exact ⟨rfl, fun _ => (by decide), rfl, (0 : Int32), rfl, rfl, Or.inr ⟨rfl, by first | omega | (dsimp only; omega) | trivial⟩⟩
    · skip
      have k1 : (1 : Int32).toInt = 1 := rfl
      refine hC.1 2 15 _ _ rfl _ _ _ _ _ ?_
      exact ⟨rfl, fun _ => (by decide), rfl, (1 : Int32), rfl, rfl, Or.inl ⟨rfl, by first | omega | (dsimp only; omega) | trivial⟩⟩

set_option maxRecDepth 100000 in
set_option maxHeartbeats 2000000 in
theorem c_X10_areUnlikeColours (A : pm_H) (x0 : Int32) (x1 : Int32)  : pm_Mt l g 38 1 0 0 [.int x0, .int x1] A (md_Qp A (fun r => (r = 1 ∧ ((0 ≤ x0.toInt ∧ x0.toInt < 24) ∧ 0 ≤ x1.toInt ∧ x1.toInt < 24)) ∨ (r = 0 ∧ (True)))) := by
  refine mt_X10_areUnlikeColours rfl (fun J hC => ?_)
  have rg_x0 := pm_rng x0
  have rg_x1 := pm_rng x1
  refine hC.1 0 0 _ _ rfl _ _ _ _ _ ?_
  refine Exists.intro _ (Exists.intro _ (Exists.intro _ (Exists.intro _ (And.intro (c_X10_isColour A x0 ) (And.intro rfl (fun r9 A1 h9 => ?_))))))
  rcases h9 with ⟨y2, rfl, rfl, ⟨rfl, by2⟩ | ⟨rfl, by2⟩⟩
  · skip
    have k1 : (1 : Int32).toInt = 1 := rfl
    refine And.intro (fun c9 => absurd c9 (by decide)) (fun _ => ?_)
    refine Exists.intro _ (Exists.intro _ (Exists.intro _ (Exists.intro _ (And.intro (c_X10_isColour A1 x1 ) (And.intro rfl (fun r9 A4 h9 => ?_))))))
    rcases h9 with ⟨y5, rfl, rfl, ⟨rfl, by5⟩ | ⟨rfl, by5⟩⟩
    · skip
      refine And.intro (fun c9 => absurd c9 (by decide)) (fun _ => ?_)
      refine And.intro (fun c7 => ?_) (fun c7 => ?_)
      · skip
        have dc7 : (x0).toInt = (x1 : Int32).toInt := congrArg Int32.toInt c7
        refine hC.1 1 23 _ _ rfl _ _ _ _ _ ?_
        have k0 : (0 : Int32).toInt = 0 := rfl
        refine hC.1 2 24 _ _ rfl _ _ _ _ _ ?_
        exact ⟨rfl, fun _ => (by decide), rfl, (0 : Int32), rfl, rfl, Or.inr ⟨rfl, by first | omega | (dsimp only; omega) | trivial⟩⟩
      · skip
        have dc7 := pm_neI c7
        refine hC.1 2 24 _ _ rfl _ _ _ _ _ ?_
        exact ⟨rfl, fun _ => (by decide), rfl, (1 : Int32), rfl, rfl, Or.inl ⟨rfl, by first | omega | (dsimp only; omega) | trivial⟩⟩
    · skip
      have k0 : (0 : Int32).toInt = 0 := rfl
      refine And.intro (fun _ => ?_) (fun c9 => absurd c9 (by decide))
      refine hC.1 1 23 _ _ rfl _ _ _ _ _ ?_
      refine hC.1 2 24 _ _ rfl _ _ _ _ _ ?_
      exact ⟨rfl, fun _ => (by decide), rfl, (0 : Int32), rfl, rfl, Or.inr ⟨rfl, by first | omega | (dsimp only; omega) | trivial⟩⟩
  · skip
    have k0 : (0 : Int32).toInt = 0 := rfl
    refine And.intro (fun _ => ?_) (fun c9 => absurd c9 (by decide))
    refine hC.1 1 23 _ _ rfl _ _ _ _ _ ?_
    refine hC.1 2 24 _ _ rfl _ _ _ _ _ ?_
    exact ⟨rfl, fun _ => (by decide), rfl, (0 : Int32), rfl, rfl, Or.inr ⟨rfl, by first | omega | (dsimp only; omega) | trivial⟩⟩

set_option maxRecDepth 100000 in
set_option maxHeartbeats 2000000 in
theorem c_X8_canBe (A : pm_H) (x0 : Int32) (x1 : Int32)  : pm_Mt l g 121 0 0 0 [.int x0, .int x1] A (md_Qp A (fun r => (r = 1 ∧ (1 ≤ x0.toInt ∧ x0.toInt ≤ 24)) ∨ (r = 0 ∧ (True)))) := by
  refine mt_X8_canBe rfl (fun J hC => ?_)
  have rg_x0 := pm_rng x0
  have rg_x1 := pm_rng x1
  refine hC.1 0 0 _ _ rfl _ _ _ _ _ ?_
  have k1 : (1 : Int32).toInt = 1 := rfl
  refine And.intro (fun c1 => ?_) (fun c1 => ?_)
  · skip
    refine hC.1 2 24 _ _ rfl _ _ _ _ _ ?_
    have k0 : (0 : Int32).toInt = 0 := rfl
    refine hC.1 3 25 _ _ rfl _ _ _ _ _ ?_
    exact ⟨rfl, fun _ => (by decide), rfl, (0 : Int32), rfl, rfl, Or.inr ⟨rfl, by first | omega | (dsimp only; omega) | trivial⟩⟩
  · skip
    have k24 : (24 : Int32).toInt = 24 := rfl
    refine And.intro (fun c2 => ?_) (fun c2 => ?_)
    · skip
      refine hC.1 2 24 _ _ rfl _ _ _ _ _ ?_
      have k0 : (0 : Int32).toInt = 0 := rfl
      refine hC.1 3 25 _ _ rfl _ _ _ _ _ ?_
      exact ⟨rfl, fun _ => (by decide), rfl, (0 : Int32), rfl, rfl, Or.inr ⟨rfl, by first | omega | (dsimp only; omega) | trivial⟩⟩
    · skip
      refine And.intro (fun c3 => ?_) (fun c3 => ?_)
      · skip
        have dc3 : (x1).toInt = (0 : Int32).toInt := congrArg Int32.toInt c3
        have k0 : (0 : Int32).toInt = 0 := rfl
        refine hC.1 1 20 _ _ rfl _ _ _ _ _ ?_
        refine hC.1 3 25 _ _ rfl _ _ _ _ _ ?_
        exact ⟨rfl, fun _ => (by decide), rfl, (1 : Int32), rfl, rfl, Or.inl ⟨rfl, by first | omega | (dsimp only; omega) | trivial⟩⟩
      · skip
        have dc3 := pm_neI c3
        have k0 : (0 : Int32).toInt = 0 := rfl
        refine And.intro (fun c4 => ?_) (fun c4 => ?_)
        · skip
          have dc4 := pm_neI c4
          refine hC.1 2 24 _ _ rfl _ _ _ _ _ ?_
          refine hC.1 3 25 _ _ rfl _ _ _ _ _ ?_
          exact ⟨rfl, fun _ => (by decide), rfl, (0 : Int32), rfl, rfl, Or.inr ⟨rfl, by first | omega | (dsimp only; omega) | trivial⟩⟩
        · skip
          have dc4 : (x1).toInt = ((1 : Int32) : Int32).toInt := congrArg Int32.toInt c4
          refine hC.1 1 20 _ _ rfl _ _ _ _ _ ?_
          refine hC.1 3 25 _ _ rfl _ _ _ _ _ ?_
          exact ⟨rfl, fun _ => (by decide), rfl, (1 : Int32), rfl, rfl, Or.inl ⟨rfl, by first | omega | (dsimp only; omega) | trivial⟩⟩

set_option maxRecDepth 100000 in
set_option maxHeartbeats 2000000 in
theorem c_X7_has (hI : cw_I K nn dn q w e) (hs : cw_S v f) {o0 : Nat} (ho0 : cw_ro K o0) (x1 : Int32)  : pm_Mt l g 19 0 0 0 [.ref (q o0), .int x1] (cw A0 g K nn dn q w e v f) (md_Qp (cw A0 g K nn dn q w e v f) (fun r => (r = 1 ∧ (0 ≤ x1.toInt ∧ x1.toInt < (w o0).toInt)) ∨ (r = 0 ∧ (¬ (0 ≤ x1.toInt ∧ x1.toInt < (w o0).toInt))))) := by
  refine mt_X7_has rfl (fun J hC => ?_)
  have ro_nn : cw_ro K nn := hI.2.1.2.1
  have ro_dn : cw_ro K dn := hI.2.1.2.2.1
  have hu1 := hI.2.1
  unfold cw_W at hu1
  have rg_x1 := pm_rng x1
  refine hC.1 0 0 _ _ rfl _ _ _ _ _ ?_
  refine And.intro (fun c2 => ?_) (fun c2 => ?_)
  · skip
    refine hC.1 1 16 _ _ rfl _ _ _ _ _ ?_
    have k0 : (0 : Int32).toInt = 0 := rfl
    refine hC.1 2 17 _ _ rfl _ _ _ _ _ ?_
    exact ⟨rfl, fun _ => (by decide), rfl, (0 : Int32), rfl, rfl, Or.inr ⟨rfl, by first | omega | (dsimp only; omega) | trivial⟩⟩
  · skip
    refine Exists.intro _ (And.intro (cw_ro_o hI.1 ho0) ?_)
    have z3 := cw_sz hI ho0
    refine And.intro (fun c4 => ?_) (fun c4 => ?_)
    · skip
      refine hC.1 1 16 _ _ rfl _ _ _ _ _ ?_
      have k0 : (0 : Int32).toInt = 0 := rfl
      refine hC.1 2 17 _ _ rfl _ _ _ _ _ ?_
      exact ⟨rfl, fun _ => (by decide), rfl, (0 : Int32), rfl, rfl, Or.inr ⟨rfl, by first | omega | (dsimp only; omega) | trivial⟩⟩
    · skip
      have k1 : (1 : Int32).toInt = 1 := rfl
      refine hC.1 2 17 _ _ rfl _ _ _ _ _ ?_
      exact ⟨rfl, fun _ => (by decide), rfl, (1 : Int32), rfl, rfl, Or.inl ⟨rfl, by first | omega | (dsimp only; omega) | trivial⟩⟩

set_option maxRecDepth 100000 in
set_option maxHeartbeats 2000000 in
theorem c_X7_isGap (hI : cw_I K nn dn q w e) (hs : cw_S v f) {o0 : Nat} (ho0 : cw_ro K o0) (x1 : Int32)  : pm_Mt l g 26 0 0 0 [.ref (q o0), .int x1] (cw A0 g K nn dn q w e v f) (md_Qp (cw A0 g K nn dn q w e v f) (fun r => (r = 1 ∧ (0 ≤ x1.toInt ∧ x1.toInt ≤ (w o0).toInt)) ∨ (r = 0 ∧ (¬ (0 ≤ x1.toInt ∧ x1.toInt ≤ (w o0).toInt))))) := by
  refine mt_X7_isGap rfl (fun J hC => ?_)
  have ro_nn : cw_ro K nn := hI.2.1.2.1
  have ro_dn : cw_ro K dn := hI.2.1.2.2.1
  have hu1 := hI.2.1
  unfold cw_W at hu1
  have rg_x1 := pm_rng x1
  refine hC.1 0 0 _ _ rfl _ _ _ _ _ ?_
  refine And.intro (fun c2 => ?_) (fun c2 => ?_)
  · skip
    refine hC.1 1 16 _ _ rfl _ _ _ _ _ ?_
    have k0 : (0 : Int32).toInt = 0 := rfl
    refine hC.1 2 17 _ _ rfl _ _ _ _ _ ?_
    exact ⟨rfl, fun _ => (by decide), rfl, (0 : Int32), rfl, rfl, Or.inr ⟨rfl, by first | omega | (dsimp only; omega) | trivial⟩⟩
  · skip
    refine Exists.intro _ (And.intro (cw_ro_o hI.1 ho0) ?_)
    have z3 := cw_sz hI ho0
    refine And.intro (fun c4 => ?_) (fun c4 => ?_)
    · skip
      refine hC.1 1 16 _ _ rfl _ _ _ _ _ ?_
      have k0 : (0 : Int32).toInt = 0 := rfl
      refine hC.1 2 17 _ _ rfl _ _ _ _ _ ?_
      exact ⟨rfl, fun _ => (by decide), rfl, (0 : Int32), rfl, rfl, Or.inr ⟨rfl, by first | omega | (dsimp only; omega) | trivial⟩⟩
    · skip
      have k1 : (1 : Int32).toInt = 1 := rfl
      refine hC.1 2 17 _ _ rfl _ _ _ _ _ ?_
      exact ⟨rfl, fun _ => (by decide), rfl, (1 : Int32), rfl, rfl, Or.inl ⟨rfl, by first | omega | (dsimp only; omega) | trivial⟩⟩

set_option maxRecDepth 100000 in
set_option maxHeartbeats 2000000 in
theorem c_X7_isSpan (hI : cw_I K nn dn q w e) (hs : cw_S v f) {o0 : Nat} (ho0 : cw_ro K o0) (x1 : Int32) (x2 : Int32)  : pm_Mt l g 14 0 0 0 [.ref (q o0), .int x1, .int x2] (cw A0 g K nn dn q w e v f) (md_Qp (cw A0 g K nn dn q w e v f) (fun r => (r = 1 ∧ (0 ≤ x1.toInt ∧ x1.toInt ≤ x2.toInt ∧ x2.toInt < (w o0).toInt)) ∨ (r = 0 ∧ (¬ (0 ≤ x1.toInt ∧ x1.toInt ≤ x2.toInt ∧ x2.toInt < (w o0).toInt))))) := by
  refine mt_X7_isSpan rfl (fun J hC => ?_)
  have ro_nn : cw_ro K nn := hI.2.1.2.1
  have ro_dn : cw_ro K dn := hI.2.1.2.2.1
  have hu1 := hI.2.1
  unfold cw_W at hu1
  have rg_x1 := pm_rng x1
  have rg_x2 := pm_rng x2
  refine hC.1 0 0 _ _ rfl _ _ _ _ _ ?_
  refine And.intro (fun c2 => ?_) (fun c2 => ?_)
  · skip
    refine hC.1 1 21 _ _ rfl _ _ _ _ _ ?_
    have k0 : (0 : Int32).toInt = 0 := rfl
    refine hC.1 2 22 _ _ rfl _ _ _ _ _ ?_
    exact ⟨rfl, fun _ => (by decide), rfl, (0 : Int32), rfl, rfl, Or.inr ⟨rfl, by first | omega | (dsimp only; omega) | trivial⟩⟩
  · skip
    refine And.intro (fun c3 => ?_) (fun c3 => ?_)
    · skip
      refine hC.1 1 21 _ _ rfl _ _ _ _ _ ?_
      have k0 : (0 : Int32).toInt = 0 := rfl
      refine hC.1 2 22 _ _ rfl _ _ _ _ _ ?_
      exact ⟨rfl, fun _ => (by decide), rfl, (0 : Int32), rfl, rfl, Or.inr ⟨rfl, by first | omega | (dsimp only; omega) | trivial⟩⟩
    · skip
      refine Exists.intro _ (And.intro (cw_ro_o hI.1 ho0) ?_)
      have z4 := cw_sz hI ho0
      refine And.intro (fun c5 => ?_) (fun c5 => ?_)
      · skip
        refine hC.1 1 21 _ _ rfl _ _ _ _ _ ?_
        have k0 : (0 : Int32).toInt = 0 := rfl
        refine hC.1 2 22 _ _ rfl _ _ _ _ _ ?_
        exact ⟨rfl, fun _ => (by decide), rfl, (0 : Int32), rfl, rfl, Or.inr ⟨rfl, by first | omega | (dsimp only; omega) | trivial⟩⟩
      · skip
        have k1 : (1 : Int32).toInt = 1 := rfl
        refine hC.1 2 22 _ _ rfl _ _ _ _ _ ?_
        exact ⟨rfl, fun _ => (by decide), rfl, (1 : Int32), rfl, rfl, Or.inl ⟨rfl, by first | omega | (dsimp only; omega) | trivial⟩⟩

set_option maxRecDepth 100000 in
set_option maxHeartbeats 2000000 in
theorem c_X7_nameAt (hI : cw_I K nn dn q w e) (hs : cw_S v f) {o0 : Nat} (ho0 : cw_ro K o0) (x1 : Int32)  : pm_Mt l g 21 1 0 0 [.ref (q o0), .int x1] (cw A0 g K nn dn q w e v f) (md_Qp (cw A0 g K nn dn q w e v f) (fun r => True)) := by
  refine mt_X7_nameAt rfl (fun J hC => ?_)
  have ro_nn : cw_ro K nn := hI.2.1.2.1
  have ro_dn : cw_ro K dn := hI.2.1.2.2.1
  have hu1 := hI.2.1
  unfold cw_W at hu1
  have rg_x1 := pm_rng x1
  have zz0 := cw_sz hI ho0
  refine hC.1 0 0 _ _ rfl _ _ _ _ _ ?_
  refine And.intro (Exists.intro _ (cw_ro_o hI.1 ho0)) (Exists.intro _ (Exists.intro _ (Exists.intro _ (Exists.intro _ (And.intro (c_X7_has hI hs ho0 x1 ) (And.intro rfl (fun r9 A9 h9 => ?_)))))))
  rcases h9 with ⟨y2, rfl, rfl, ⟨rfl, by2⟩ | ⟨rfl, by2⟩⟩
  · skip
    have k1 : (1 : Int32).toInt = 1 := rfl
    refine And.intro (fun c9 => absurd c9 (by decide)) (fun _ => ?_)
    refine Exists.intro _ (And.intro (cw_ro_o hI.1 ho0) ?_)
    refine Exists.intro _ (Exists.intro _ (And.intro (Or.inl (cw_ro_2 hI.1 ho0)) (And.intro (by omega) ?_)))
    refine hC.1 2 18 _ _ rfl _ _ _ _ _ ?_
    exact ⟨rfl, fun e9 => absurd e9 (by decide), rfl, (e (o0 + 2) (x1).toInt.toNat), rfl, rfl, by exact True.intro⟩
  · skip
    have k0 : (0 : Int32).toInt = 0 := rfl
    refine And.intro (fun _ => ?_) (fun c9 => absurd c9 (by decide))
    refine hC.1 1 17 _ _ rfl _ _ _ _ _ ?_
    have km1 : (-1 : Int32).toInt = -1 := rfl
    refine hC.1 2 18 _ _ rfl _ _ _ _ _ ?_
    exact ⟨rfl, fun e9 => absurd e9 (by decide), rfl, (-1 : Int32), rfl, rfl, by exact True.intro⟩

set_option maxRecDepth 100000 in
set_option maxHeartbeats 2000000 in
theorem c_X7_bondAt (hI : cw_I K nn dn q w e) (hs : cw_S v f) {o0 : Nat} (ho0 : cw_ro K o0) (x1 : Int32)  : pm_Mt l g 20 2 0 0 [.ref (q o0), .int x1] (cw A0 g K nn dn q w e v f) (md_Qp (cw A0 g K nn dn q w e v f) (fun r => True)) := by
  refine mt_X7_bondAt rfl (fun J hC => ?_)
  have ro_nn : cw_ro K nn := hI.2.1.2.1
  have ro_dn : cw_ro K dn := hI.2.1.2.2.1
  have hu1 := hI.2.1
  unfold cw_W at hu1
  have rg_x1 := pm_rng x1
  have zz0 := cw_sz hI ho0
  refine hC.1 0 0 _ _ rfl _ _ _ _ _ ?_
  refine And.intro (Exists.intro _ (cw_ro_o hI.1 ho0)) (Exists.intro _ (Exists.intro _ (Exists.intro _ (Exists.intro _ (And.intro (c_X7_has hI hs ho0 x1 ) (And.intro rfl (fun r9 A9 h9 => ?_)))))))
  rcases h9 with ⟨y2, rfl, rfl, ⟨rfl, by2⟩ | ⟨rfl, by2⟩⟩
  · skip
    have k1 : (1 : Int32).toInt = 1 := rfl
    refine And.intro (fun c9 => absurd c9 (by decide)) (fun _ => ?_)
    refine Exists.intro _ (And.intro (cw_ro_o hI.1 ho0) ?_)
    refine Exists.intro _ (Exists.intro _ (And.intro (Or.inl (cw_ro_3 hI.1 ho0)) (And.intro (by omega) ?_)))
    have w4 := cw_ahd hI ho0 (x1).toInt.toNat
    refine And.intro (Exists.intro _ (cw_ro_o hI.1 ho0)) (Exists.intro _ (Exists.intro _ (Exists.intro _ (Exists.intro _ (And.intro (c_X7_nameAt hI hs ho0 (e (o0 + 3) (x1).toInt.toNat) ) (And.intro rfl (fun r9 A9 h9 => ?_)))))))
    obtain ⟨y5, rfl, rfl, by5⟩ := h9
    refine hC.1 2 22 _ _ rfl _ _ _ _ _ ?_
    exact ⟨rfl, fun e9 => absurd e9 (by decide), rfl, y5, rfl, rfl, by exact True.intro⟩
  · skip
    have k0 : (0 : Int32).toInt = 0 := rfl
    refine And.intro (fun _ => ?_) (fun c9 => absurd c9 (by decide))
    refine hC.1 1 21 _ _ rfl _ _ _ _ _ ?_
    have km1 : (-1 : Int32).toInt = -1 := rfl
    refine hC.1 2 22 _ _ rfl _ _ _ _ _ ?_
    exact ⟨rfl, fun e9 => absurd e9 (by decide), rfl, (-1 : Int32), rfl, rfl, by exact True.intro⟩

set_option maxRecDepth 100000 in
set_option maxHeartbeats 2000000 in
theorem c_X7_tell (hI : cw_I K nn dn q w e) (hs : cw_S v f) {o0 : Nat} (ho0 : cw_ro K o0) (x1 : Int32) (x2 : Int32)  : pm_Mt l g 44 3 0 0 [.ref (q o0), .int x1, .int x2] (cw A0 g K nn dn q w e v f) (md_Qp (cw A0 g K nn dn q w e v f) (fun r => True)) := by
  refine mt_X7_tell rfl (fun J hC => ?_)
  have ro_nn : cw_ro K nn := hI.2.1.2.1
  have ro_dn : cw_ro K dn := hI.2.1.2.2.1
  have hu1 := hI.2.1
  unfold cw_W at hu1
  have rg_x1 := pm_rng x1
  have rg_x2 := pm_rng x2
  have zz0 := cw_sz hI ho0
  refine hC.1 0 0 _ _ rfl _ _ _ _ _ ?_
  refine And.intro (Exists.intro _ (cw_ro_o hI.1 ho0)) (Exists.intro _ (Exists.intro _ (Exists.intro _ (Exists.intro _ (And.intro (c_X7_has hI hs ho0 x1 ) (And.intro rfl (fun r9 A9 h9 => ?_)))))))
  rcases h9 with ⟨y2, rfl, rfl, ⟨rfl, by2⟩ | ⟨rfl, by2⟩⟩
  · skip
    have k1 : (1 : Int32).toInt = 1 := rfl
    refine And.intro (fun _ => ?_) (fun c9 => absurd c9 (by decide))
    refine hC.1 1 10 _ _ rfl _ _ _ _ _ ?_
    refine pm_swc 3 rfl (by decide) ?_ ?_
    · intro _
      refine hC.1 5 56 _ _ rfl _ _ _ _ _ ?_
      have km1 : (-1 : Int32).toInt = -1 := rfl
      exact ⟨rfl, fun e9 => absurd e9 (by decide), rfl, (-1 : Int32), rfl, rfl, by exact True.intro⟩
    · intro i9 hi9 he9
      rcases (show i9 = 0 ∨ i9 = 1 ∨ i9 = 2 by omega) with rfl | rfl | rfl
      · skip
        refine hC.1 2 36 _ _ rfl _ _ _ _ _ ?_
        refine Exists.intro _ (And.intro (cw_ro_o hI.1 ho0) ?_)
        refine Exists.intro _ (Exists.intro _ (And.intro (Or.inl (cw_ro_1 hI.1 ho0)) (And.intro (by omega) ?_)))
        have w6 := cw_col hI ho0 (x1).toInt.toNat
        exact ⟨rfl, fun e9 => absurd e9 (by decide), rfl, (e (o0 + 1) (x1).toInt.toNat), rfl, rfl, by exact True.intro⟩
      · skip
        refine hC.1 3 43 _ _ rfl _ _ _ _ _ ?_
        refine Exists.intro _ (And.intro (cw_ro_o hI.1 ho0) ?_)
        refine Exists.intro _ (Exists.intro _ (And.intro (Or.inl (cw_ro_2 hI.1 ho0)) (And.intro (by omega) ?_)))
        exact ⟨rfl, fun e9 => absurd e9 (by decide), rfl, (e (o0 + 2) (x1).toInt.toNat), rfl, rfl, by exact True.intro⟩
      · skip
        refine hC.1 4 50 _ _ rfl _ _ _ _ _ ?_
        refine And.intro (Exists.intro _ (cw_ro_o hI.1 ho0)) (Exists.intro _ (Exists.intro _ (Exists.intro _ (Exists.intro _ (And.intro (c_X7_bondAt hI hs ho0 x1 ) (And.intro rfl (fun r9 A9 h9 => ?_)))))))
        obtain ⟨y7, rfl, rfl, by7⟩ := h9
        exact ⟨rfl, fun e9 => absurd e9 (by decide), rfl, y7, rfl, rfl, by exact True.intro⟩
  · skip
    have k0 : (0 : Int32).toInt = 0 := rfl
    refine And.intro (fun c9 => absurd c9 (by decide)) (fun _ => ?_)
    have km1 : (-1 : Int32).toInt = -1 := rfl
    exact ⟨rfl, fun e9 => absurd e9 (by decide), rfl, (-1 : Int32), rfl, rfl, by exact True.intro⟩

set_option maxRecDepth 100000 in
set_option maxHeartbeats 2000000 in
theorem c_X7_placeOf (hI : cw_I K nn dn q w e) (hs : cw_S v f) {o0 : Nat} (ho0 : cw_ro K o0) (x1 : Int32)  : pm_Mt l g 46 0 0 0 [.ref (q o0), .int x1] (cw A0 g K nn dn q w e v f) (md_Qp (cw A0 g K nn dn q w e v f) (fun r => -1 ≤ r.toInt ∧ r.toInt < (w o0).toInt)) := by
  refine mt_X7_placeOf rfl (fun J hC => ?_)
  have ro_nn : cw_ro K nn := hI.2.1.2.1
  have ro_dn : cw_ro K dn := hI.2.1.2.2.1
  have hu1 := hI.2.1
  unfold cw_W at hu1
  have rg_x1 := pm_rng x1
  have zz0 := cw_sz hI ho0
  refine hC.1 0 0 _ _ rfl _ _ _ _ _ ?_
  have k0 : (0 : Int32).toInt = 0 := rfl
  have lp3 : ∀ (n : Nat) (z2_2 : Int32), (0 ≤ z2_2.toInt ∧ z2_2.toInt ≤ (w o0).toInt) → 200 - z2_2.toInt < (n : Int) → J 2 [some (.ref (q o0)), some (.int x1), some (.int z2_2)] [] (cw A0 g K nn dn q w e v f) 0 0 := by
    intro n
    induction n with
    | zero =>
      intro z2_2 j0_2 j1_2
      omega
    | succ n ih4 =>
      intro z2_2 j0_2 j1_2
      refine hC.1 1 2 _ _ rfl _ _ _ _ _ ?_
      refine Exists.intro _ (And.intro (cw_ro_o hI.1 ho0) ?_)
      have z5 := cw_sz hI ho0
      refine And.intro (fun c6 => ?_) (fun c6 => ?_)
      · skip
        refine hC.1 3 28 _ _ rfl _ _ _ _ _ ?_
        have km1 : (-1 : Int32).toInt = -1 := rfl
        exact ⟨rfl, fun e9 => absurd e9 (by decide), rfl, (-1 : Int32), rfl, rfl, by first | omega | (dsimp only; omega) | trivial⟩
      · skip
        refine Exists.intro _ (And.intro (cw_ro_o hI.1 ho0) ?_)
        refine Exists.intro _ (Exists.intro _ (And.intro (Or.inl (cw_ro_2 hI.1 ho0)) (And.intro (by omega) ?_)))
        refine And.intro (fun c7 => ?_) (fun c7 => ?_)
        · skip
          have dc7 := pm_neI c7
          refine hC.1 2 22 _ _ rfl _ _ _ _ _ ?_
          have k1 : (1 : Int32).toInt = 1 := rfl
          intro m8 em_22
          try have e8 : m8.toInt = (z2_2).toInt + (1) := by rw [em_22]; exact pm_addc _ _ (1) rfl (by omega) (by omega)
          exact ih4 m8 (by omega) (by omega)
        · skip
          have dc7 : ((e (o0 + 2) (z2_2).toInt.toNat)).toInt = (x1 : Int32).toInt := congrArg Int32.toInt c7
          exact ⟨rfl, fun e9 => absurd e9 (by decide), rfl, z2_2, rfl, rfl, by first | omega | (dsimp only; omega) | trivial⟩
  exact lp3 (200 - (0 : Int32).toInt).toNat.succ (0 : Int32) (by omega) (by omega)

set_option maxRecDepth 100000 in
set_option maxHeartbeats 2000000 in
theorem c_X7_hasName (hI : cw_I K nn dn q w e) (hs : cw_S v f) {o0 : Nat} (ho0 : cw_ro K o0) (x1 : Int32)  : pm_Mt l g 154 1 0 0 [.ref (q o0), .int x1] (cw A0 g K nn dn q w e v f) (md_Qp (cw A0 g K nn dn q w e v f) (fun r => (r = 1 ∧ (True)) ∨ (r = 0 ∧ (True)))) := by
  refine mt_X7_hasName rfl (fun J hC => ?_)
  have ro_nn : cw_ro K nn := hI.2.1.2.1
  have ro_dn : cw_ro K dn := hI.2.1.2.2.1
  have hu1 := hI.2.1
  unfold cw_W at hu1
  have rg_x1 := pm_rng x1
  refine hC.1 0 0 _ _ rfl _ _ _ _ _ ?_
  refine And.intro (Exists.intro _ (cw_ro_o hI.1 ho0)) (Exists.intro _ (Exists.intro _ (Exists.intro _ (Exists.intro _ (And.intro (c_X7_placeOf hI hs ho0 x1 ) (And.intro rfl (fun r9 A9 h9 => ?_)))))))
  obtain ⟨y2, rfl, rfl, by2⟩ := h9
  have km1 : (-1 : Int32).toInt = -1 := rfl
  refine And.intro (fun c4 => ?_) (fun c4 => ?_)
  · skip
    have dc4 : (y2).toInt = ((-1 : Int32) : Int32).toInt := congrArg Int32.toInt c4
    refine hC.1 1 13 _ _ rfl _ _ _ _ _ ?_
    have k0 : (0 : Int32).toInt = 0 := rfl
    refine hC.1 2 14 _ _ rfl _ _ _ _ _ ?_
    exact ⟨rfl, fun _ => (by decide), rfl, (0 : Int32), rfl, rfl, Or.inr ⟨rfl, by first | omega | (dsimp only; omega) | trivial⟩⟩
  · skip
    have dc4 := pm_neI c4
    have k1 : (1 : Int32).toInt = 1 := rfl
    refine hC.1 2 14 _ _ rfl _ _ _ _ _ ?_
    exact ⟨rfl, fun _ => (by decide), rfl, (1 : Int32), rfl, rfl, Or.inl ⟨rfl, by first | omega | (dsimp only; omega) | trivial⟩⟩

end
end
section
section
variable {l : Launch} {g : pm_G} {A0 : pm_H} {K nn dn : Nat} {q : Nat → Nat} {w : Nat → Int32} {e : Nat → Nat → Int32} {v : Nat → Int32} {f : Nat → Nat → Int32}
set_option maxRecDepth 100000 in
set_option maxHeartbeats 2000000 in
theorem c_X7_nextAlike (hI : cw_I K nn dn q w e) (hs : cw_S v f) {o0 : Nat} (ho0 : cw_ro K o0) (x1 : Int32)  : pm_Mt l g 43 1 0 0 [.ref (q o0), .int x1] (cw A0 g K nn dn q w e v f) (md_Qp (cw A0 g K nn dn q w e v f) (fun r => True)) := by
  refine mt_X7_nextAlike rfl (fun J hC => ?_)
  have ro_nn : cw_ro K nn := hI.2.1.2.1
  have ro_dn : cw_ro K dn := hI.2.1.2.2.1
  have hu1 := hI.2.1
  unfold cw_W at hu1
  have rg_x1 := pm_rng x1
  have zz0 := cw_sz hI ho0
  refine hC.1 0 0 _ _ rfl _ _ _ _ _ ?_
  refine And.intro (Exists.intro _ (cw_ro_o hI.1 ho0)) (Exists.intro _ (Exists.intro _ (Exists.intro _ (Exists.intro _ (And.intro (c_X7_has hI hs ho0 x1 ) (And.intro rfl (fun r9 A9 h9 => ?_)))))))
  rcases h9 with ⟨y2, rfl, rfl, ⟨rfl, by2⟩ | ⟨rfl, by2⟩⟩
  · skip
    have k1 : (1 : Int32).toInt = 1 := rfl
    refine And.intro (fun _ => ?_) (fun c9 => absurd c9 (by decide))
    refine hC.1 1 10 _ _ rfl _ _ _ _ _ ?_
    intro m4 em_12
    try have e4 : m4.toInt = (x1).toInt + (1) := by rw [em_12]; exact pm_addc _ _ (1) rfl (by omega) (by omega)
    have lp6 : ∀ (n : Nat) (z2_14 : Int32), (0 ≤ z2_14.toInt ∧ z2_14.toInt ≤ 160) → 200 - z2_14.toInt < (n : Int) → J 14 [some (.ref (q o0)), some (.int x1), some (.int z2_14)] [] (cw A0 g K nn dn q w e v f) 0 0 := by
      intro n
      induction n with
      | zero =>
        intro z2_14 j0_14 j1_14
        omega
      | succ n ih7 =>
        intro z2_14 j0_14 j1_14
        refine hC.1 2 14 _ _ rfl _ _ _ _ _ ?_
        refine Exists.intro _ (And.intro (cw_ro_o hI.1 ho0) ?_)
        have z8 := cw_sz hI ho0
        refine And.intro (fun c9 => ?_) (fun c9 => ?_)
        · skip
          refine hC.1 4 45 _ _ rfl _ _ _ _ _ ?_
          have km1 : (-1 : Int32).toInt = -1 := rfl
          exact ⟨rfl, fun e9 => absurd e9 (by decide), rfl, (-1 : Int32), rfl, rfl, by exact True.intro⟩
        · skip
          refine Exists.intro _ (And.intro (cw_ro_o hI.1 ho0) ?_)
          refine Exists.intro _ (Exists.intro _ (And.intro (Or.inl (cw_ro_1 hI.1 ho0)) (And.intro (by omega) ?_)))
          have w10 := cw_col hI ho0 (z2_14).toInt.toNat
          refine Exists.intro _ (And.intro (cw_ro_o hI.1 ho0) ?_)
          refine Exists.intro _ (Exists.intro _ (And.intro (Or.inl (cw_ro_1 hI.1 ho0)) (And.intro (by omega) ?_)))
          have w11 := cw_col hI ho0 (x1).toInt.toNat
          refine And.intro (fun c12 => ?_) (fun c12 => ?_)
          · skip
            have dc12 := pm_neI c12
            refine hC.1 3 39 _ _ rfl _ _ _ _ _ ?_
            intro m13 em_39
            try have e13 : m13.toInt = (z2_14).toInt + (1) := by rw [em_39]; exact pm_addc _ _ (1) rfl (by omega) (by omega)
            exact ih7 m13 (by omega) (by omega)
          · skip
            have dc12 : ((e (o0 + 1) (z2_14).toInt.toNat)).toInt = ((e (o0 + 1) (x1).toInt.toNat) : Int32).toInt := congrArg Int32.toInt c12
            exact ⟨rfl, fun e9 => absurd e9 (by decide), rfl, z2_14, rfl, rfl, by exact True.intro⟩
    exact lp6 (200 - m4.toInt).toNat.succ m4 (by omega) (by omega)
  · skip
    have k0 : (0 : Int32).toInt = 0 := rfl
    refine And.intro (fun c9 => absurd c9 (by decide)) (fun _ => ?_)
    have km1 : (-1 : Int32).toInt = -1 := rfl
    exact ⟨rfl, fun e9 => absurd e9 (by decide), rfl, (-1 : Int32), rfl, rfl, by exact True.intro⟩

set_option maxRecDepth 100000 in
set_option maxHeartbeats 2000000 in
theorem c_X7_howMany (hI : cw_I K nn dn q w e) (hs : cw_S v f) {o0 : Nat} (ho0 : cw_ro K o0) (x1 : Int32)  : pm_Mt l g 48 0 0 0 [.ref (q o0), .int x1] (cw A0 g K nn dn q w e v f) (md_Qp (cw A0 g K nn dn q w e v f) (fun r => True)) := by
  refine mt_X7_howMany rfl (fun J hC => ?_)
  have ro_nn : cw_ro K nn := hI.2.1.2.1
  have ro_dn : cw_ro K dn := hI.2.1.2.2.1
  have hu1 := hI.2.1
  unfold cw_W at hu1
  have rg_x1 := pm_rng x1
  have zz0 := cw_sz hI ho0
  refine hC.1 0 0 _ _ rfl _ _ _ _ _ ?_
  have k0 : (0 : Int32).toInt = 0 := rfl
  have lp3 : ∀ (n : Nat) (z2_4 : Int32) (z3_4 : Int32), (0 ≤ z3_4.toInt ∧ z3_4.toInt ≤ 160) → 200 - z3_4.toInt < (n : Int) → J 4 [some (.ref (q o0)), some (.int x1), some (.int z2_4), some (.int z3_4)] [] (cw A0 g K nn dn q w e v f) 0 0 := by
    intro n
    induction n with
    | zero =>
      intro z2_4 z3_4 j0_4 j1_4
      omega
    | succ n ih4 =>
      intro z2_4 z3_4 j0_4 j1_4
      refine hC.1 1 4 _ _ rfl _ _ _ _ _ ?_
      refine Exists.intro _ (And.intro (cw_ro_o hI.1 ho0) ?_)
      have z5 := cw_sz hI ho0
      refine And.intro (fun c6 => ?_) (fun c6 => ?_)
      · skip
        refine hC.1 3 31 _ _ rfl _ _ _ _ _ ?_
        exact ⟨rfl, fun e9 => absurd e9 (by decide), rfl, z2_4, rfl, rfl, by exact True.intro⟩
      · skip
        refine Exists.intro _ (And.intro (cw_ro_o hI.1 ho0) ?_)
        refine Exists.intro _ (Exists.intro _ (And.intro (Or.inl (cw_ro_1 hI.1 ho0)) (And.intro (by omega) ?_)))
        have w7 := cw_col hI ho0 (z3_4).toInt.toNat
        refine And.intro (fun c8 => ?_) (fun c8 => ?_)
        · skip
          have dc8 := pm_neI c8
          refine hC.1 2 25 _ _ rfl _ _ _ _ _ ?_
          have k1 : (1 : Int32).toInt = 1 := rfl
          intro m9 em_25
          try have e9 : m9.toInt = (z3_4).toInt + (1) := by rw [em_25]; exact pm_addc _ _ (1) rfl (by omega) (by omega)
          exact ih4 z2_4 m9 (by omega) (by omega)
        · skip
          have dc8 : ((e (o0 + 1) (z3_4).toInt.toNat)).toInt = (x1 : Int32).toInt := congrArg Int32.toInt c8
          have k1 : (1 : Int32).toInt = 1 := rfl
          intro m10 em_22
          try have e10 : m10.toInt = (z2_4).toInt + (1) := by rw [em_22]; exact pm_addc _ _ (1) rfl (by omega) (by omega)
          refine hC.1 2 25 _ _ rfl _ _ _ _ _ ?_
          intro m11 em_25
          try have e11 : m11.toInt = (z3_4).toInt + (1) := by rw [em_25]; exact pm_addc _ _ (1) rfl (by omega) (by omega)
          exact ih4 m10 m11 (by omega) (by omega)
  exact lp3 (200 - (0 : Int32).toInt).toNat.succ (0 : Int32) (0 : Int32) (by omega) (by omega)

set_option maxRecDepth 100000 in
set_option maxHeartbeats 2000000 in
theorem c_X7_placeOfNth (hI : cw_I K nn dn q w e) (hs : cw_S v f) {o0 : Nat} (ho0 : cw_ro K o0) (x1 : Int32) (x2 : Int32)  : pm_Mt l g 49 0 0 0 [.ref (q o0), .int x1, .int x2] (cw A0 g K nn dn q w e v f) (md_Qp (cw A0 g K nn dn q w e v f) (fun r => True)) := by
  refine mt_X7_placeOfNth rfl (fun J hC => ?_)
  have ro_nn : cw_ro K nn := hI.2.1.2.1
  have ro_dn : cw_ro K dn := hI.2.1.2.2.1
  have hu1 := hI.2.1
  unfold cw_W at hu1
  have rg_x1 := pm_rng x1
  have rg_x2 := pm_rng x2
  have zz0 := cw_sz hI ho0
  refine hC.1 0 0 _ _ rfl _ _ _ _ _ ?_
  have k0 : (0 : Int32).toInt = 0 := rfl
  have lp3 : ∀ (n : Nat) (z3_5 : Int32) (z4_5 : Int32), (0 ≤ z4_5.toInt ∧ z4_5.toInt ≤ 160) → 200 - z4_5.toInt < (n : Int) → J 5 [some (.ref (q o0)), some (.int x1), some (.int x2), some (.int z3_5), some (.int z4_5)] [] (cw A0 g K nn dn q w e v f) 0 0 := by
    intro n
    induction n with
    | zero =>
      intro z3_5 z4_5 j0_5 j1_5
      omega
    | succ n ih4 =>
      intro z3_5 z4_5 j0_5 j1_5
      refine hC.1 1 5 _ _ rfl _ _ _ _ _ ?_
      refine Exists.intro _ (And.intro (cw_ro_o hI.1 ho0) ?_)
      have z5 := cw_sz hI ho0
      refine And.intro (fun c6 => ?_) (fun c6 => ?_)
      · skip
        refine hC.1 4 42 _ _ rfl _ _ _ _ _ ?_
        have km1 : (-1 : Int32).toInt = -1 := rfl
        exact ⟨rfl, fun e9 => absurd e9 (by decide), rfl, (-1 : Int32), rfl, rfl, by exact True.intro⟩
      · skip
        refine Exists.intro _ (And.intro (cw_ro_o hI.1 ho0) ?_)
        refine Exists.intro _ (Exists.intro _ (And.intro (Or.inl (cw_ro_1 hI.1 ho0)) (And.intro (by omega) ?_)))
        have w7 := cw_col hI ho0 (z4_5).toInt.toNat
        refine And.intro (fun c8 => ?_) (fun c8 => ?_)
        · skip
          have dc8 := pm_neI c8
          refine hC.1 3 36 _ _ rfl _ _ _ _ _ ?_
          have k1 : (1 : Int32).toInt = 1 := rfl
          intro m9 em_36
          try have e9 : m9.toInt = (z4_5).toInt + (1) := by rw [em_36]; exact pm_addc _ _ (1) rfl (by omega) (by omega)
          exact ih4 z3_5 m9 (by omega) (by omega)
        · skip
          have dc8 : ((e (o0 + 1) (z4_5).toInt.toNat)).toInt = (x1 : Int32).toInt := congrArg Int32.toInt c8
          refine And.intro (fun c10 => ?_) (fun c10 => ?_)
          · skip
            have dc10 := pm_neI c10
            refine hC.1 2 33 _ _ rfl _ _ _ _ _ ?_
            have k1 : (1 : Int32).toInt = 1 := rfl
            intro m11 em_33
            try have e11 : m11.toInt = (z3_5).toInt + (1) := by rw [em_33]; exact pm_addc _ _ (1) rfl (by omega) (by omega)
            refine hC.1 3 36 _ _ rfl _ _ _ _ _ ?_
            intro m12 em_36
            try have e12 : m12.toInt = (z4_5).toInt + (1) := by rw [em_36]; exact pm_addc _ _ (1) rfl (by omega) (by omega)
            exact ih4 m11 m12 (by omega) (by omega)
          · skip
            have dc10 : (z3_5).toInt = (x2 : Int32).toInt := congrArg Int32.toInt c10
            exact ⟨rfl, fun e9 => absurd e9 (by decide), rfl, z4_5, rfl, rfl, by exact True.intro⟩
  exact lp3 (200 - (0 : Int32).toInt).toNat.succ (0 : Int32) (0 : Int32) (by omega) (by omega)

set_option maxRecDepth 100000 in
set_option maxHeartbeats 2000000 in
theorem c_X7_widestGap (hI : cw_I K nn dn q w e) (hs : cw_S v f) {o0 : Nat} (ho0 : cw_ro K o0) (x1 : Int32)  : pm_Mt l g 50 1 0 0 [.ref (q o0), .int x1] (cw A0 g K nn dn q w e v f) (md_Qp (cw A0 g K nn dn q w e v f) (fun r => True)) := by
  refine mt_X7_widestGap rfl (fun J hC => ?_)
  have ro_nn : cw_ro K nn := hI.2.1.2.1
  have ro_dn : cw_ro K dn := hI.2.1.2.2.1
  have hu1 := hI.2.1
  unfold cw_W at hu1
  have rg_x1 := pm_rng x1
  have zz0 := cw_sz hI ho0
  refine hC.1 0 0 _ _ rfl _ _ _ _ _ ?_
  have km1 : (-1 : Int32).toInt = -1 := rfl
  have k0 : (0 : Int32).toInt = 0 := rfl
  have lp3 : ∀ (n : Nat) (z2_4 : Int32) (z3_4 : Int32), (0 ≤ z3_4.toInt ∧ z3_4.toInt ≤ 160) → 200 - z3_4.toInt < (n : Int) → J 4 [some (.ref (q o0)), some (.int x1), some (.int z2_4), some (.int z3_4)] [] (cw A0 g K nn dn q w e v f) 0 0 := by
    intro n
    induction n with
    | zero =>
      intro z2_4 z3_4 j0_4 j1_4
      omega
    | succ n ih4 =>
      intro z2_4 z3_4 j0_4 j1_4
      refine hC.1 1 4 _ _ rfl _ _ _ _ _ ?_
      refine Exists.intro _ (And.intro (cw_ro_o hI.1 ho0) ?_)
      have z5 := cw_sz hI ho0
      refine And.intro (fun c6 => ?_) (fun c6 => ?_)
      · skip
        refine hC.1 3 53 _ _ rfl _ _ _ _ _ ?_
        exact ⟨rfl, fun e9 => absurd e9 (by decide), rfl, z2_4, rfl, rfl, by exact True.intro⟩
      · skip
        refine Exists.intro _ (And.intro (cw_ro_o hI.1 ho0) ?_)
        refine Exists.intro _ (Exists.intro _ (And.intro (Or.inl (cw_ro_1 hI.1 ho0)) (And.intro (by omega) ?_)))
        have w7 := cw_col hI ho0 (z3_4).toInt.toNat
        refine And.intro (fun c8 => ?_) (fun c8 => ?_)
        · skip
          have dc8 := pm_neI c8
          refine hC.1 2 47 _ _ rfl _ _ _ _ _ ?_
          have k1 : (1 : Int32).toInt = 1 := rfl
          intro m9 em_47
          try have e9 : m9.toInt = (z3_4).toInt + (1) := by rw [em_47]; exact pm_addc _ _ (1) rfl (by omega) (by omega)
          exact ih4 z2_4 m9 (by omega) (by omega)
        · skip
          have dc8 : ((e (o0 + 1) (z3_4).toInt.toNat)).toInt = (x1 : Int32).toInt := congrArg Int32.toInt c8
          refine Exists.intro _ (And.intro (cw_ro_o hI.1 ho0) ?_)
          refine Exists.intro _ (Exists.intro _ (And.intro (Or.inl (cw_ro_3 hI.1 ho0)) (And.intro (by omega) ?_)))
          have w10 := cw_ahd hI ho0 (z3_4).toInt.toNat
          refine And.intro (fun c11 => ?_) (fun c11 => ?_)
          · skip
            have dc11 : ((e (o0 + 3) (z3_4).toInt.toNat)).toInt = ((-1 : Int32) : Int32).toInt := congrArg Int32.toInt c11
            refine hC.1 2 47 _ _ rfl _ _ _ _ _ ?_
            have k1 : (1 : Int32).toInt = 1 := rfl
            intro m12 em_47
            try have e12 : m12.toInt = (z3_4).toInt + (1) := by rw [em_47]; exact pm_addc _ _ (1) rfl (by omega) (by omega)
            exact ih4 z2_4 m12 (by omega) (by omega)
          · skip
            have dc11 := pm_neI c11
            refine Exists.intro _ (And.intro (cw_ro_o hI.1 ho0) ?_)
            refine Exists.intro _ (Exists.intro _ (And.intro (Or.inl (cw_ro_3 hI.1 ho0)) (And.intro (by omega) ?_)))
            have w13 := cw_ahd hI ho0 (z3_4).toInt.toNat
            intro m14 em_40
            try have e14 : m14.toInt = (z3_4).toInt - ((e (o0 + 3) (z3_4).toInt.toNat)).toInt := by rw [em_40]; exact pm_sub _ _ (by omega) (by omega)
            have k1 : (1 : Int32).toInt = 1 := rfl
            intro m15 em_42
            try have e15 : m15.toInt = (m14).toInt - (1) := by rw [em_42]; exact pm_subc _ _ (1) rfl (by omega) (by omega)
            refine Exists.intro _ (Exists.intro _ (Exists.intro _ (Exists.intro _ (And.intro (c_J9_max_7cf53 (cw A0 g K nn dn q w e v f) z2_4 m15 ) (And.intro rfl (fun r9 A9 h9 => ?_))))))
            obtain ⟨y16, rfl, rfl, by16⟩ := h9
            refine hC.1 2 47 _ _ rfl _ _ _ _ _ ?_
            intro m18 em_47
            try have e18 : m18.toInt = (z3_4).toInt + (1) := by rw [em_47]; exact pm_addc _ _ (1) rfl (by omega) (by omega)
            exact ih4 y16 m18 (by omega) (by omega)
  exact lp3 (200 - (0 : Int32).toInt).toNat.succ (-1 : Int32) (0 : Int32) (by omega) (by omega)

set_option maxRecDepth 100000 in
set_option maxHeartbeats 2000000 in
theorem c_X9_behind (hI : cw_I K nn dn q w e) (hs : cw_S v f) (x1 : Int32)  : pm_Mt l g 149 0 0 0 [.ref (q 1), .int x1] (cw A0 g K nn dn q w e v f) (fun r A9 => A9 = (cw A0 g K nn dn q w e v f) ∧ (r = some .null ∨ ∃ o9, r = some (.ref (q o9)) ∧ cw_ro K o9)) := by
  refine mt_X9_behind rfl (fun J hC => ?_)
  have ro_nn : cw_ro K nn := hI.2.1.2.1
  have ro_dn : cw_ro K dn := hI.2.1.2.2.1
  have hu1 := hI.2.1
  unfold cw_W at hu1
  have rg_x1 := pm_rng x1
  refine hC.1 0 0 _ _ rfl _ _ _ _ _ ?_
  refine And.intro (fun c2 => ?_) (fun c2 => ?_)
  · skip
    refine hC.1 1 27 _ _ rfl _ _ _ _ _ ?_
    have k0 : (0 : Int32).toInt = 0 := rfl
    refine hC.1 2 28 _ _ rfl _ _ _ _ _ ?_
    refine And.intro (fun _ => ?_) (fun c9 => absurd c9 (by decide))
    refine hC.1 3 45 _ _ rfl _ _ _ _ _ ?_
    refine hC.1 4 46 _ _ rfl _ _ _ _ _ ?_
    exact ⟨rfl, rfl, rfl, Or.inl rfl⟩
  · skip
    refine Exists.intro _ (And.intro (cw_o1 hI.1) ?_)
    refine And.intro (fun c3 => ?_) (fun c3 => ?_)
    · skip
      refine hC.1 1 27 _ _ rfl _ _ _ _ _ ?_
      have k0 : (0 : Int32).toInt = 0 := rfl
      refine hC.1 2 28 _ _ rfl _ _ _ _ _ ?_
      refine And.intro (fun _ => ?_) (fun c9 => absurd c9 (by decide))
      refine hC.1 3 45 _ _ rfl _ _ _ _ _ ?_
      refine hC.1 4 46 _ _ rfl _ _ _ _ _ ?_
      exact ⟨rfl, rfl, rfl, Or.inl rfl⟩
    · skip
      refine Exists.intro _ (And.intro (cw_o1 hI.1) ?_)
      have k40 : (40 : Int32).toInt = 40 := rfl
      intro m4 em_19
      try have e4 : m4.toInt = ((w 0)).toInt - (40) := by rw [em_19]; exact pm_subc _ _ (40) rfl (by omega) (by omega)
      refine And.intro (fun c5 => ?_) (fun c5 => ?_)
      · skip
        refine hC.1 1 27 _ _ rfl _ _ _ _ _ ?_
        have k0 : (0 : Int32).toInt = 0 := rfl
        refine hC.1 2 28 _ _ rfl _ _ _ _ _ ?_
        refine And.intro (fun _ => ?_) (fun c9 => absurd c9 (by decide))
        refine hC.1 3 45 _ _ rfl _ _ _ _ _ ?_
        refine hC.1 4 46 _ _ rfl _ _ _ _ _ ?_
        exact ⟨rfl, rfl, rfl, Or.inl rfl⟩
      · skip
        have k1 : (1 : Int32).toInt = 1 := rfl
        refine hC.1 2 28 _ _ rfl _ _ _ _ _ ?_
        refine And.intro (fun c9 => absurd c9 (by decide)) (fun _ => ?_)
        refine Exists.intro _ (And.intro (cw_o1 hI.1) ?_)
        have k41 : (41 : Int32).toInt = 41 := rfl
        refine And.intro (by decide) ?_
        intro m6 em_40
        try have e6 := pm_rem x1 (41 : Int32) (by omega) (by omega)
        try rw [← em_40] at e6
        refine Exists.intro _ (Exists.intro _ (And.intro (Or.inl (cw_rows hI.1)) (And.intro (by omega) ?_)))
        rcases cw_rr_c (K := K) q (m6).toInt.toNat with hr7 | ⟨o7, hr7, ho7⟩
        · skip
          rw [hr7]
          refine hC.1 4 46 _ _ rfl _ _ _ _ _ ?_
          exact ⟨rfl, rfl, rfl, Or.inl rfl⟩
        · skip
          rw [hr7]
          refine hC.1 4 46 _ _ rfl _ _ _ _ _ ?_
          exact ⟨rfl, rfl, rfl, Or.inr ⟨o7, rfl, ho7⟩⟩

set_option maxRecDepth 100000 in
set_option maxHeartbeats 2000000 in
theorem c_X9_hasRoomFor (hI : cw_I K nn dn q w e) (hs : cw_S v f) (x1 : Int32) (p0 : -1000000 ≤ x1.toInt ∧ x1.toInt ≤ 1000000) : pm_Mt l g 27 0 0 0 [.ref (q 1), .int x1] (cw A0 g K nn dn q w e v f) (md_Qp (cw A0 g K nn dn q w e v f) (fun r => (r = 1 ∧ ((w nn).toInt + x1.toInt ≤ 160 ∧ (w 1).toInt + x1.toInt ≤ 10000)) ∨ (r = 0 ∧ (¬ ((w nn).toInt + x1.toInt ≤ 160 ∧ (w 1).toInt + x1.toInt ≤ 10000))))) := by
  refine mt_X9_hasRoomFor rfl (fun J hC => ?_)
  have ro_nn : cw_ro K nn := hI.2.1.2.1
  have ro_dn : cw_ro K dn := hI.2.1.2.2.1
  have hu1 := hI.2.1
  unfold cw_W at hu1
  have rg_x1 := pm_rng x1
  refine hC.1 0 0 _ _ rfl _ _ _ _ _ ?_
  refine Exists.intro _ (And.intro (cw_o1 hI.1) ?_)
  refine Exists.intro _ (And.intro (cw_ro_o hI.1 ro_nn) ?_)
  have z2 := cw_sz hI ro_nn
  intro m3 em_8
  try have e3 : m3.toInt = ((w nn)).toInt + (x1).toInt := by rw [em_8]; exact pm_add _ _ (by omega) (by omega)
  have k160 : (160 : Int32).toInt = 160 := rfl
  refine And.intro (fun c4 => ?_) (fun c4 => ?_)
  · skip
    refine hC.1 1 31 _ _ rfl _ _ _ _ _ ?_
    have k0 : (0 : Int32).toInt = 0 := rfl
    refine hC.1 2 32 _ _ rfl _ _ _ _ _ ?_
    exact ⟨rfl, fun _ => (by decide), rfl, (0 : Int32), rfl, rfl, Or.inr ⟨rfl, by first | omega | (dsimp only; omega) | trivial⟩⟩
  · skip
    refine Exists.intro _ (And.intro (cw_o1 hI.1) ?_)
    intro m5 em_20
    try have e5 : m5.toInt = ((w 1)).toInt + (x1).toInt := by rw [em_20]; exact pm_add _ _ (by omega) (by omega)
    have k10000 : (10000 : Int32).toInt = 10000 := rfl
    refine And.intro (fun c6 => ?_) (fun c6 => ?_)
    · skip
      refine hC.1 1 31 _ _ rfl _ _ _ _ _ ?_
      have k0 : (0 : Int32).toInt = 0 := rfl
      refine hC.1 2 32 _ _ rfl _ _ _ _ _ ?_
      exact ⟨rfl, fun _ => (by decide), rfl, (0 : Int32), rfl, rfl, Or.inr ⟨rfl, by first | omega | (dsimp only; omega) | trivial⟩⟩
    · skip
      have k1 : (1 : Int32).toInt = 1 := rfl
      refine hC.1 2 32 _ _ rfl _ _ _ _ _ ?_
      exact ⟨rfl, fun _ => (by decide), rfl, (1 : Int32), rfl, rfl, Or.inl ⟨rfl, by first | omega | (dsimp only; omega) | trivial⟩⟩

set_option maxRecDepth 100000 in
set_option maxHeartbeats 2000000 in
theorem c_X9_steadySince (hI : cw_I K nn dn q w e) (hs : cw_S v f) (x1 : Int32)  : pm_Mt l g 153 3 0 0 [.ref (q 1), .int x1] (cw A0 g K nn dn q w e v f) (md_Qp (cw A0 g K nn dn q w e v f) (fun r => True)) := by
  refine mt_X9_steadySince rfl (fun J hC => ?_)
  have ro_nn : cw_ro K nn := hI.2.1.2.1
  have ro_dn : cw_ro K dn := hI.2.1.2.2.1
  have hu1 := hI.2.1
  unfold cw_W at hu1
  have rg_x1 := pm_rng x1
  refine hC.1 0 0 _ _ rfl _ _ _ _ _ ?_
  refine Exists.intro _ (And.intro (cw_o1 hI.1) ?_)
  refine And.intro (Exists.intro _ (cw_ro_o hI.1 ro_nn)) (Exists.intro _ (Exists.intro _ (Exists.intro _ (Exists.intro _ (And.intro (c_X7_placeOf hI hs ro_nn x1 ) (And.intro rfl (fun r9 A9 h9 => ?_)))))))
  obtain ⟨y2, rfl, rfl, by2⟩ := h9
  have km1 : (-1 : Int32).toInt = -1 := rfl
  refine And.intro (fun c4 => ?_) (fun c4 => ?_)
  · skip
    have dc4 := pm_neI c4
    refine hC.1 1 16 _ _ rfl _ _ _ _ _ ?_
    refine Exists.intro _ (And.intro (cw_o1 hI.1) ?_)
    refine And.intro (Exists.intro _ (cw_ro_o hI.1 ro_nn)) (Exists.intro _ (Exists.intro _ (Exists.intro _ (Exists.intro _ (And.intro (c_X7_bondAt hI hs ro_nn y2 ) (And.intro rfl (fun r9 A9 h9 => ?_)))))))
    obtain ⟨y5, rfl, rfl, by5⟩ := h9
    refine Exists.intro _ (And.intro (cw_o1 hI.1) ?_)
    have k1 : (1 : Int32).toInt = 1 := rfl
    intro m7 em_30
    try have e7 : m7.toInt = ((w 0)).toInt - (1) := by rw [em_30]; exact pm_subc _ _ (1) rfl (by omega) (by omega)
    have lp9 : ∀ (n : Nat) (z4_33 : Int32), (-1 ≤ z4_33.toInt ∧ z4_33.toInt ≤ (w 0).toInt) → z4_33.toInt + 1 < (n : Int) → J 33 [some (.ref (q 1)), some (.int x1), some (.int y2), some (.int y5), some (.int z4_33), none] [] (cw A0 g K nn dn q w e v f) 0 0 := by
      intro n
      induction n with
      | zero =>
        intro z4_33 j0_33 j1_33
        omega
      | succ n ih10 =>
        intro z4_33 j0_33 j1_33
        refine hC.1 2 33 _ _ rfl _ _ _ _ _ ?_
        refine And.intro (fun c11 => ?_) (fun c11 => ?_)
        · skip
          refine hC.1 5 86 _ _ rfl _ _ _ _ _ ?_
          have k0 : (0 : Int32).toInt = 0 := rfl
          exact ⟨rfl, fun e9 => absurd e9 (by decide), rfl, (0 : Int32), rfl, rfl, by exact True.intro⟩
        · skip
          refine And.intro (Exists.intro _ (cw_o1 hI.1)) (Exists.intro _ (Exists.intro _ (Exists.intro _ (Exists.intro _ (And.intro (c_X9_behind hI hs z4_33 ) (And.intro rfl (fun r9 A9 h9 => ?_)))))))
          rcases h9 with ⟨rfl, rfl | ⟨o13, rfl, ho13⟩⟩
          · skip
            refine hC.1 3 75 _ _ rfl _ _ _ _ _ ?_
            intro m14 em_78
            try have e14 : m14.toInt = (z4_33).toInt + (1) := by rw [em_78]; exact pm_addc _ _ (1) rfl (by omega) (by omega)
            exact ⟨rfl, fun e9 => absurd e9 (by decide), rfl, m14, rfl, rfl, by exact True.intro⟩
          · skip
            refine And.intro (Exists.intro _ (cw_ro_o hI.1 ho13)) (Exists.intro _ (Exists.intro _ (Exists.intro _ (Exists.intro _ (And.intro (c_X7_hasName hI hs ho13 x1 ) (And.intro rfl (fun r9 A9 h9 => ?_)))))))
            rcases h9 with ⟨y15, rfl, rfl, ⟨rfl, by15⟩ | ⟨rfl, by15⟩⟩
            · skip
              refine And.intro (fun c9 => absurd c9 (by decide)) (fun _ => ?_)
              refine And.intro (Exists.intro _ (cw_ro_o hI.1 ho13)) (Exists.intro _ (Exists.intro _ (Exists.intro _ (Exists.intro _ (And.intro (c_X7_placeOf hI hs ho13 x1 ) (And.intro rfl (fun r9 A9 h9 => ?_)))))))
              obtain ⟨y17, rfl, rfl, by17⟩ := h9
              refine And.intro (Exists.intro _ (cw_ro_o hI.1 ho13)) (Exists.intro _ (Exists.intro _ (Exists.intro _ (Exists.intro _ (And.intro (c_X7_bondAt hI hs ho13 y17 ) (And.intro rfl (fun r9 A9 h9 => ?_)))))))
              obtain ⟨y19, rfl, rfl, by19⟩ := h9
              refine And.intro (fun c21 => ?_) (fun c21 => ?_)
              · skip
                have dc21 : (y19).toInt = (y5 : Int32).toInt := congrArg Int32.toInt c21
                refine hC.1 4 80 _ _ rfl _ _ _ _ _ ?_
                intro m22 em_80
                try have e22 : m22.toInt = (z4_33).toInt + (-1) := by rw [em_80]; exact pm_addc _ _ (-1) rfl (by omega) (by omega)
                exact hC.2 [false, false, false, false, false, true] _ _ _ _ _ _ (ih10 m22 (by omega) (by omega))
              · skip
                have dc21 := pm_neI c21
                refine hC.1 3 75 _ _ rfl _ _ _ _ _ ?_
                intro m23 em_78
                try have e23 : m23.toInt = (z4_33).toInt + (1) := by rw [em_78]; exact pm_addc _ _ (1) rfl (by omega) (by omega)
                exact ⟨rfl, fun e9 => absurd e9 (by decide), rfl, m23, rfl, rfl, by exact True.intro⟩
            · skip
              have k0 : (0 : Int32).toInt = 0 := rfl
              refine And.intro (fun _ => ?_) (fun c9 => absurd c9 (by decide))
              refine hC.1 3 75 _ _ rfl _ _ _ _ _ ?_
              intro m24 em_78
              try have e24 : m24.toInt = (z4_33).toInt + (1) := by rw [em_78]; exact pm_addc _ _ (1) rfl (by omega) (by omega)
              exact ⟨rfl, fun e9 => absurd e9 (by decide), rfl, m24, rfl, rfl, by exact True.intro⟩
    exact lp9 (m7.toInt + 1).toNat.succ m7 (by omega) (by omega)
  · skip
    have dc4 : (y2).toInt = ((-1 : Int32) : Int32).toInt := congrArg Int32.toInt c4
    exact ⟨rfl, fun e9 => absurd e9 (by decide), rfl, (-1 : Int32), rfl, rfl, by exact True.intro⟩

set_option maxRecDepth 100000 in
set_option maxHeartbeats 2000000 in
theorem c_X9_isUnlike (hI : cw_I K nn dn q w e) (hs : cw_S v f) {o1 : Nat} (ho1 : cw_ro K o1) (x2 : Int32) (x3 : Int32) (x4 : Int32)  : pm_Mt l g 157 4 0 0 [.ref (q 1), .ref (q o1), .int x2, .int x3, .int x4] (cw A0 g K nn dn q w e v f) (md_Qp (cw A0 g K nn dn q w e v f) (fun r => (r = 1 ∧ (True)) ∨ (r = 0 ∧ (True)))) := by
  refine mt_X9_isUnlike rfl (fun J hC => ?_)
  have ro_nn : cw_ro K nn := hI.2.1.2.1
  have ro_dn : cw_ro K dn := hI.2.1.2.2.1
  have hu1 := hI.2.1
  unfold cw_W at hu1
  have rg_x2 := pm_rng x2
  have rg_x3 := pm_rng x3
  have rg_x4 := pm_rng x4
  refine hC.1 0 0 _ _ rfl _ _ _ _ _ ?_
  refine pm_swc 3 rfl (by decide) ?_ ?_
  · intro _
    refine hC.1 8 65 _ _ rfl _ _ _ _ _ ?_
    refine And.intro (Exists.intro _ (cw_ro_o hI.1 ho1)) (Exists.intro _ (Exists.intro _ (Exists.intro _ (Exists.intro _ (And.intro (c_X7_bondAt hI hs ho1 x2 ) (And.intro rfl (fun r9 A9 h9 => ?_)))))))
    obtain ⟨y4, rfl, rfl, by4⟩ := h9
    refine Exists.intro _ (And.intro (cw_o1 hI.1) ?_)
    refine And.intro (Exists.intro _ (cw_ro_o hI.1 ro_nn)) (Exists.intro _ (Exists.intro _ (Exists.intro _ (Exists.intro _ (And.intro (c_X7_bondAt hI hs ro_nn x3 ) (And.intro rfl (fun r9 A9 h9 => ?_)))))))
    obtain ⟨y6, rfl, rfl, by6⟩ := h9
    refine And.intro (fun c8 => ?_) (fun c8 => ?_)
    · skip
      have dc8 : (y4).toInt = (y6 : Int32).toInt := congrArg Int32.toInt c8
      refine hC.1 9 85 _ _ rfl _ _ _ _ _ ?_
      have k0 : (0 : Int32).toInt = 0 := rfl
      refine hC.1 10 86 _ _ rfl _ _ _ _ _ ?_
      exact ⟨rfl, fun _ => (by decide), rfl, (0 : Int32), rfl, rfl, Or.inr ⟨rfl, by first | omega | (dsimp only; omega) | trivial⟩⟩
    · skip
      have dc8 := pm_neI c8
      have k1 : (1 : Int32).toInt = 1 := rfl
      refine hC.1 10 86 _ _ rfl _ _ _ _ _ ?_
      exact ⟨rfl, fun _ => (by decide), rfl, (1 : Int32), rfl, rfl, Or.inl ⟨rfl, by first | omega | (dsimp only; omega) | trivial⟩⟩
  · intro i9 hi9 he9
    rcases (show i9 = 0 ∨ i9 = 1 ∨ i9 = 2 by omega) with rfl | rfl | rfl
    · skip
      refine hC.1 1 28 _ _ rfl _ _ _ _ _ ?_
      have k1 : (1 : Int32).toInt = 1 := rfl
      exact ⟨rfl, fun _ => (by decide), rfl, (1 : Int32), rfl, rfl, Or.inl ⟨rfl, by first | omega | (dsimp only; omega) | trivial⟩⟩
    · skip
      refine hC.1 2 30 _ _ rfl _ _ _ _ _ ?_
      refine And.intro (fun c9 => ?_) (fun c9 => ?_)
      · skip
        have dc9 : (x2).toInt = (x3 : Int32).toInt := congrArg Int32.toInt c9
        refine hC.1 3 39 _ _ rfl _ _ _ _ _ ?_
        have k0 : (0 : Int32).toInt = 0 := rfl
        refine hC.1 4 40 _ _ rfl _ _ _ _ _ ?_
        exact ⟨rfl, fun _ => (by decide), rfl, (0 : Int32), rfl, rfl, Or.inr ⟨rfl, by first | omega | (dsimp only; omega) | trivial⟩⟩
      · skip
        have dc9 := pm_neI c9
        have k1 : (1 : Int32).toInt = 1 := rfl
        refine hC.1 4 40 _ _ rfl _ _ _ _ _ ?_
        exact ⟨rfl, fun _ => (by decide), rfl, (1 : Int32), rfl, rfl, Or.inl ⟨rfl, by first | omega | (dsimp only; omega) | trivial⟩⟩
    · skip
      refine hC.1 5 41 _ _ rfl _ _ _ _ _ ?_
      have k0 : (0 : Int32).toInt = 0 := rfl
      refine And.intro (Exists.intro _ (cw_ro_o hI.1 ho1)) (Exists.intro _ (Exists.intro _ (Exists.intro _ (Exists.intro _ (And.intro (c_X7_tell hI hs ho1 x2 (0 : Int32) ) (And.intro rfl (fun r9 A9 h9 => ?_)))))))
      obtain ⟨y10, rfl, rfl, by10⟩ := h9
      refine Exists.intro _ (And.intro (cw_o1 hI.1) ?_)
      refine And.intro (Exists.intro _ (cw_ro_o hI.1 ro_nn)) (Exists.intro _ (Exists.intro _ (Exists.intro _ (Exists.intro _ (And.intro (c_X7_tell hI hs ro_nn x3 (0 : Int32) ) (And.intro rfl (fun r9 A9 h9 => ?_)))))))
      obtain ⟨y12, rfl, rfl, by12⟩ := h9
      refine And.intro (fun c14 => ?_) (fun c14 => ?_)
      · skip
        have dc14 : (y10).toInt = (y12 : Int32).toInt := congrArg Int32.toInt c14
        refine hC.1 6 63 _ _ rfl _ _ _ _ _ ?_
        refine hC.1 7 64 _ _ rfl _ _ _ _ _ ?_
        exact ⟨rfl, fun _ => (by decide), rfl, (0 : Int32), rfl, rfl, Or.inr ⟨rfl, by first | omega | (dsimp only; omega) | trivial⟩⟩
      · skip
        have dc14 := pm_neI c14
        have k1 : (1 : Int32).toInt = 1 := rfl
        refine hC.1 7 64 _ _ rfl _ _ _ _ _ ?_
        exact ⟨rfl, fun _ => (by decide), rfl, (1 : Int32), rfl, rfl, Or.inl ⟨rfl, by first | omega | (dsimp only; omega) | trivial⟩⟩

end
end
section
section
variable {l : Launch} {g : pm_G} {A0 : pm_H} {K nn dn : Nat} {q : Nat → Nat} {w : Nat → Int32} {e : Nat → Nat → Int32} {v : Nat → Int32} {f : Nat → Nat → Int32}
set_option maxRecDepth 100000 in
set_option maxHeartbeats 2000000 in
theorem c_X9_unlikeNow (hI : cw_I K nn dn q w e) (hs : cw_S v f) {o1 : Nat} (ho1 : cw_ro K o1) (x2 : Int32)  : pm_Mt l g 156 5 0 0 [.ref (q 1), .ref (q o1), .int x2] (cw A0 g K nn dn q w e v f) (md_Qp (cw A0 g K nn dn q w e v f) (fun r => True)) := by
  refine mt_X9_unlikeNow rfl (fun J hC => ?_)
  have ro_nn : cw_ro K nn := hI.2.1.2.1
  have ro_dn : cw_ro K dn := hI.2.1.2.2.1
  have hu1 := hI.2.1
  unfold cw_W at hu1
  have rg_x2 := pm_rng x2
  have zz0 := cw_sz hI ro_nn
  refine hC.1 0 0 _ _ rfl _ _ _ _ _ ?_
  have k0 : (0 : Int32).toInt = 0 := rfl
  have lp3 : ∀ (n : Nat) (z3_5 : Int32) (z4_5 : Int32), (0 ≤ z4_5.toInt ∧ z4_5.toInt ≤ 160) → 200 - z4_5.toInt < (n : Int) → J 5 [some (.ref (q 1)), some (.ref (q o1)), some (.int x2), some (.int z3_5), some (.int z4_5), none] [] (cw A0 g K nn dn q w e v f) 0 0 := by
    intro n
    induction n with
    | zero =>
      intro z3_5 z4_5 j0_5 j1_5
      omega
    | succ n ih4 =>
      intro z3_5 z4_5 j0_5 j1_5
      refine hC.1 1 5 _ _ rfl _ _ _ _ _ ?_
      refine Exists.intro _ (And.intro (cw_o1 hI.1) ?_)
      refine Exists.intro _ (And.intro (cw_ro_o hI.1 ro_nn) ?_)
      have z5 := cw_sz hI ro_nn
      refine And.intro (fun c6 => ?_) (fun c6 => ?_)
      · skip
        refine hC.1 3 61 _ _ rfl _ _ _ _ _ ?_
        exact ⟨rfl, fun e9 => absurd e9 (by decide), rfl, z3_5, rfl, rfl, by exact True.intro⟩
      · skip
        refine Exists.intro _ (And.intro (cw_o1 hI.1) ?_)
        refine Exists.intro _ (And.intro (cw_ro_o hI.1 ro_nn) ?_)
        refine Exists.intro _ (Exists.intro _ (And.intro (Or.inl (cw_ro_2 hI.1 ro_nn)) (And.intro (by omega) ?_)))
        refine And.intro (Exists.intro _ (cw_ro_o hI.1 ho1)) (Exists.intro _ (Exists.intro _ (Exists.intro _ (Exists.intro _ (And.intro (c_X7_placeOf hI hs ho1 (e (nn + 2) (z4_5).toInt.toNat) ) (And.intro rfl (fun r9 A9 h9 => ?_)))))))
        obtain ⟨y7, rfl, rfl, by7⟩ := h9
        have km1 : (-1 : Int32).toInt = -1 := rfl
        refine And.intro (fun c9 => ?_) (fun c9 => ?_)
        · skip
          have dc9 : (y7).toInt = ((-1 : Int32) : Int32).toInt := congrArg Int32.toInt c9
          refine hC.1 2 55 _ _ rfl _ _ _ _ _ ?_
          have k1 : (1 : Int32).toInt = 1 := rfl
          intro m10 em_55
          try have e10 : m10.toInt = (z4_5).toInt + (1) := by rw [em_55]; exact pm_addc _ _ (1) rfl (by omega) (by omega)
          exact hC.2 [false, false, false, false, false, true] _ _ _ _ _ _ (ih4 z3_5 m10 (by omega) (by omega))
        · skip
          have dc9 := pm_neI c9
          refine And.intro (Exists.intro _ (cw_o1 hI.1)) (Exists.intro _ (Exists.intro _ (Exists.intro _ (Exists.intro _ (And.intro (c_X9_isUnlike hI hs ho1 y7 z4_5 x2 ) (And.intro rfl (fun r9 A9 h9 => ?_)))))))
          rcases h9 with ⟨y11, rfl, rfl, ⟨rfl, by11⟩ | ⟨rfl, by11⟩⟩
          · skip
            have k1 : (1 : Int32).toInt = 1 := rfl
            refine And.intro (fun c9 => absurd c9 (by decide)) (fun _ => ?_)
            intro m13 em_52
            try have e13 : m13.toInt = (z3_5).toInt + (1) := by rw [em_52]; exact pm_addc _ _ (1) rfl (by omega) (by omega)
            refine hC.1 2 55 _ _ rfl _ _ _ _ _ ?_
            intro m14 em_55
            try have e14 : m14.toInt = (z4_5).toInt + (1) := by rw [em_55]; exact pm_addc _ _ (1) rfl (by omega) (by omega)
            exact hC.2 [false, false, false, false, false, true] _ _ _ _ _ _ (ih4 m13 m14 (by omega) (by omega))
          · skip
            refine And.intro (fun _ => ?_) (fun c9 => absurd c9 (by decide))
            refine hC.1 2 55 _ _ rfl _ _ _ _ _ ?_
            have k1 : (1 : Int32).toInt = 1 := rfl
            intro m15 em_55
            try have e15 : m15.toInt = (z4_5).toInt + (1) := by rw [em_55]; exact pm_addc _ _ (1) rfl (by omega) (by omega)
            exact hC.2 [false, false, false, false, false, true] _ _ _ _ _ _ (ih4 z3_5 m15 (by omega) (by omega))
  exact lp3 (200 - (0 : Int32).toInt).toNat.succ (0 : Int32) (0 : Int32) (by omega) (by omega)

set_option maxRecDepth 100000 in
set_option maxHeartbeats 2000000 in
theorem c_X2_clear (hI : cw_I K nn dn q w e) (hs : cw_S v f)   : pm_Mt l g 56 1 0 0 [.ref (q 2)] (cw A0 g K nn dn q w e v f) (cw_Qs A0 g K nn dn q w e (fun r v2 f2 => r = none ∧ (True))) := by
  refine mt_X2_clear rfl (fun J hC => ?_)
  have ro_nn : cw_ro K nn := hI.2.1.2.1
  have ro_dn : cw_ro K dn := hI.2.1.2.2.1
  have hu1 := hI.2.1
  unfold cw_W at hu1
  refine hC.1 0 0 _ _ rfl _ _ _ _ _ ?_
  refine Exists.intro _ (And.intro (cw_o2 hI.1) ?_)
  have k0 : (0 : Int32).toInt = 0 := rfl
  refine Exists.intro _ (Exists.intro _ (Exists.intro _ (Exists.intro _ (And.intro (c_fill (cw_a14 hI.1) (by decide) (0 : Int32)) (And.intro rfl (fun r9 A9 h9 => ?_))))))
  obtain ⟨rfl, rfl⟩ := h9
  rw [cw_s14 hI.1]
  obtain ⟨f2, ef2⟩ : ∃ z9, z9 = va_up f 14 (fun j => if j < 24 then (0 : Int32) else f 14 j) := ⟨_, rfl⟩
  rw [← ef2]
  have hs2 : cw_S v f2 := by rw [ef2]; exact cw_S_fr hs _ _ (by decide) (by decide)
  refine Exists.intro _ (And.intro (cw_o2 hI.1) (And.intro rfl ?_))
  rw [cw_p_length hI.1]
  obtain ⟨v3, ev3⟩ : ∃ z9, z9 = upd v 1 (0 : Int32) := ⟨_, rfl⟩
  rw [← ev3]
  have hs3 : cw_S v3 f2 := by rw [ev3]; exact cw_S_v hs2 1 _ (by decide)
  have ev3_0 : (v3 0).toInt = (v 0).toInt := by rw [ev3]; rfl
  refine Exists.intro _ (And.intro (cw_o2 hI.1) (And.intro rfl ?_))
  rw [cw_p_kinds hI.1]
  obtain ⟨v4, ev4⟩ : ∃ z9, z9 = upd v3 2 (0 : Int32) := ⟨_, rfl⟩
  rw [← ev4]
  have hs4 : cw_S v4 f2 := by rw [ev4]; exact cw_S_v hs3 2 _ (by decide)
  have ev4_0 : (v4 0).toInt = (v3 0).toInt := by rw [ev4]; rfl
  refine Exists.intro _ (And.intro (cw_o2 hI.1) (And.intro rfl ?_))
  rw [cw_p_bits hI.1]
  obtain ⟨v5, ev5⟩ : ∃ z9, z9 = upd v4 3 (0 : Int32) := ⟨_, rfl⟩
  rw [← ev5]
  have hs5 : cw_S v5 f2 := by rw [ev5]; exact cw_S_v hs4 3 _ (by decide)
  have ev5_0 : (v5 0).toInt = (v4 0).toInt := by rw [ev5]; rfl
  refine Exists.intro _ (And.intro (cw_o2 hI.1) (And.intro rfl ?_))
  rw [cw_p_mass hI.1]
  obtain ⟨v6, ev6⟩ : ∃ z9, z9 = upd v5 4 (0 : Int32) := ⟨_, rfl⟩
  rw [← ev6]
  have hs6 : cw_S v6 f2 := by rw [ev6]; exact cw_S_v hs5 4 _ (by decide)
  have ev6_0 : (v6 0).toInt = (v5 0).toInt := by rw [ev6]; rfl
  exact ⟨rfl, rfl, v6, f2, rfl, hs6, rfl, by exact True.intro⟩

set_option maxRecDepth 100000 in
set_option maxHeartbeats 2000000 in
theorem c_X2_take (hI : cw_I K nn dn q w e) (hs : cw_S v f) (x1 : Int32) (p0 : 0 ≤ x1.toInt ∧ x1.toInt ≤ 23) : pm_Mt l g 57 0 0 0 [.ref (q 2), .int x1] (cw A0 g K nn dn q w e v f) (cw_Qs A0 g K nn dn q w e (fun r v2 f2 => r = none ∧ (True))) := by
  refine mt_X2_take rfl (fun J hC => ?_)
  have ro_nn : cw_ro K nn := hI.2.1.2.1
  have ro_dn : cw_ro K dn := hI.2.1.2.2.1
  have hu1 := hI.2.1
  unfold cw_W at hu1
  have rg_x1 := pm_rng x1
  refine hC.1 0 0 _ _ rfl _ _ _ _ _ ?_
  refine Exists.intro _ (And.intro (cw_o2 hI.1) ?_)
  have k1 : (1 : Int32).toInt = 1 := rfl
  intro m2 em_6
  try have e2 : m2.toInt = ((v 1)).toInt + (1) := by rw [em_6]; exact pm_addc _ _ (1) rfl (by omega) (by omega)
  refine Exists.intro _ (And.intro (cw_o2 hI.1) (And.intro rfl ?_))
  rw [cw_p_length hI.1]
  obtain ⟨v3, ev3⟩ : ∃ z9, z9 = upd v 1 m2 := ⟨_, rfl⟩
  rw [← ev3]
  have hs3 : cw_S v3 f := by rw [ev3]; exact cw_S_v hs 1 _ (by decide)
  have ev3_0 : (v3 0).toInt = (v 0).toInt := by rw [ev3]; rfl
  refine Exists.intro _ (And.intro (cw_o2 hI.1) ?_)
  refine Exists.intro _ (Exists.intro _ (And.intro (Or.inl (cw_a14 hI.1)) (And.intro (by omega) ?_)))
  intro m4 em_18
  try have e4 : m4.toInt = ((f 14 (x1).toInt.toNat)).toInt + (1) := by rw [em_18]; exact pm_addc _ _ (1) rfl (by omega) (by omega)
  refine Exists.intro _ (Exists.intro _ (And.intro (cw_a14 hI.1) (And.intro (by omega) ?_)))
  rw [cw_s14 hI.1]
  obtain ⟨f5, ef5⟩ : ∃ z9, z9 = va_up f 14 (upd (f 14) (x1).toInt.toNat m4) := ⟨_, rfl⟩
  rw [← ef5]
  have hs5 : cw_S v3 f5 := by rw [ef5]; exact cw_S_fr hs3 _ _ (by decide) (by decide)
  refine Exists.intro _ (And.intro (cw_o2 hI.1) ?_)
  refine Exists.intro _ (Exists.intro _ (And.intro (Or.inl (cw_a14 hI.1)) (And.intro (by omega) ?_)))
  refine And.intro (fun c6 => ?_) (fun c6 => ?_)
  · skip
    have dc6 := pm_neI c6
    refine hC.1 1 67 _ _ rfl _ _ _ _ _ ?_
    exact ⟨rfl, rfl, v3, f5, rfl, hs5, rfl, by exact True.intro⟩
  · skip
    have dc6 : ((f5 14 (x1).toInt.toNat)).toInt = ((1 : Int32) : Int32).toInt := congrArg Int32.toInt c6
    refine Exists.intro _ (And.intro (cw_o2 hI.1) ?_)
    intro m7 em_36
    try have e7 : m7.toInt = ((v3 2)).toInt + (1) := by rw [em_36]; exact pm_addc _ _ (1) rfl (by omega) (by omega)
    refine Exists.intro _ (And.intro (cw_o2 hI.1) (And.intro rfl ?_))
    rw [cw_p_kinds hI.1]
    obtain ⟨v8, ev8⟩ : ∃ z9, z9 = upd v3 2 m7 := ⟨_, rfl⟩
    rw [← ev8]
    have hs8 : cw_S v8 f5 := by rw [ev8]; exact cw_S_v hs5 2 _ (by decide)
    have ev8_0 : (v8 0).toInt = (v3 0).toInt := by rw [ev8]; rfl
    refine Exists.intro _ (And.intro (cw_o2 hI.1) ?_)
    refine Exists.intro _ (And.intro (cw_o2 hI.1) (And.intro rfl ?_))
    rw [cw_p_bits hI.1]
    obtain ⟨v9, ev9⟩ : ∃ z9, z9 = upd v8 3 ((v8 3) ||| ((1 : Int32) <<< (x1 &&& 31))) := ⟨_, rfl⟩
    rw [← ev9]
    have hs9 : cw_S v9 f5 := by rw [ev9]; exact cw_S_v hs8 3 _ (by decide)
    have ev9_0 : (v9 0).toInt = (v8 0).toInt := by rw [ev9]; rfl
    refine Exists.intro _ (And.intro (cw_o2 hI.1) ?_)
    refine Exists.intro _ (And.intro (cw_o2 hI.1) ?_)
    refine Exists.intro _ (Exists.intro _ (And.intro (Or.inl (cw_a15 hI.1)) (And.intro (by omega) ?_)))
    intro m10 em_63
    try have e10 : m10.toInt = ((v9 4)).toInt + ((e 15 (x1).toInt.toNat)).toInt := by rw [em_63]; exact pm_add _ _ (by omega) (by omega)
    refine Exists.intro _ (And.intro (cw_o2 hI.1) (And.intro rfl ?_))
    rw [cw_p_mass hI.1]
    obtain ⟨v11, ev11⟩ : ∃ z9, z9 = upd v9 4 m10 := ⟨_, rfl⟩
    rw [← ev11]
    have hs11 : cw_S v11 f5 := by rw [ev11]; exact cw_S_v hs9 4 _ (by decide)
    have ev11_0 : (v11 0).toInt = (v9 0).toInt := by rw [ev11]; rfl
    refine hC.1 1 67 _ _ rfl _ _ _ _ _ ?_
    exact ⟨rfl, rfl, v11, f5, rfl, hs11, rfl, by exact True.intro⟩

set_option maxRecDepth 100000 in
set_option maxHeartbeats 2000000 in
theorem c_X2_drop (hI : cw_I K nn dn q w e) (hs : cw_S v f) (x1 : Int32) (p0 : 0 ≤ x1.toInt ∧ x1.toInt ≤ 23) : pm_Mt l g 113 0 0 0 [.ref (q 2), .int x1] (cw A0 g K nn dn q w e v f) (cw_Qs A0 g K nn dn q w e (fun r v2 f2 => r = none ∧ (True))) := by
  refine mt_X2_drop rfl (fun J hC => ?_)
  have ro_nn : cw_ro K nn := hI.2.1.2.1
  have ro_dn : cw_ro K dn := hI.2.1.2.2.1
  have hu1 := hI.2.1
  unfold cw_W at hu1
  have rg_x1 := pm_rng x1
  refine hC.1 0 0 _ _ rfl _ _ _ _ _ ?_
  refine Exists.intro _ (And.intro (cw_o2 hI.1) ?_)
  have k1 : (1 : Int32).toInt = 1 := rfl
  intro m2 em_6
  try have e2 : m2.toInt = ((v 1)).toInt - (1) := by rw [em_6]; exact pm_subc _ _ (1) rfl (by omega) (by omega)
  refine Exists.intro _ (And.intro (cw_o2 hI.1) (And.intro rfl ?_))
  rw [cw_p_length hI.1]
  obtain ⟨v3, ev3⟩ : ∃ z9, z9 = upd v 1 m2 := ⟨_, rfl⟩
  rw [← ev3]
  have hs3 : cw_S v3 f := by rw [ev3]; exact cw_S_v hs 1 _ (by decide)
  have ev3_0 : (v3 0).toInt = (v 0).toInt := by rw [ev3]; rfl
  refine Exists.intro _ (And.intro (cw_o2 hI.1) ?_)
  refine Exists.intro _ (Exists.intro _ (And.intro (Or.inl (cw_a14 hI.1)) (And.intro (by omega) ?_)))
  intro m4 em_18
  try have e4 : m4.toInt = ((f 14 (x1).toInt.toNat)).toInt - (1) := by rw [em_18]; exact pm_subc _ _ (1) rfl (by omega) (by omega)
  refine Exists.intro _ (Exists.intro _ (And.intro (cw_a14 hI.1) (And.intro (by omega) ?_)))
  rw [cw_s14 hI.1]
  obtain ⟨f5, ef5⟩ : ∃ z9, z9 = va_up f 14 (upd (f 14) (x1).toInt.toNat m4) := ⟨_, rfl⟩
  rw [← ef5]
  have hs5 : cw_S v3 f5 := by rw [ef5]; exact cw_S_fr hs3 _ _ (by decide) (by decide)
  refine Exists.intro _ (And.intro (cw_o2 hI.1) ?_)
  refine Exists.intro _ (Exists.intro _ (And.intro (Or.inl (cw_a14 hI.1)) (And.intro (by omega) ?_)))
  refine And.intro (fun c6 => ?_) (fun c6 => ?_)
  · skip
    have dc6 := pm_neI c6
    have k0 : (0 : Int32).toInt = 0 := rfl
    refine hC.1 1 68 _ _ rfl _ _ _ _ _ ?_
    exact ⟨rfl, rfl, v3, f5, rfl, hs5, rfl, by exact True.intro⟩
  · skip
    have dc6 : ((f5 14 (x1).toInt.toNat)).toInt = (0 : Int32).toInt := congrArg Int32.toInt c6
    have k0 : (0 : Int32).toInt = 0 := rfl
    refine Exists.intro _ (And.intro (cw_o2 hI.1) ?_)
    intro m7 em_35
    try have e7 : m7.toInt = ((v3 2)).toInt - (1) := by rw [em_35]; exact pm_subc _ _ (1) rfl (by omega) (by omega)
    refine Exists.intro _ (And.intro (cw_o2 hI.1) (And.intro rfl ?_))
    rw [cw_p_kinds hI.1]
    obtain ⟨v8, ev8⟩ : ∃ z9, z9 = upd v3 2 m7 := ⟨_, rfl⟩
    rw [← ev8]
    have hs8 : cw_S v8 f5 := by rw [ev8]; exact cw_S_v hs5 2 _ (by decide)
    have ev8_0 : (v8 0).toInt = (v3 0).toInt := by rw [ev8]; rfl
    refine Exists.intro _ (And.intro (cw_o2 hI.1) ?_)
    have km1 : (-1 : Int32).toInt = -1 := rfl
    refine Exists.intro _ (And.intro (cw_o2 hI.1) (And.intro rfl ?_))
    rw [cw_p_bits hI.1]
    obtain ⟨v9, ev9⟩ : ∃ z9, z9 = upd v8 3 ((v8 3) &&& (((1 : Int32) <<< (x1 &&& 31)) ^^^ (-1 : Int32))) := ⟨_, rfl⟩
    rw [← ev9]
    have hs9 : cw_S v9 f5 := by rw [ev9]; exact cw_S_v hs8 3 _ (by decide)
    have ev9_0 : (v9 0).toInt = (v8 0).toInt := by rw [ev9]; rfl
    refine Exists.intro _ (And.intro (cw_o2 hI.1) ?_)
    refine Exists.intro _ (And.intro (cw_o2 hI.1) ?_)
    refine Exists.intro _ (Exists.intro _ (And.intro (Or.inl (cw_a15 hI.1)) (And.intro (by omega) ?_)))
    intro m10 em_64
    try have e10 : m10.toInt = ((v9 4)).toInt - ((e 15 (x1).toInt.toNat)).toInt := by rw [em_64]; exact pm_sub _ _ (by omega) (by omega)
    refine Exists.intro _ (And.intro (cw_o2 hI.1) (And.intro rfl ?_))
    rw [cw_p_mass hI.1]
    obtain ⟨v11, ev11⟩ : ∃ z9, z9 = upd v9 4 m10 := ⟨_, rfl⟩
    rw [← ev11]
    have hs11 : cw_S v11 f5 := by rw [ev11]; exact cw_S_v hs9 4 _ (by decide)
    have ev11_0 : (v11 0).toInt = (v9 0).toInt := by rw [ev11]; rfl
    refine hC.1 1 68 _ _ rfl _ _ _ _ _ ?_
    exact ⟨rfl, rfl, v11, f5, rfl, hs11, rfl, by exact True.intro⟩

set_option maxRecDepth 100000 in
set_option maxHeartbeats 2000000 in
theorem c_X2_read (hI : cw_I K nn dn q w e) (hs : cw_S v f) {o1 : Nat} (ho1 : cw_ro K o1) (x2 : Int32) (x3 : Int32)  : pm_Mt l g 55 2 0 0 [.ref (q 2), .ref (q o1), .int x2, .int x3] (cw A0 g K nn dn q w e v f) (cw_Qs A0 g K nn dn q w e (fun r v2 f2 => r = none ∧ (True))) := by
  refine mt_X2_read rfl (fun J hC => ?_)
  have ro_nn : cw_ro K nn := hI.2.1.2.1
  have ro_dn : cw_ro K dn := hI.2.1.2.2.1
  have hu1 := hI.2.1
  unfold cw_W at hu1
  have rg_x2 := pm_rng x2
  have rg_x3 := pm_rng x3
  have zz0 := cw_sz hI ho1
  refine hC.1 0 0 _ _ rfl _ _ _ _ _ ?_
  refine And.intro (Exists.intro _ (cw_o2 hI.1)) (Exists.intro _ (Exists.intro _ (Exists.intro _ (Exists.intro _ (And.intro (c_X2_clear hI hs  ) (And.intro rfl (fun r9 A9 h9 => ?_)))))))
  rcases h9 with ⟨v3, f3, rfl, hs3, rfl, by2⟩
  have lp5 : ∀ (n : Nat) (z4_7 : Int32) (v4 : Nat → Int32) (f4 : Nat → Nat → Int32), cw_S v4 f4 → ((200 - z4_7.toInt).toNat : Int) < (n : Int) → J 7 [some (.ref (q 2)), some (.ref (q o1)), some (.int x2), some (.int x3), some (.int z4_7)] [] (cw A0 g K nn dn q w e v4 f4) 0 0 := by
    intro n
    induction n with
    | zero =>
      intro z4_7 v4 f4 hs4 j0_7
      omega
    | succ n ih6 =>
      intro z4_7 v4 f4 hs4 j0_7
      refine hC.1 1 7 _ _ rfl _ _ _ _ _ ?_
      refine And.intro (fun c7 => ?_) (fun c7 => ?_)
      · skip
        refine hC.1 2 39 _ _ rfl _ _ _ _ _ ?_
        exact ⟨rfl, rfl, v4, f4, rfl, hs4, rfl, by exact True.intro⟩
      · skip
        refine And.intro (Exists.intro _ (cw_ro_o hI.1 ho1)) (Exists.intro _ (Exists.intro _ (Exists.intro _ (Exists.intro _ (And.intro (c_X7_has hI hs4 ho1 z4_7 ) (And.intro rfl (fun r9 A9 h9 => ?_)))))))
        rcases h9 with ⟨y8, rfl, rfl, ⟨rfl, by8⟩ | ⟨rfl, by8⟩⟩
        · skip
          have k1 : (1 : Int32).toInt = 1 := rfl
          refine And.intro (fun c9 => absurd c9 (by decide)) (fun _ => ?_)
          refine Exists.intro _ (And.intro (cw_ro_o hI.1 ho1) ?_)
          refine Exists.intro _ (Exists.intro _ (And.intro (Or.inl (cw_ro_1 hI.1 ho1)) (And.intro (by omega) ?_)))
          have w10 := cw_col hI ho1 (z4_7).toInt.toNat
          refine And.intro (Exists.intro _ (cw_o2 hI.1)) (Exists.intro _ (Exists.intro _ (Exists.intro _ (Exists.intro _ (And.intro (c_X2_take hI hs4 (e (o1 + 1) (z4_7).toInt.toNat) (by omega)) (And.intro rfl (fun r9 A9 h9 => ?_)))))))
          rcases h9 with ⟨v12, f12, rfl, hs12, rfl, by11⟩
          intro m13 em_33
          try have e13 : m13.toInt = (z4_7).toInt + (1) := by rw [em_33]; exact pm_addc _ _ (1) rfl (by omega) (by omega)
          exact ih6 m13 v12 f12 hs12 (by omega)
        · skip
          have k0 : (0 : Int32).toInt = 0 := rfl
          refine And.intro (fun _ => ?_) (fun c9 => absurd c9 (by decide))
          refine hC.1 2 39 _ _ rfl _ _ _ _ _ ?_
          exact ⟨rfl, rfl, v4, f4, rfl, hs4, rfl, by exact True.intro⟩
  exact lp5 (((200 - x2.toInt).toNat : Int)).toNat.succ x2 v3 f3 hs3 (by omega)

set_option maxRecDepth 100000 in
set_option maxHeartbeats 2000000 in
theorem c_X2_kindsFrom (hI : cw_I K nn dn q w e) (hs : cw_S v f) (x1 : Int32)  : pm_Mt l g 64 0 0 0 [.ref (q 2), .int x1] (cw A0 g K nn dn q w e v f) (md_Qp (cw A0 g K nn dn q w e v f) (fun r => True)) := by
  refine mt_X2_kindsFrom rfl (fun J hC => ?_)
  have ro_nn : cw_ro K nn := hI.2.1.2.1
  have ro_dn : cw_ro K dn := hI.2.1.2.2.1
  have hu1 := hI.2.1
  unfold cw_W at hu1
  have rg_x1 := pm_rng x1
  refine hC.1 0 0 _ _ rfl _ _ _ _ _ ?_
  have k0 : (0 : Int32).toInt = 0 := rfl
  have lp3 : ∀ (n : Nat) (z2_4 : Int32) (z3_4 : Int32), (0 ≤ z3_4.toInt ∧ z3_4.toInt ≤ 24) → 200 - z3_4.toInt < (n : Int) → J 4 [some (.ref (q 2)), some (.int x1), some (.int z2_4), some (.int z3_4)] [] (cw A0 g K nn dn q w e v f) 0 0 := by
    intro n
    induction n with
    | zero =>
      intro z2_4 z3_4 j0_4 j1_4
      omega
    | succ n ih4 =>
      intro z2_4 z3_4 j0_4 j1_4
      refine hC.1 1 4 _ _ rfl _ _ _ _ _ ?_
      have k24 : (24 : Int32).toInt = 24 := rfl
      refine And.intro (fun c5 => ?_) (fun c5 => ?_)
      · skip
        refine hC.1 3 29 _ _ rfl _ _ _ _ _ ?_
        exact ⟨rfl, fun e9 => absurd e9 (by decide), rfl, z2_4, rfl, rfl, by exact True.intro⟩
      · skip
        refine Exists.intro _ (And.intro (cw_o2 hI.1) ?_)
        refine Exists.intro _ (Exists.intro _ (And.intro (Or.inl (cw_a14 hI.1)) (And.intro (by omega) ?_)))
        refine And.intro (fun c6 => ?_) (fun c6 => ?_)
        · skip
          refine hC.1 2 23 _ _ rfl _ _ _ _ _ ?_
          have k1 : (1 : Int32).toInt = 1 := rfl
          intro m7 em_23
          try have e7 : m7.toInt = (z3_4).toInt + (1) := by rw [em_23]; exact pm_addc _ _ (1) rfl (by omega) (by omega)
          exact ih4 z2_4 m7 (by omega) (by omega)
        · skip
          have k1 : (1 : Int32).toInt = 1 := rfl
          intro m8 em_20
          try have e8 : m8.toInt = (z2_4).toInt + (1) := by rw [em_20]; exact pm_addc _ _ (1) rfl (by omega) (by omega)
          refine hC.1 2 23 _ _ rfl _ _ _ _ _ ?_
          intro m9 em_23
          try have e9 : m9.toInt = (z3_4).toInt + (1) := by rw [em_23]; exact pm_addc _ _ (1) rfl (by omega) (by omega)
          exact ih4 m8 m9 (by omega) (by omega)
  exact lp3 (200 - (0 : Int32).toInt).toNat.succ (0 : Int32) (0 : Int32) (by omega) (by omega)

set_option maxRecDepth 100000 in
set_option maxHeartbeats 2000000 in
theorem c_X2_kindsOfJust (hI : cw_I K nn dn q w e) (hs : cw_S v f) (x1 : Int32)  : pm_Mt l g 77 0 0 0 [.ref (q 2), .int x1] (cw A0 g K nn dn q w e v f) (md_Qp (cw A0 g K nn dn q w e v f) (fun r => True)) := by
  refine mt_X2_kindsOfJust rfl (fun J hC => ?_)
  have ro_nn : cw_ro K nn := hI.2.1.2.1
  have ro_dn : cw_ro K dn := hI.2.1.2.2.1
  have hu1 := hI.2.1
  unfold cw_W at hu1
  have rg_x1 := pm_rng x1
  refine hC.1 0 0 _ _ rfl _ _ _ _ _ ?_
  have k0 : (0 : Int32).toInt = 0 := rfl
  have lp3 : ∀ (n : Nat) (z2_4 : Int32) (z3_4 : Int32), (0 ≤ z3_4.toInt ∧ z3_4.toInt ≤ 24) → 200 - z3_4.toInt < (n : Int) → J 4 [some (.ref (q 2)), some (.int x1), some (.int z2_4), some (.int z3_4)] [] (cw A0 g K nn dn q w e v f) 0 0 := by
    intro n
    induction n with
    | zero =>
      intro z2_4 z3_4 j0_4 j1_4
      omega
    | succ n ih4 =>
      intro z2_4 z3_4 j0_4 j1_4
      refine hC.1 1 4 _ _ rfl _ _ _ _ _ ?_
      have k24 : (24 : Int32).toInt = 24 := rfl
      refine And.intro (fun c5 => ?_) (fun c5 => ?_)
      · skip
        refine hC.1 3 29 _ _ rfl _ _ _ _ _ ?_
        exact ⟨rfl, fun e9 => absurd e9 (by decide), rfl, z2_4, rfl, rfl, by exact True.intro⟩
      · skip
        refine Exists.intro _ (And.intro (cw_o2 hI.1) ?_)
        refine Exists.intro _ (Exists.intro _ (And.intro (Or.inl (cw_a14 hI.1)) (And.intro (by omega) ?_)))
        refine And.intro (fun c6 => ?_) (fun c6 => ?_)
        · skip
          have dc6 := pm_neI c6
          refine hC.1 2 23 _ _ rfl _ _ _ _ _ ?_
          have k1 : (1 : Int32).toInt = 1 := rfl
          intro m7 em_23
          try have e7 : m7.toInt = (z3_4).toInt + (1) := by rw [em_23]; exact pm_addc _ _ (1) rfl (by omega) (by omega)
          exact ih4 z2_4 m7 (by omega) (by omega)
        · skip
          have dc6 : ((f 14 (z3_4).toInt.toNat)).toInt = (x1 : Int32).toInt := congrArg Int32.toInt c6
          have k1 : (1 : Int32).toInt = 1 := rfl
          intro m8 em_20
          try have e8 : m8.toInt = (z2_4).toInt + (1) := by rw [em_20]; exact pm_addc _ _ (1) rfl (by omega) (by omega)
          refine hC.1 2 23 _ _ rfl _ _ _ _ _ ?_
          intro m9 em_23
          try have e9 : m9.toInt = (z3_4).toInt + (1) := by rw [em_23]; exact pm_addc _ _ (1) rfl (by omega) (by omega)
          exact ih4 m8 m9 (by omega) (by omega)
  exact lp3 (200 - (0 : Int32).toInt).toNat.succ (0 : Int32) (0 : Int32) (by omega) (by omega)

set_option maxRecDepth 100000 in
set_option maxHeartbeats 2000000 in
theorem c_X2_largerThanPart (hI : cw_I K nn dn q w e) (hs : cw_S v f) (x1 : Int32)  : pm_Mt l g 79 0 0 0 [.ref (q 2), .int x1] (cw A0 g K nn dn q w e v f) (md_Qp (cw A0 g K nn dn q w e v f) (fun r => True)) := by
  refine mt_X2_largerThanPart rfl (fun J hC => ?_)
  have ro_nn : cw_ro K nn := hI.2.1.2.1
  have ro_dn : cw_ro K dn := hI.2.1.2.2.1
  have hu1 := hI.2.1
  unfold cw_W at hu1
  have rg_x1 := pm_rng x1
  refine hC.1 0 0 _ _ rfl _ _ _ _ _ ?_
  have k0 : (0 : Int32).toInt = 0 := rfl
  have lp3 : ∀ (n : Nat) (z2_4 : Int32) (z3_4 : Int32), (0 ≤ z3_4.toInt ∧ z3_4.toInt ≤ 24) → 200 - z3_4.toInt < (n : Int) → J 4 [some (.ref (q 2)), some (.int x1), some (.int z2_4), some (.int z3_4)] [] (cw A0 g K nn dn q w e v f) 0 0 := by
    intro n
    induction n with
    | zero =>
      intro z2_4 z3_4 j0_4 j1_4
      omega
    | succ n ih4 =>
      intro z2_4 z3_4 j0_4 j1_4
      refine hC.1 1 4 _ _ rfl _ _ _ _ _ ?_
      have k24 : (24 : Int32).toInt = 24 := rfl
      refine And.intro (fun c5 => ?_) (fun c5 => ?_)
      · skip
        refine hC.1 3 41 _ _ rfl _ _ _ _ _ ?_
        exact ⟨rfl, fun e9 => absurd e9 (by decide), rfl, z2_4, rfl, rfl, by exact True.intro⟩
      · skip
        refine Exists.intro _ (And.intro (cw_o2 hI.1) ?_)
        refine Exists.intro _ (Exists.intro _ (And.intro (Or.inl (cw_a14 hI.1)) (And.intro (by omega) ?_)))
        refine Exists.intro _ (And.intro (cw_o2 hI.1) ?_)
        refine And.intro (fun c6 => ?_) (fun c6 => ?_)
        · skip
          refine hC.1 2 35 _ _ rfl _ _ _ _ _ ?_
          have k1 : (1 : Int32).toInt = 1 := rfl
          intro m7 em_35
          try have e7 : m7.toInt = (z3_4).toInt + (1) := by rw [em_35]; exact pm_addc _ _ (1) rfl (by omega) (by omega)
          exact ih4 z2_4 m7 (by omega) (by omega)
        · skip
          have k1 : (1 : Int32).toInt = 1 := rfl
          refine hC.1 2 35 _ _ rfl _ _ _ _ _ ?_
          intro m8 em_35
          try have e8 : m8.toInt = (z3_4).toInt + (1) := by rw [em_35]; exact pm_addc _ _ (1) rfl (by omega) (by omega)
          exact ih4 (z2_4 ||| ((1 : Int32) <<< (z3_4 &&& 31))) m8 (by omega) (by omega)
  exact lp3 (200 - (0 : Int32).toInt).toNat.succ (0 : Int32) (0 : Int32) (by omega) (by omega)

set_option maxRecDepth 100000 in
set_option maxHeartbeats 2000000 in
theorem c_X2_twosAlike (hI : cw_I K nn dn q w e) (hs : cw_S v f)   : pm_Mt l g 95 0 0 0 [.ref (q 2)] (cw A0 g K nn dn q w e v f) (md_Qp (cw A0 g K nn dn q w e v f) (fun r => True)) := by
  refine mt_X2_twosAlike rfl (fun J hC => ?_)
  have ro_nn : cw_ro K nn := hI.2.1.2.1
  have ro_dn : cw_ro K dn := hI.2.1.2.2.1
  have hu1 := hI.2.1
  unfold cw_W at hu1
  refine hC.1 0 0 _ _ rfl _ _ _ _ _ ?_
  have k0 : (0 : Int32).toInt = 0 := rfl
  have lp3 : ∀ (n : Nat) (z1_4 : Int32) (z2_4 : Int32), (0 ≤ z2_4.toInt ∧ z2_4.toInt ≤ 24) → 200 - z2_4.toInt < (n : Int) → J 4 [some (.ref (q 2)), some (.int z1_4), some (.int z2_4)] [] (cw A0 g K nn dn q w e v f) 0 0 := by
    intro n
    induction n with
    | zero =>
      intro z1_4 z2_4 j0_4 j1_4
      omega
    | succ n ih4 =>
      intro z1_4 z2_4 j0_4 j1_4
      refine hC.1 1 4 _ _ rfl _ _ _ _ _ ?_
      have k24 : (24 : Int32).toInt = 24 := rfl
      refine And.intro (fun c5 => ?_) (fun c5 => ?_)
      · skip
        refine hC.1 2 36 _ _ rfl _ _ _ _ _ ?_
        exact ⟨rfl, fun e9 => absurd e9 (by decide), rfl, z1_4, rfl, rfl, by exact True.intro⟩
      · skip
        refine Exists.intro _ (And.intro (cw_o2 hI.1) ?_)
        refine Exists.intro _ (Exists.intro _ (And.intro (Or.inl (cw_a14 hI.1)) (And.intro (by omega) ?_)))
        refine Exists.intro _ (And.intro (cw_o2 hI.1) ?_)
        refine Exists.intro _ (Exists.intro _ (And.intro (Or.inl (cw_a14 hI.1)) (And.intro (by omega) ?_)))
        have k1 : (1 : Int32).toInt = 1 := rfl
        intro m6 em_24
        try have e6 : m6.toInt = ((f 14 (z2_4).toInt.toNat)).toInt - (1) := by rw [em_24]; exact pm_subc _ _ (1) rfl (by omega) (by omega)
        intro m7 em_25
        have k2 : (2 : Int32).toInt = 2 := rfl
        refine And.intro (by decide) ?_
        intro m8 em_27
        intro m9 em_28
        try have e9 : m9.toInt = (z1_4).toInt + (m8).toInt := by rw [em_28]; exact pm_add _ _ (by omega) (by omega)
        intro m10 em_30
        try have e10 : m10.toInt = (z2_4).toInt + (1) := by rw [em_30]; exact pm_addc _ _ (1) rfl (by omega) (by omega)
        exact ih4 m9 m10 (by omega) (by omega)
  exact lp3 (200 - (0 : Int32).toInt).toNat.succ (0 : Int32) (0 : Int32) (by omega) (by omega)

end
end
section
section
variable {l : Launch} {g : pm_G} {A0 : pm_H} {K nn dn : Nat} {q : Nat → Nat} {w : Nat → Int32} {e : Nat → Nat → Int32} {v : Nat → Int32} {f : Nat → Nat → Int32}
set_option maxRecDepth 100000 in
set_option maxHeartbeats 2000000 in
theorem c_X2_largestBeside (hI : cw_I K nn dn q w e) (hs : cw_S v f) (x1 : Int32)  : pm_Mt l g 92 0 0 0 [.ref (q 2), .int x1] (cw A0 g K nn dn q w e v f) (md_Qp (cw A0 g K nn dn q w e v f) (fun r => -1 ≤ r.toInt ∧ r.toInt ≤ 23)) := by
  refine mt_X2_largestBeside rfl (fun J hC => ?_)
  have ro_nn : cw_ro K nn := hI.2.1.2.1
  have ro_dn : cw_ro K dn := hI.2.1.2.2.1
  have hu1 := hI.2.1
  unfold cw_W at hu1
  have rg_x1 := pm_rng x1
  refine hC.1 0 0 _ _ rfl _ _ _ _ _ ?_
  have km1 : (-1 : Int32).toInt = -1 := rfl
  have k0 : (0 : Int32).toInt = 0 := rfl
  have lp3 : ∀ (n : Nat) (z2_4 : Int32) (z3_4 : Int32), (0 ≤ z3_4.toInt ∧ z3_4.toInt ≤ 24) → (-1 ≤ z2_4.toInt ∧ z2_4.toInt ≤ 23) → 200 - z3_4.toInt < (n : Int) → J 4 [some (.ref (q 2)), some (.int x1), some (.int z2_4), some (.int z3_4), none] [] (cw A0 g K nn dn q w e v f) 0 0 := by
    intro n
    induction n with
    | zero =>
      intro z2_4 z3_4 j0_4 j1_4 j2_4
      omega
    | succ n ih4 =>
      intro z2_4 z3_4 j0_4 j1_4 j2_4
      refine hC.1 1 4 _ _ rfl _ _ _ _ _ ?_
      have k24 : (24 : Int32).toInt = 24 := rfl
      refine And.intro (fun c5 => ?_) (fun c5 => ?_)
      · skip
        refine hC.1 6 58 _ _ rfl _ _ _ _ _ ?_
        exact ⟨rfl, fun e9 => absurd e9 (by decide), rfl, z2_4, rfl, rfl, by first | omega | (dsimp only; omega) | trivial⟩
      · skip
        have k1 : (1 : Int32).toInt = 1 := rfl
        refine And.intro (fun c6 => ?_) (fun c6 => ?_)
        · skip
          have dc6 := pm_neI c6
          refine hC.1 2 22 _ _ rfl _ _ _ _ _ ?_
          refine hC.1 3 23 _ _ rfl _ _ _ _ _ ?_
          refine And.intro (fun _ => ?_) (fun c9 => absurd c9 (by decide))
          refine hC.1 5 52 _ _ rfl _ _ _ _ _ ?_
          intro m7 em_52
          try have e7 : m7.toInt = (z3_4).toInt + (1) := by rw [em_52]; exact pm_addc _ _ (1) rfl (by omega) (by omega)
          exact hC.2 [false, false, false, false, true] _ _ _ _ _ _ (ih4 z2_4 m7 (by omega) (by omega) (by omega))
        · skip
          have dc6 : ((x1 &&& ((1 : Int32) <<< (z3_4 &&& 31)))).toInt = (0 : Int32).toInt := congrArg Int32.toInt c6
          refine hC.1 3 23 _ _ rfl _ _ _ _ _ ?_
          refine And.intro (fun c9 => absurd c9 (by decide)) (fun _ => ?_)
          refine And.intro (fun c8 => ?_) (fun c8 => ?_)
          · skip
            have dc8 : (z2_4).toInt = ((-1 : Int32) : Int32).toInt := congrArg Int32.toInt c8
            refine hC.1 4 50 _ _ rfl _ _ _ _ _ ?_
            refine hC.1 5 52 _ _ rfl _ _ _ _ _ ?_
            intro m9 em_52
            try have e9 : m9.toInt = (z3_4).toInt + (1) := by rw [em_52]; exact pm_addc _ _ (1) rfl (by omega) (by omega)
            exact hC.2 [false, false, false, false, true] _ _ _ _ _ _ (ih4 z3_4 m9 (by omega) (by omega) (by omega))
          · skip
            have dc8 := pm_neI c8
            refine Exists.intro _ (And.intro (cw_o2 hI.1) ?_)
            refine Exists.intro _ (Exists.intro _ (And.intro (Or.inl (cw_a14 hI.1)) (And.intro (by omega) ?_)))
            refine Exists.intro _ (And.intro (cw_o2 hI.1) ?_)
            refine Exists.intro _ (Exists.intro _ (And.intro (Or.inl (cw_a14 hI.1)) (And.intro (by omega) ?_)))
            refine And.intro (fun c10 => ?_) (fun c10 => ?_)
            · skip
              refine hC.1 5 52 _ _ rfl _ _ _ _ _ ?_
              intro m11 em_52
              try have e11 : m11.toInt = (z3_4).toInt + (1) := by rw [em_52]; exact pm_addc _ _ (1) rfl (by omega) (by omega)
              exact hC.2 [false, false, false, false, true] _ _ _ _ _ _ (ih4 z2_4 m11 (by omega) (by omega) (by omega))
            · skip
              refine hC.1 4 50 _ _ rfl _ _ _ _ _ ?_
              refine hC.1 5 52 _ _ rfl _ _ _ _ _ ?_
              intro m12 em_52
              try have e12 : m12.toInt = (z3_4).toInt + (1) := by rw [em_52]; exact pm_addc _ _ (1) rfl (by omega) (by omega)
              exact hC.2 [false, false, false, false, true] _ _ _ _ _ _ (ih4 z3_4 m12 (by omega) (by omega) (by omega))
  exact lp3 (200 - (0 : Int32).toInt).toNat.succ (-1 : Int32) (0 : Int32) (by omega) (by omega) (by omega)

set_option maxRecDepth 100000 in
set_option maxHeartbeats 2000000 in
theorem c_X2_placesOfLargest (hI : cw_I K nn dn q w e) (hs : cw_S v f) (x1 : Int32)  : pm_Mt l g 91 1 0 0 [.ref (q 2), .int x1] (cw A0 g K nn dn q w e v f) (md_Qp (cw A0 g K nn dn q w e v f) (fun r => True)) := by
  refine mt_X2_placesOfLargest rfl (fun J hC => ?_)
  have ro_nn : cw_ro K nn := hI.2.1.2.1
  have ro_dn : cw_ro K dn := hI.2.1.2.2.1
  have hu1 := hI.2.1
  unfold cw_W at hu1
  have rg_x1 := pm_rng x1
  refine hC.1 0 0 _ _ rfl _ _ _ _ _ ?_
  have k0 : (0 : Int32).toInt = 0 := rfl
  have lp3 : ∀ (n : Nat) (z2_7 : Int32) (z3_7 : Int32) (z4_7 : Int32), (0 ≤ z4_7.toInt ∧ z4_7.toInt ≤ 24) → 200 - z4_7.toInt < (n : Int) → J 7 [some (.ref (q 2)), some (.int x1), some (.int z2_7), some (.int z3_7), some (.int z4_7), none] [] (cw A0 g K nn dn q w e v f) 0 0 := by
    intro n
    induction n with
    | zero =>
      intro z2_7 z3_7 z4_7 j0_7 j1_7
      omega
    | succ n ih4 =>
      intro z2_7 z3_7 z4_7 j0_7 j1_7
      refine hC.1 1 7 _ _ rfl _ _ _ _ _ ?_
      refine And.intro (fun c5 => ?_) (fun c5 => ?_)
      · skip
        refine hC.1 3 58 _ _ rfl _ _ _ _ _ ?_
        exact ⟨rfl, fun e9 => absurd e9 (by decide), rfl, z3_7, rfl, rfl, by exact True.intro⟩
      · skip
        have k24 : (24 : Int32).toInt = 24 := rfl
        refine And.intro (fun c6 => ?_) (fun c6 => ?_)
        · skip
          refine hC.1 3 58 _ _ rfl _ _ _ _ _ ?_
          exact ⟨rfl, fun e9 => absurd e9 (by decide), rfl, z3_7, rfl, rfl, by exact True.intro⟩
        · skip
          refine And.intro (Exists.intro _ (cw_o2 hI.1)) (Exists.intro _ (Exists.intro _ (Exists.intro _ (Exists.intro _ (And.intro (c_X2_largestBeside hI hs z2_7 ) (And.intro rfl (fun r9 A9 h9 => ?_)))))))
          obtain ⟨y7, rfl, rfl, by7⟩ := h9
          have km1 : (-1 : Int32).toInt = -1 := rfl
          refine And.intro (fun c9 => ?_) (fun c9 => ?_)
          · skip
            have dc9 := pm_neI c9
            refine hC.1 2 35 _ _ rfl _ _ _ _ _ ?_
            have k1 : (1 : Int32).toInt = 1 := rfl
            refine Exists.intro _ (And.intro (cw_o2 hI.1) ?_)
            refine Exists.intro _ (Exists.intro _ (And.intro (Or.inl (cw_a14 hI.1)) (And.intro (by omega) ?_)))
            intro m10 em_50
            try have e10 : m10.toInt = (z3_7).toInt + ((f 14 (y7).toInt.toNat)).toInt := by rw [em_50]; exact pm_add _ _ (by omega) (by omega)
            intro m11 em_52
            try have e11 : m11.toInt = (z4_7).toInt + (1) := by rw [em_52]; exact pm_addc _ _ (1) rfl (by omega) (by omega)
            exact hC.2 [false, false, false, false, false, true] _ _ _ _ _ _ (ih4 (z2_7 ||| ((1 : Int32) <<< (y7 &&& 31))) m10 m11 (by omega) (by omega))
          · skip
            have dc9 : (y7).toInt = ((-1 : Int32) : Int32).toInt := congrArg Int32.toInt c9
            exact ⟨rfl, fun e9 => absurd e9 (by decide), rfl, z3_7, rfl, rfl, by exact True.intro⟩
  exact lp3 (200 - (0 : Int32).toInt).toNat.succ (0 : Int32) (0 : Int32) (0 : Int32) (by omega) (by omega)

end
end
section
section
variable {l : Launch} {g : pm_G} {A0 : pm_H} {K nn dn : Nat} {q : Nat → Nat} {w : Nat → Int32} {e : Nat → Nat → Int32} {v : Nat → Int32} {f : Nat → Nat → Int32}
set_option maxRecDepth 100000 in
set_option maxHeartbeats 2000000 in
theorem c_X0_reported (hI : cw_I K nn dn q w e) (hs : cw_S v f) {o1 : Nat} (ho1 : cw_ro K o1) (x2 : Int32) (x3 : Int32) (x4 : Int32) (p0 : 0 ≤ x2.toInt ∧ x2.toInt ≤ x3.toInt ∧ x3.toInt < (w o1).toInt) : pm_Mt l g 66 1 0 0 [.ref (q 3), .ref (q o1), .int x2, .int x3, .int x4] (cw A0 g K nn dn q w e v f) (cw_Qs A0 g K nn dn q w e (fun r v2 f2 => ∃ x : Int32, r = some (.int x) ∧ (True))) := by
  refine mt_X0_reported rfl (fun J hC => ?_)
  have ro_nn : cw_ro K nn := hI.2.1.2.1
  have ro_dn : cw_ro K dn := hI.2.1.2.2.1
  have hu1 := hI.2.1
  unfold cw_W at hu1
  have rg_x2 := pm_rng x2
  have rg_x3 := pm_rng x3
  have rg_x4 := pm_rng x4
  have zz0 := cw_sz hI ho1
  refine hC.1 0 0 _ _ rfl _ _ _ _ _ ?_
  refine Exists.intro _ (And.intro (cw_o3 hI.1) ?_)
  have km1 : (-1 : Int32).toInt = -1 := rfl
  refine Exists.intro _ (Exists.intro _ (Exists.intro _ (Exists.intro _ (And.intro (c_fill (cw_a17 hI.1) (by decide) (-1 : Int32)) (And.intro rfl (fun r9 A9 h9 => ?_))))))
  obtain ⟨rfl, rfl⟩ := h9
  rw [cw_s17 hI.1]
  obtain ⟨f2, ef2⟩ : ∃ z9, z9 = va_up f 17 (fun j => if j < 160 then (-1 : Int32) else f 17 j) := ⟨_, rfl⟩
  rw [← ef2]
  have hs2 : cw_S v f2 := by rw [ef2]; exact cw_S_fr hs _ _ (by decide) (by decide)
  have k0 : (0 : Int32).toInt = 0 := rfl
  have lp4 : ∀ (n : Nat) (z5_14 : Int32) (z6_14 : Int32) (v3 : Nat → Int32) (f3 : Nat → Nat → Int32), cw_S v3 f3 → (x2.toInt ≤ z6_14.toInt ∧ z6_14.toInt ≤ x3.toInt + 1) → 200 - z6_14.toInt < (n : Int) → J 14 [some (.ref (q 3)), some (.ref (q o1)), some (.int x2), some (.int x3), some (.int x4), some (.int z5_14), some (.int z6_14), none] [] (cw A0 g K nn dn q w e v3 f3) 0 0 := by
    intro n
    induction n with
    | zero =>
      intro z5_14 z6_14 v3 f3 hs3 j0_14 j1_14
      omega
    | succ n ih5 =>
      intro z5_14 z6_14 v3 f3 hs3 j0_14 j1_14
      refine hC.1 1 14 _ _ rfl _ _ _ _ _ ?_
      refine And.intro (fun c6 => ?_) (fun c6 => ?_)
      · skip
        refine hC.1 5 72 _ _ rfl _ _ _ _ _ ?_
        have lp8 : ∀ (n : Nat) (z5_75 : Int32) (z6_75 : Int32), (0 ≤ z6_75.toInt ∧ z6_75.toInt ≤ x2.toInt) → 200 - z6_75.toInt < (n : Int) → J 75 [some (.ref (q 3)), some (.ref (q o1)), some (.int x2), some (.int x3), some (.int x4), some (.int z5_75), some (.int z6_75), none] [] (cw A0 g K nn dn q w e v3 f3) 0 0 := by
          intro n
          induction n with
          | zero =>
            intro z5_75 z6_75 j0_75 j1_75
            omega
          | succ n ih9 =>
            intro z5_75 z6_75 j0_75 j1_75
            refine hC.1 6 75 _ _ rfl _ _ _ _ _ ?_
            refine And.intro (fun c10 => ?_) (fun c10 => ?_)
            · skip
              refine hC.1 9 116 _ _ rfl _ _ _ _ _ ?_
              exact ⟨rfl, fun e9 => absurd e9 (by decide), rfl, v3, f3, rfl, hs3, (-1 : Int32), rfl, by exact True.intro⟩
            · skip
              refine Exists.intro _ (And.intro (cw_o3 hI.1) ?_)
              refine Exists.intro _ (Exists.intro _ (And.intro (Or.inl (cw_a17 hI.1)) (And.intro (by omega) ?_)))
              refine And.intro (fun c11 => ?_) (fun c11 => ?_)
              · skip
                have dc11 : ((f3 17 (z6_75).toInt.toNat)).toInt = ((-1 : Int32) : Int32).toInt := congrArg Int32.toInt c11
                refine hC.1 8 110 _ _ rfl _ _ _ _ _ ?_
                have k1 : (1 : Int32).toInt = 1 := rfl
                intro m12 em_110
                try have e12 : m12.toInt = (z6_75).toInt + (1) := by rw [em_110]; exact pm_addc _ _ (1) rfl (by omega) (by omega)
                exact ih9 z5_75 m12 (by omega) (by omega)
              · skip
                have dc11 := pm_neI c11
                refine And.intro (fun c13 => ?_) (fun c13 => ?_)
                · skip
                  have dc13 := pm_neI c13
                  refine hC.1 7 107 _ _ rfl _ _ _ _ _ ?_
                  have k1 : (1 : Int32).toInt = 1 := rfl
                  intro m14 em_107
                  try have e14 : m14.toInt = (z5_75).toInt + (1) := by rw [em_107]; exact pm_addc _ _ (1) rfl (by omega) (by omega)
                  refine hC.1 8 110 _ _ rfl _ _ _ _ _ ?_
                  intro m15 em_110
                  try have e15 : m15.toInt = (z6_75).toInt + (1) := by rw [em_110]; exact pm_addc _ _ (1) rfl (by omega) (by omega)
                  exact ih9 m14 m15 (by omega) (by omega)
                · skip
                  have dc13 : (z5_75).toInt = (x4 : Int32).toInt := congrArg Int32.toInt c13
                  refine Exists.intro _ (And.intro (cw_o3 hI.1) ?_)
                  refine Exists.intro _ (Exists.intro _ (And.intro (Or.inl (cw_a17 hI.1)) (And.intro (by omega) ?_)))
                  exact ⟨rfl, fun e9 => absurd e9 (by decide), rfl, v3, f3, rfl, hs3, (f3 17 (z6_75).toInt.toNat), rfl, by exact True.intro⟩
        exact lp8 (200 - (0 : Int32).toInt).toNat.succ z5_14 (0 : Int32) (by omega) (by omega)
      · skip
        refine Exists.intro _ (And.intro (cw_ro_o hI.1 ho1) ?_)
        refine Exists.intro _ (Exists.intro _ (And.intro (Or.inl (cw_ro_3 hI.1 ho1)) (And.intro (by omega) ?_)))
        have w16 := cw_ahd hI ho1 (z6_14).toInt.toNat
        refine And.intro (fun c17 => ?_) (fun c17 => ?_)
        · skip
          have dc17 := pm_neI c17
          refine hC.1 3 51 _ _ rfl _ _ _ _ _ ?_
          refine And.intro (fun c18 => ?_) (fun c18 => ?_)
          · skip
            refine hC.1 4 66 _ _ rfl _ _ _ _ _ ?_
            have k1 : (1 : Int32).toInt = 1 := rfl
            intro m19 em_66
            try have e19 : m19.toInt = (z6_14).toInt + (1) := by rw [em_66]; exact pm_addc _ _ (1) rfl (by omega) (by omega)
            exact hC.2 [false, false, false, false, false, false, false, true] _ _ _ _ _ _ (ih5 z5_14 m19 v3 f3 hs3 (by omega) (by omega))
          · skip
            refine Exists.intro _ (And.intro (cw_o3 hI.1) ?_)
            refine Exists.intro _ (Exists.intro _ (And.intro (cw_a17 hI.1) (And.intro (by omega) ?_)))
            rw [cw_s17 hI.1]
            obtain ⟨f20, ef20⟩ : ∃ z9, z9 = va_up f3 17 (upd (f3 17) ((e (o1 + 3) (z6_14).toInt.toNat)).toInt.toNat z6_14) := ⟨_, rfl⟩
            rw [← ef20]
            have hs20 : cw_S v3 f20 := by rw [ef20]; exact cw_S_fr hs3 _ _ (by decide) (by decide)
            refine hC.1 4 66 _ _ rfl _ _ _ _ _ ?_
            have k1 : (1 : Int32).toInt = 1 := rfl
            intro m21 em_66
            try have e21 : m21.toInt = (z6_14).toInt + (1) := by rw [em_66]; exact pm_addc _ _ (1) rfl (by omega) (by omega)
            exact hC.2 [false, false, false, false, false, false, false, true] _ _ _ _ _ _ (ih5 z5_14 m21 v3 f20 hs20 (by omega) (by omega))
        · skip
          have dc17 : ((e (o1 + 3) (z6_14).toInt.toNat)).toInt = ((-1 : Int32) : Int32).toInt := congrArg Int32.toInt c17
          refine And.intro (fun c22 => ?_) (fun c22 => ?_)
          · skip
            have dc22 := pm_neI c22
            refine hC.1 2 45 _ _ rfl _ _ _ _ _ ?_
            have k1 : (1 : Int32).toInt = 1 := rfl
            intro m23 em_45
            try have e23 : m23.toInt = (z5_14).toInt + (1) := by rw [em_45]; exact pm_addc _ _ (1) rfl (by omega) (by omega)
            refine hC.1 4 66 _ _ rfl _ _ _ _ _ ?_
            intro m24 em_66
            try have e24 : m24.toInt = (z6_14).toInt + (1) := by rw [em_66]; exact pm_addc _ _ (1) rfl (by omega) (by omega)
            exact hC.2 [false, false, false, false, false, false, false, true] _ _ _ _ _ _ (ih5 m23 m24 v3 f3 hs3 (by omega) (by omega))
          · skip
            have dc22 : (z5_14).toInt = (x4 : Int32).toInt := congrArg Int32.toInt c22
            exact ⟨rfl, fun e9 => absurd e9 (by decide), rfl, v3, f3, rfl, hs3, z6_14, rfl, by exact True.intro⟩
  exact lp4 (200 - x2.toInt).toNat.succ (0 : Int32) x2 v f2 hs2 (by omega) (by omega)

set_option maxRecDepth 100000 in
set_option maxHeartbeats 2000000 in
theorem c_X0_colourOf (hI : cw_I K nn dn q w e) (hs : cw_S v f) (x1 : Int32) (x2 : Int32)  : pm_Mt l g 71 0 0 0 [.ref (q 3), .int x1, .int x2] (cw A0 g K nn dn q w e v f) (md_Qp (cw A0 g K nn dn q w e v f) (fun r => True)) := by
  refine mt_X0_colourOf rfl (fun J hC => ?_)
  have ro_nn : cw_ro K nn := hI.2.1.2.1
  have ro_dn : cw_ro K dn := hI.2.1.2.2.1
  have hu1 := hI.2.1
  unfold cw_W at hu1
  have rg_x1 := pm_rng x1
  have rg_x2 := pm_rng x2
  refine hC.1 0 0 _ _ rfl _ _ _ _ _ ?_
  have k0 : (0 : Int32).toInt = 0 := rfl
  have lp3 : ∀ (n : Nat) (z3_5 : Int32) (z4_5 : Int32), (0 ≤ z4_5.toInt ∧ z4_5.toInt ≤ 24) → 200 - z4_5.toInt < (n : Int) → J 5 [some (.ref (q 3)), some (.int x1), some (.int x2), some (.int z3_5), some (.int z4_5)] [] (cw A0 g K nn dn q w e v f) 0 0 := by
    intro n
    induction n with
    | zero =>
      intro z3_5 z4_5 j0_5 j1_5
      omega
    | succ n ih4 =>
      intro z3_5 z4_5 j0_5 j1_5
      refine hC.1 1 5 _ _ rfl _ _ _ _ _ ?_
      have k24 : (24 : Int32).toInt = 24 := rfl
      refine And.intro (fun c5 => ?_) (fun c5 => ?_)
      · skip
        refine hC.1 4 38 _ _ rfl _ _ _ _ _ ?_
        have km1 : (-1 : Int32).toInt = -1 := rfl
        exact ⟨rfl, fun e9 => absurd e9 (by decide), rfl, (-1 : Int32), rfl, rfl, by exact True.intro⟩
      · skip
        have k1 : (1 : Int32).toInt = 1 := rfl
        refine And.intro (fun c6 => ?_) (fun c6 => ?_)
        · skip
          have dc6 : ((x1 &&& ((1 : Int32) <<< (z4_5 &&& 31)))).toInt = (0 : Int32).toInt := congrArg Int32.toInt c6
          refine hC.1 3 32 _ _ rfl _ _ _ _ _ ?_
          intro m7 em_32
          try have e7 : m7.toInt = (z4_5).toInt + (1) := by rw [em_32]; exact pm_addc _ _ (1) rfl (by omega) (by omega)
          exact ih4 z3_5 m7 (by omega) (by omega)
        · skip
          have dc6 := pm_neI c6
          refine And.intro (fun c8 => ?_) (fun c8 => ?_)
          · skip
            have dc8 := pm_neI c8
            refine hC.1 2 29 _ _ rfl _ _ _ _ _ ?_
            intro m9 em_29
            try have e9 : m9.toInt = (z3_5).toInt + (1) := by rw [em_29]; exact pm_addc _ _ (1) rfl (by omega) (by omega)
            refine hC.1 3 32 _ _ rfl _ _ _ _ _ ?_
            intro m10 em_32
            try have e10 : m10.toInt = (z4_5).toInt + (1) := by rw [em_32]; exact pm_addc _ _ (1) rfl (by omega) (by omega)
            exact ih4 m9 m10 (by omega) (by omega)
          · skip
            have dc8 : (z3_5).toInt = (x2 : Int32).toInt := congrArg Int32.toInt c8
            exact ⟨rfl, fun e9 => absurd e9 (by decide), rfl, z4_5, rfl, rfl, by exact True.intro⟩
  exact lp3 (200 - (0 : Int32).toInt).toNat.succ (0 : Int32) (0 : Int32) (by omega) (by omega)

set_option maxRecDepth 100000 in
set_option maxHeartbeats 2000000 in
theorem c_X0_listAsMet__c1 (hI : cw_I K nn dn q w e) (hs : cw_S v f) {o1 : Nat} (ho1 : cw_ro K o1) (x2 : Int32) (x3 : Int32) (p0 : 0 ≤ x2.toInt ∧ x2.toInt ≤ x3.toInt ∧ x3.toInt < 160) : pm_Mt l g 69 1 0 0 [.ref (q 3), .ref (q o1), .int x2, .int x3, .int (1)] (cw A0 g K nn dn q w e v f) (cw_Qs A0 g K nn dn q w e (fun r v2 f2 => r = none ∧ (True))) := by
  refine mt_X0_listAsMet rfl (fun J hC => ?_)
  have ro_nn : cw_ro K nn := hI.2.1.2.1
  have ro_dn : cw_ro K dn := hI.2.1.2.2.1
  have hu1 := hI.2.1
  unfold cw_W at hu1
  have rg_x2 := pm_rng x2
  have rg_x3 := pm_rng x3
  have k1 : (1 : Int32).toInt = 1 := rfl
  have zz0 := cw_sz hI ho1
  refine hC.1 0 0 _ _ rfl _ _ _ _ _ ?_
  have k0 : (0 : Int32).toInt = 0 := rfl
  intro m2 em_5
  try have e2 : m2.toInt = (x3).toInt - (x2).toInt := by rw [em_5]; exact pm_sub _ _ (by omega) (by omega)
  refine Exists.intro _ (Exists.intro _ (Exists.intro _ (Exists.intro _ (And.intro (c_J9_abs_0f7a4 (cw A0 g K nn dn q w e v f) m2 ) (And.intro rfl (fun r9 A9 h9 => ?_))))))
  obtain ⟨y3, rfl, rfl, by3⟩ := h9
  refine Exists.intro _ (And.intro (cw_o3 hI.1) (And.intro rfl ?_))
  rw [cw_p_found hI.1]
  obtain ⟨v5, ev5⟩ : ∃ z9, z9 = upd v 0 (0 : Int32) := ⟨_, rfl⟩
  rw [← ev5]
  have hs5 : cw_S v5 f := by rw [ev5]; exact cw_S_v0 hs _ (by omega)
  have ev5_0 : (v5 0).toInt = ((0 : Int32)).toInt := by rw [ev5]; rfl
  have lp7 : ∀ (n : Nat) (z5_19 : Int32) (z7_19 : Int32) (v6 : Nat → Int32) (f6 : Nat → Nat → Int32), cw_S v6 f6 → (0 ≤ z7_19.toInt ∧ z7_19.toInt ≤ 160) → 200 - z7_19.toInt < (n : Int) → J 19 [some (.ref (q 3)), some (.ref (q o1)), some (.int x2), some (.int x3), some (.int (1 : Int32)), some (.int z5_19), some (.int y3), some (.int z7_19), none] [] (cw A0 g K nn dn q w e v6 f6) 0 0 := by
    intro n
    induction n with
    | zero =>
      intro z5_19 z7_19 v6 f6 hs6 j0_19 j1_19
      omega
    | succ n ih8 =>
      intro z5_19 z7_19 v6 f6 hs6 j0_19 j1_19
      refine hC.1 1 19 _ _ rfl _ _ _ _ _ ?_
      refine And.intro (fun c9 => ?_) (fun c9 => ?_)
      · skip
        refine hC.1 3 95 _ _ rfl _ _ _ _ _ ?_
        exact ⟨rfl, rfl, v6, f6, rfl, hs6, rfl, by exact True.intro⟩
      · skip
        refine Exists.intro _ (And.intro (cw_ro_o hI.1 ho1) ?_)
        intro m10 em_35
        try have e10 : m10.toInt = (z7_19).toInt * (1) := by rw [em_35]; exact pm_mulc _ _ (1) rfl (by omega) (by omega)
        intro m11 em_36
        try have e11 : m11.toInt = (x2).toInt + (m10).toInt := by rw [em_36]; exact pm_add _ _ (by omega) (by omega)
        refine Exists.intro _ (Exists.intro _ (And.intro (Or.inl (cw_ro_1 hI.1 ho1)) (And.intro (by omega) ?_)))
        have w12 := cw_col hI ho1 (m11).toInt.toNat
        refine And.intro (fun c13 => ?_) (fun c13 => ?_)
        · skip
          have dc13 := pm_neI c13
          refine hC.1 2 89 _ _ rfl _ _ _ _ _ ?_
          intro m14 em_89
          try have e14 : m14.toInt = (z7_19).toInt + (1) := by rw [em_89]; exact pm_addc _ _ (1) rfl (by omega) (by omega)
          exact hC.2 [false, false, false, false, false, false, false, false, true] _ _ _ _ _ _ (ih8 z5_19 m14 v6 f6 hs6 (by omega) (by omega))
        · skip
          have dc13 : ((z5_19 &&& ((1 : Int32) <<< ((e (o1 + 1) (m11).toInt.toNat) &&& 31)))).toInt = (0 : Int32).toInt := congrArg Int32.toInt c13
          refine Exists.intro _ (And.intro (cw_o3 hI.1) ?_)
          have z15 := hs6.1
          have k24 : (24 : Int32).toInt = 24 := rfl
          refine And.intro (fun c16 => ?_) (fun c16 => ?_)
          · skip
            refine hC.1 2 89 _ _ rfl _ _ _ _ _ ?_
            intro m17 em_89
            try have e17 : m17.toInt = (z7_19).toInt + (1) := by rw [em_89]; exact pm_addc _ _ (1) rfl (by omega) (by omega)
            exact hC.2 [false, false, false, false, false, false, false, false, true] _ _ _ _ _ _ (ih8 z5_19 m17 v6 f6 hs6 (by omega) (by omega))
          · skip
            refine Exists.intro _ (And.intro (cw_o3 hI.1) ?_)
            refine Exists.intro _ (And.intro (cw_o3 hI.1) ?_)
            have z18 := hs6.1
            refine Exists.intro _ (Exists.intro _ (And.intro (cw_a16 hI.1) (And.intro (by omega) ?_)))
            rw [cw_s16 hI.1]
            obtain ⟨f19, ef19⟩ : ∃ z9, z9 = va_up f6 16 (upd (f6 16) ((v6 0)).toInt.toNat (e (o1 + 1) (m11).toInt.toNat)) := ⟨_, rfl⟩
            rw [← ef19]
            have hs19 : cw_S v6 f19 := by rw [ef19]; exact cw_S_f16 hs6 _ _ (by omega)
            refine Exists.intro _ (And.intro (cw_o3 hI.1) ?_)
            have z20 := hs19.1
            intro m21 em_85
            try have e21 : m21.toInt = ((v6 0)).toInt + (1) := by rw [em_85]; exact pm_addc _ _ (1) rfl (by omega) (by omega)
            refine Exists.intro _ (And.intro (cw_o3 hI.1) (And.intro rfl ?_))
            rw [cw_p_found hI.1]
            obtain ⟨v22, ev22⟩ : ∃ z9, z9 = upd v6 0 m21 := ⟨_, rfl⟩
            rw [← ev22]
            have hs22 : cw_S v22 f19 := by rw [ev22]; exact cw_S_v0 hs19 _ (by omega)
            have ev22_0 : (v22 0).toInt = (m21).toInt := by rw [ev22]; rfl
            refine hC.1 2 89 _ _ rfl _ _ _ _ _ ?_
            intro m23 em_89
            try have e23 : m23.toInt = (z7_19).toInt + (1) := by rw [em_89]; exact pm_addc _ _ (1) rfl (by omega) (by omega)
            exact hC.2 [false, false, false, false, false, false, false, false, true] _ _ _ _ _ _ (ih8 (z5_19 ||| ((1 : Int32) <<< ((e (o1 + 1) (m11).toInt.toNat) &&& 31))) m23 v22 f19 hs22 (by omega) (by omega))
  exact lp7 (200 - (0 : Int32).toInt).toNat.succ (0 : Int32) (0 : Int32) v5 f hs5 (by omega) (by omega)

set_option maxRecDepth 100000 in
set_option maxHeartbeats 2000000 in
theorem c_X0_listAsMet__cm1 (hI : cw_I K nn dn q w e) (hs : cw_S v f) {o1 : Nat} (ho1 : cw_ro K o1) (x2 : Int32) (x3 : Int32) (p0 : 0 ≤ x3.toInt ∧ x3.toInt ≤ x2.toInt ∧ x2.toInt < 160) : pm_Mt l g 69 1 0 0 [.ref (q 3), .ref (q o1), .int x2, .int x3, .int (-1)] (cw A0 g K nn dn q w e v f) (cw_Qs A0 g K nn dn q w e (fun r v2 f2 => r = none ∧ (True))) := by
  refine mt_X0_listAsMet rfl (fun J hC => ?_)
  have ro_nn : cw_ro K nn := hI.2.1.2.1
  have ro_dn : cw_ro K dn := hI.2.1.2.2.1
  have hu1 := hI.2.1
  unfold cw_W at hu1
  have rg_x2 := pm_rng x2
  have rg_x3 := pm_rng x3
  have km1 : (-1 : Int32).toInt = -1 := rfl
  have zz0 := cw_sz hI ho1
  refine hC.1 0 0 _ _ rfl _ _ _ _ _ ?_
  have k0 : (0 : Int32).toInt = 0 := rfl
  intro m2 em_5
  try have e2 : m2.toInt = (x3).toInt - (x2).toInt := by rw [em_5]; exact pm_sub _ _ (by omega) (by omega)
  refine Exists.intro _ (Exists.intro _ (Exists.intro _ (Exists.intro _ (And.intro (c_J9_abs_0f7a4 (cw A0 g K nn dn q w e v f) m2 ) (And.intro rfl (fun r9 A9 h9 => ?_))))))
  obtain ⟨y3, rfl, rfl, by3⟩ := h9
  refine Exists.intro _ (And.intro (cw_o3 hI.1) (And.intro rfl ?_))
  rw [cw_p_found hI.1]
  obtain ⟨v5, ev5⟩ : ∃ z9, z9 = upd v 0 (0 : Int32) := ⟨_, rfl⟩
  rw [← ev5]
  have hs5 : cw_S v5 f := by rw [ev5]; exact cw_S_v0 hs _ (by omega)
  have ev5_0 : (v5 0).toInt = ((0 : Int32)).toInt := by rw [ev5]; rfl
  have lp7 : ∀ (n : Nat) (z5_19 : Int32) (z7_19 : Int32) (v6 : Nat → Int32) (f6 : Nat → Nat → Int32), cw_S v6 f6 → (0 ≤ z7_19.toInt ∧ z7_19.toInt ≤ 160) → 200 - z7_19.toInt < (n : Int) → J 19 [some (.ref (q 3)), some (.ref (q o1)), some (.int x2), some (.int x3), some (.int (-1 : Int32)), some (.int z5_19), some (.int y3), some (.int z7_19), none] [] (cw A0 g K nn dn q w e v6 f6) 0 0 := by
    intro n
    induction n with
    | zero =>
      intro z5_19 z7_19 v6 f6 hs6 j0_19 j1_19
      omega
    | succ n ih8 =>
      intro z5_19 z7_19 v6 f6 hs6 j0_19 j1_19
      refine hC.1 1 19 _ _ rfl _ _ _ _ _ ?_
      refine And.intro (fun c9 => ?_) (fun c9 => ?_)
      · skip
        refine hC.1 3 95 _ _ rfl _ _ _ _ _ ?_
        exact ⟨rfl, rfl, v6, f6, rfl, hs6, rfl, by exact True.intro⟩
      · skip
        refine Exists.intro _ (And.intro (cw_ro_o hI.1 ho1) ?_)
        intro m10 em_35
        try have e10 : m10.toInt = (z7_19).toInt * (-1) := by rw [em_35]; exact pm_mulc _ _ (-1) rfl (by omega) (by omega)
        intro m11 em_36
        try have e11 : m11.toInt = (x2).toInt + (m10).toInt := by rw [em_36]; exact pm_add _ _ (by omega) (by omega)
        refine Exists.intro _ (Exists.intro _ (And.intro (Or.inl (cw_ro_1 hI.1 ho1)) (And.intro (by omega) ?_)))
        have w12 := cw_col hI ho1 (m11).toInt.toNat
        have k1 : (1 : Int32).toInt = 1 := rfl
        refine And.intro (fun c13 => ?_) (fun c13 => ?_)
        · skip
          have dc13 := pm_neI c13
          refine hC.1 2 89 _ _ rfl _ _ _ _ _ ?_
          intro m14 em_89
          try have e14 : m14.toInt = (z7_19).toInt + (1) := by rw [em_89]; exact pm_addc _ _ (1) rfl (by omega) (by omega)
          exact hC.2 [false, false, false, false, false, false, false, false, true] _ _ _ _ _ _ (ih8 z5_19 m14 v6 f6 hs6 (by omega) (by omega))
        · skip
          have dc13 : ((z5_19 &&& ((1 : Int32) <<< ((e (o1 + 1) (m11).toInt.toNat) &&& 31)))).toInt = (0 : Int32).toInt := congrArg Int32.toInt c13
          refine Exists.intro _ (And.intro (cw_o3 hI.1) ?_)
          have z15 := hs6.1
          have k24 : (24 : Int32).toInt = 24 := rfl
          refine And.intro (fun c16 => ?_) (fun c16 => ?_)
          · skip
            refine hC.1 2 89 _ _ rfl _ _ _ _ _ ?_
            intro m17 em_89
            try have e17 : m17.toInt = (z7_19).toInt + (1) := by rw [em_89]; exact pm_addc _ _ (1) rfl (by omega) (by omega)
            exact hC.2 [false, false, false, false, false, false, false, false, true] _ _ _ _ _ _ (ih8 z5_19 m17 v6 f6 hs6 (by omega) (by omega))
          · skip
            refine Exists.intro _ (And.intro (cw_o3 hI.1) ?_)
            refine Exists.intro _ (And.intro (cw_o3 hI.1) ?_)
            have z18 := hs6.1
            refine Exists.intro _ (Exists.intro _ (And.intro (cw_a16 hI.1) (And.intro (by omega) ?_)))
            rw [cw_s16 hI.1]
            obtain ⟨f19, ef19⟩ : ∃ z9, z9 = va_up f6 16 (upd (f6 16) ((v6 0)).toInt.toNat (e (o1 + 1) (m11).toInt.toNat)) := ⟨_, rfl⟩
            rw [← ef19]
            have hs19 : cw_S v6 f19 := by rw [ef19]; exact cw_S_f16 hs6 _ _ (by omega)
            refine Exists.intro _ (And.intro (cw_o3 hI.1) ?_)
            have z20 := hs19.1
            intro m21 em_85
            try have e21 : m21.toInt = ((v6 0)).toInt + (1) := by rw [em_85]; exact pm_addc _ _ (1) rfl (by omega) (by omega)
            refine Exists.intro _ (And.intro (cw_o3 hI.1) (And.intro rfl ?_))
            rw [cw_p_found hI.1]
            obtain ⟨v22, ev22⟩ : ∃ z9, z9 = upd v6 0 m21 := ⟨_, rfl⟩
            rw [← ev22]
            have hs22 : cw_S v22 f19 := by rw [ev22]; exact cw_S_v0 hs19 _ (by omega)
            have ev22_0 : (v22 0).toInt = (m21).toInt := by rw [ev22]; rfl
            refine hC.1 2 89 _ _ rfl _ _ _ _ _ ?_
            intro m23 em_89
            try have e23 : m23.toInt = (z7_19).toInt + (1) := by rw [em_89]; exact pm_addc _ _ (1) rfl (by omega) (by omega)
            exact hC.2 [false, false, false, false, false, false, false, false, true] _ _ _ _ _ _ (ih8 (z5_19 ||| ((1 : Int32) <<< ((e (o1 + 1) (m11).toInt.toNat) &&& 31))) m23 v22 f19 hs22 (by omega) (by omega))
  exact lp7 (200 - (0 : Int32).toInt).toNat.succ (0 : Int32) (0 : Int32) v5 f hs5 (by omega) (by omega)

set_option maxRecDepth 100000 in
set_option maxHeartbeats 2000000 in
theorem c_X0_listByMost__14 (hI : cw_I K nn dn q w e) (hs : cw_S v f)   : pm_Mt l g 72 0 0 0 [.ref (q 3), .ref (q 2), .ref (q 14)] (cw A0 g K nn dn q w e v f) (cw_Qs A0 g K nn dn q w e (fun r v2 f2 => r = none ∧ (True))) := by
  refine mt_X0_listByMost rfl (fun J hC => ?_)
  have ro_nn : cw_ro K nn := hI.2.1.2.1
  have ro_dn : cw_ro K dn := hI.2.1.2.2.1
  have hu1 := hI.2.1
  unfold cw_W at hu1
  refine hC.1 0 0 _ _ rfl _ _ _ _ _ ?_
  have k0 : (0 : Int32).toInt = 0 := rfl
  refine Exists.intro _ (And.intro (cw_o3 hI.1) (And.intro rfl ?_))
  rw [cw_p_found hI.1]
  obtain ⟨v2, ev2⟩ : ∃ z9, z9 = upd v 0 (0 : Int32) := ⟨_, rfl⟩
  rw [← ev2]
  have hs2 : cw_S v2 f := by rw [ev2]; exact cw_S_v0 hs _ (by omega)
  have ev2_0 : (v2 0).toInt = ((0 : Int32)).toInt := by rw [ev2]; rfl
  have lp4 : ∀ (n : Nat) (z3_7 : Int32) (v3 : Nat → Int32) (f3 : Nat → Nat → Int32), cw_S v3 f3 → (0 ≤ z3_7.toInt ∧ z3_7.toInt ≤ 24) → ((v3 0).toInt ≤ z3_7.toInt) → 200 - z3_7.toInt < (n : Int) → J 7 [some (.ref (q 3)), some (.ref (q 2)), some (.ref (q 14)), some (.int z3_7), none] [] (cw A0 g K nn dn q w e v3 f3) 0 0 := by
    intro n
    induction n with
    | zero =>
      intro z3_7 v3 f3 hs3 j0_7 j1_7 j2_7
      omega
    | succ n ih5 =>
      intro z3_7 v3 f3 hs3 j0_7 j1_7 j2_7
      refine hC.1 1 7 _ _ rfl _ _ _ _ _ ?_
      have k24 : (24 : Int32).toInt = 24 := rfl
      refine And.intro (fun c6 => ?_) (fun c6 => ?_)
      · skip
        refine hC.1 5 96 _ _ rfl _ _ _ _ _ ?_
        exact ⟨rfl, rfl, v3, f3, rfl, hs3, rfl, by exact True.intro⟩
      · skip
        refine Exists.intro _ (And.intro (cw_o2 hI.1) ?_)
        refine Exists.intro _ (Exists.intro _ (And.intro (Or.inl (cw_a14 hI.1)) (And.intro (by omega) ?_)))
        refine And.intro (fun c7 => ?_) (fun c7 => ?_)
        · skip
          refine hC.1 4 90 _ _ rfl _ _ _ _ _ ?_
          have k1 : (1 : Int32).toInt = 1 := rfl
          intro m8 em_90
          try have e8 : m8.toInt = (z3_7).toInt + (1) := by rw [em_90]; exact pm_addc _ _ (1) rfl (by omega) (by omega)
          exact ih5 m8 v3 f3 hs3 (by omega) (by omega) (by omega)
        · skip
          refine Exists.intro _ (And.intro (cw_o3 hI.1) ?_)
          have z9 := hs3.1
          have lp11 : ∀ (n : Nat) (z4_28 : Int32) (v10 : Nat → Int32) (f10 : Nat → Nat → Int32), cw_S v10 f10 → (0 ≤ z4_28.toInt ∧ z4_28.toInt ≤ (v10 0).toInt ∧ (v10 0).toInt ≤ z3_7.toInt) → z4_28.toInt < (n : Int) → J 28 [some (.ref (q 3)), some (.ref (q 2)), some (.ref (q 14)), some (.int z3_7), some (.int z4_28)] [] (cw A0 g K nn dn q w e v10 f10) 0 0 := by
            intro n
            induction n with
            | zero =>
              intro z4_28 v10 f10 hs10 j0_28 j1_28
              omega
            | succ n ih12 =>
              intro z4_28 v10 f10 hs10 j0_28 j1_28
              refine hC.1 2 28 _ _ rfl _ _ _ _ _ ?_
              refine And.intro (fun c13 => ?_) (fun c13 => ?_)
              · skip
                refine hC.1 3 72 _ _ rfl _ _ _ _ _ ?_
                refine Exists.intro _ (And.intro (cw_o3 hI.1) ?_)
                refine Exists.intro _ (Exists.intro _ (And.intro (cw_a16 hI.1) (And.intro (by omega) ?_)))
                rw [cw_s16 hI.1]
                obtain ⟨f14, ef14⟩ : ∃ z9, z9 = va_up f10 16 (upd (f10 16) (z4_28).toInt.toNat z3_7) := ⟨_, rfl⟩
                rw [← ef14]
                have hs14 : cw_S v10 f14 := by rw [ef14]; exact cw_S_f16 hs10 _ _ (by omega)
                refine Exists.intro _ (And.intro (cw_o3 hI.1) ?_)
                have z15 := hs14.1
                have k1 : (1 : Int32).toInt = 1 := rfl
                intro m16 em_86
                try have e16 : m16.toInt = ((v10 0)).toInt + (1) := by rw [em_86]; exact pm_addc _ _ (1) rfl (by omega) (by omega)
                refine Exists.intro _ (And.intro (cw_o3 hI.1) (And.intro rfl ?_))
                rw [cw_p_found hI.1]
                obtain ⟨v17, ev17⟩ : ∃ z9, z9 = upd v10 0 m16 := ⟨_, rfl⟩
                rw [← ev17]
                have hs17 : cw_S v17 f14 := by rw [ev17]; exact cw_S_v0 hs14 _ (by omega)
                have ev17_0 : (v17 0).toInt = (m16).toInt := by rw [ev17]; rfl
                refine hC.1 4 90 _ _ rfl _ _ _ _ _ ?_
                intro m18 em_90
                try have e18 : m18.toInt = (z3_7).toInt + (1) := by rw [em_90]; exact pm_addc _ _ (1) rfl (by omega) (by omega)
                exact hC.2 [false, false, false, false, true] _ _ _ _ _ _ (ih5 m18 v17 f14 hs17 (by omega) (by omega) (by omega))
              · skip
                refine Exists.intro _ (And.intro (cw_o3 hI.1) ?_)
                have k1 : (1 : Int32).toInt = 1 := rfl
                intro m19 em_41
                try have e19 : m19.toInt = (z4_28).toInt - (1) := by rw [em_41]; exact pm_subc _ _ (1) rfl (by omega) (by omega)
                refine Exists.intro _ (Exists.intro _ (And.intro (Or.inl (cw_a16 hI.1)) (And.intro (by omega) ?_)))
                have w20 := hs10.2.1 (m19).toInt.toNat
                refine Exists.intro _ (Exists.intro _ (And.intro (Or.inl (cw_a14 hI.1)) (And.intro (by omega) ?_)))
                refine Exists.intro _ (Exists.intro _ (And.intro (Or.inl (cw_a14 hI.1)) (And.intro (by omega) ?_)))
                refine And.intro (fun c21 => ?_) (fun c21 => ?_)
                · skip
                  refine hC.1 3 72 _ _ rfl _ _ _ _ _ ?_
                  refine Exists.intro _ (And.intro (cw_o3 hI.1) ?_)
                  refine Exists.intro _ (Exists.intro _ (And.intro (cw_a16 hI.1) (And.intro (by omega) ?_)))
                  rw [cw_s16 hI.1]
                  obtain ⟨f22, ef22⟩ : ∃ z9, z9 = va_up f10 16 (upd (f10 16) (z4_28).toInt.toNat z3_7) := ⟨_, rfl⟩
                  rw [← ef22]
                  have hs22 : cw_S v10 f22 := by rw [ef22]; exact cw_S_f16 hs10 _ _ (by omega)
                  refine Exists.intro _ (And.intro (cw_o3 hI.1) ?_)
                  have z23 := hs22.1
                  intro m24 em_86
                  try have e24 : m24.toInt = ((v10 0)).toInt + (1) := by rw [em_86]; exact pm_addc _ _ (1) rfl (by omega) (by omega)
                  refine Exists.intro _ (And.intro (cw_o3 hI.1) (And.intro rfl ?_))
                  rw [cw_p_found hI.1]
                  obtain ⟨v25, ev25⟩ : ∃ z9, z9 = upd v10 0 m24 := ⟨_, rfl⟩
                  rw [← ev25]
                  have hs25 : cw_S v25 f22 := by rw [ev25]; exact cw_S_v0 hs22 _ (by omega)
                  have ev25_0 : (v25 0).toInt = (m24).toInt := by rw [ev25]; rfl
                  refine hC.1 4 90 _ _ rfl _ _ _ _ _ ?_
                  intro m26 em_90
                  try have e26 : m26.toInt = (z3_7).toInt + (1) := by rw [em_90]; exact pm_addc _ _ (1) rfl (by omega) (by omega)
                  exact hC.2 [false, false, false, false, true] _ _ _ _ _ _ (ih5 m26 v25 f22 hs25 (by omega) (by omega) (by omega))
                · skip
                  refine Exists.intro _ (And.intro (cw_o3 hI.1) ?_)
                  refine Exists.intro _ (And.intro (cw_o3 hI.1) ?_)
                  intro m27 em_63
                  try have e27 : m27.toInt = (z4_28).toInt - (1) := by rw [em_63]; exact pm_subc _ _ (1) rfl (by omega) (by omega)
                  refine Exists.intro _ (Exists.intro _ (And.intro (Or.inl (cw_a16 hI.1)) (And.intro (by omega) ?_)))
                  have w28 := hs10.2.1 (m27).toInt.toNat
                  refine Exists.intro _ (Exists.intro _ (And.intro (cw_a16 hI.1) (And.intro (by omega) ?_)))
                  rw [cw_s16 hI.1]
                  obtain ⟨f29, ef29⟩ : ∃ z9, z9 = va_up f10 16 (upd (f10 16) (z4_28).toInt.toNat (f10 16 (m27).toInt.toNat)) := ⟨_, rfl⟩
                  rw [← ef29]
                  have hs29 : cw_S v10 f29 := by rw [ef29]; exact cw_S_f16 hs10 _ _ (by omega)
                  have km1 : (-1 : Int32).toInt = -1 := rfl
                  intro m30 em_66
                  try have e30 : m30.toInt = (z4_28).toInt + (-1) := by rw [em_66]; exact pm_addc _ _ (-1) rfl (by omega) (by omega)
                  exact ih12 m30 v10 f29 hs29 (by omega) (by omega)
          exact lp11 ((v3 0).toInt).toNat.succ (v3 0) v3 f3 hs3 (by omega) (by omega)
  exact lp4 (200 - (0 : Int32).toInt).toNat.succ (0 : Int32) v2 f hs2 (by omega) (by omega) (by omega)

set_option maxRecDepth 100000 in
set_option maxHeartbeats 2000000 in
theorem c_X0_listByMost__15 (hI : cw_I K nn dn q w e) (hs : cw_S v f)   : pm_Mt l g 72 0 0 0 [.ref (q 3), .ref (q 2), .ref (q 15)] (cw A0 g K nn dn q w e v f) (cw_Qs A0 g K nn dn q w e (fun r v2 f2 => r = none ∧ (True))) := by
  refine mt_X0_listByMost rfl (fun J hC => ?_)
  have ro_nn : cw_ro K nn := hI.2.1.2.1
  have ro_dn : cw_ro K dn := hI.2.1.2.2.1
  have hu1 := hI.2.1
  unfold cw_W at hu1
  refine hC.1 0 0 _ _ rfl _ _ _ _ _ ?_
  have k0 : (0 : Int32).toInt = 0 := rfl
  refine Exists.intro _ (And.intro (cw_o3 hI.1) (And.intro rfl ?_))
  rw [cw_p_found hI.1]
  obtain ⟨v2, ev2⟩ : ∃ z9, z9 = upd v 0 (0 : Int32) := ⟨_, rfl⟩
  rw [← ev2]
  have hs2 : cw_S v2 f := by rw [ev2]; exact cw_S_v0 hs _ (by omega)
  have ev2_0 : (v2 0).toInt = ((0 : Int32)).toInt := by rw [ev2]; rfl
  have lp4 : ∀ (n : Nat) (z3_7 : Int32) (v3 : Nat → Int32) (f3 : Nat → Nat → Int32), cw_S v3 f3 → (0 ≤ z3_7.toInt ∧ z3_7.toInt ≤ 24) → ((v3 0).toInt ≤ z3_7.toInt) → 200 - z3_7.toInt < (n : Int) → J 7 [some (.ref (q 3)), some (.ref (q 2)), some (.ref (q 15)), some (.int z3_7), none] [] (cw A0 g K nn dn q w e v3 f3) 0 0 := by
    intro n
    induction n with
    | zero =>
      intro z3_7 v3 f3 hs3 j0_7 j1_7 j2_7
      omega
    | succ n ih5 =>
      intro z3_7 v3 f3 hs3 j0_7 j1_7 j2_7
      refine hC.1 1 7 _ _ rfl _ _ _ _ _ ?_
      have k24 : (24 : Int32).toInt = 24 := rfl
      refine And.intro (fun c6 => ?_) (fun c6 => ?_)
      · skip
        refine hC.1 5 96 _ _ rfl _ _ _ _ _ ?_
        exact ⟨rfl, rfl, v3, f3, rfl, hs3, rfl, by exact True.intro⟩
      · skip
        refine Exists.intro _ (And.intro (cw_o2 hI.1) ?_)
        refine Exists.intro _ (Exists.intro _ (And.intro (Or.inl (cw_a14 hI.1)) (And.intro (by omega) ?_)))
        refine And.intro (fun c7 => ?_) (fun c7 => ?_)
        · skip
          refine hC.1 4 90 _ _ rfl _ _ _ _ _ ?_
          have k1 : (1 : Int32).toInt = 1 := rfl
          intro m8 em_90
          try have e8 : m8.toInt = (z3_7).toInt + (1) := by rw [em_90]; exact pm_addc _ _ (1) rfl (by omega) (by omega)
          exact ih5 m8 v3 f3 hs3 (by omega) (by omega) (by omega)
        · skip
          refine Exists.intro _ (And.intro (cw_o3 hI.1) ?_)
          have z9 := hs3.1
          have lp11 : ∀ (n : Nat) (z4_28 : Int32) (v10 : Nat → Int32) (f10 : Nat → Nat → Int32), cw_S v10 f10 → (0 ≤ z4_28.toInt ∧ z4_28.toInt ≤ (v10 0).toInt ∧ (v10 0).toInt ≤ z3_7.toInt) → z4_28.toInt < (n : Int) → J 28 [some (.ref (q 3)), some (.ref (q 2)), some (.ref (q 15)), some (.int z3_7), some (.int z4_28)] [] (cw A0 g K nn dn q w e v10 f10) 0 0 := by
            intro n
            induction n with
            | zero =>
              intro z4_28 v10 f10 hs10 j0_28 j1_28
              omega
            | succ n ih12 =>
              intro z4_28 v10 f10 hs10 j0_28 j1_28
              refine hC.1 2 28 _ _ rfl _ _ _ _ _ ?_
              refine And.intro (fun c13 => ?_) (fun c13 => ?_)
              · skip
                refine hC.1 3 72 _ _ rfl _ _ _ _ _ ?_
                refine Exists.intro _ (And.intro (cw_o3 hI.1) ?_)
                refine Exists.intro _ (Exists.intro _ (And.intro (cw_a16 hI.1) (And.intro (by omega) ?_)))
                rw [cw_s16 hI.1]
                obtain ⟨f14, ef14⟩ : ∃ z9, z9 = va_up f10 16 (upd (f10 16) (z4_28).toInt.toNat z3_7) := ⟨_, rfl⟩
                rw [← ef14]
                have hs14 : cw_S v10 f14 := by rw [ef14]; exact cw_S_f16 hs10 _ _ (by omega)
                refine Exists.intro _ (And.intro (cw_o3 hI.1) ?_)
                have z15 := hs14.1
                have k1 : (1 : Int32).toInt = 1 := rfl
                intro m16 em_86
                try have e16 : m16.toInt = ((v10 0)).toInt + (1) := by rw [em_86]; exact pm_addc _ _ (1) rfl (by omega) (by omega)
                refine Exists.intro _ (And.intro (cw_o3 hI.1) (And.intro rfl ?_))
                rw [cw_p_found hI.1]
                obtain ⟨v17, ev17⟩ : ∃ z9, z9 = upd v10 0 m16 := ⟨_, rfl⟩
                rw [← ev17]
                have hs17 : cw_S v17 f14 := by rw [ev17]; exact cw_S_v0 hs14 _ (by omega)
                have ev17_0 : (v17 0).toInt = (m16).toInt := by rw [ev17]; rfl
                refine hC.1 4 90 _ _ rfl _ _ _ _ _ ?_
                intro m18 em_90
                try have e18 : m18.toInt = (z3_7).toInt + (1) := by rw [em_90]; exact pm_addc _ _ (1) rfl (by omega) (by omega)
                exact hC.2 [false, false, false, false, true] _ _ _ _ _ _ (ih5 m18 v17 f14 hs17 (by omega) (by omega) (by omega))
              · skip
                refine Exists.intro _ (And.intro (cw_o3 hI.1) ?_)
                have k1 : (1 : Int32).toInt = 1 := rfl
                intro m19 em_41
                try have e19 : m19.toInt = (z4_28).toInt - (1) := by rw [em_41]; exact pm_subc _ _ (1) rfl (by omega) (by omega)
                refine Exists.intro _ (Exists.intro _ (And.intro (Or.inl (cw_a16 hI.1)) (And.intro (by omega) ?_)))
                have w20 := hs10.2.1 (m19).toInt.toNat
                refine Exists.intro _ (Exists.intro _ (And.intro (Or.inl (cw_a15 hI.1)) (And.intro (by omega) ?_)))
                refine Exists.intro _ (Exists.intro _ (And.intro (Or.inl (cw_a15 hI.1)) (And.intro (by omega) ?_)))
                refine And.intro (fun c21 => ?_) (fun c21 => ?_)
                · skip
                  refine hC.1 3 72 _ _ rfl _ _ _ _ _ ?_
                  refine Exists.intro _ (And.intro (cw_o3 hI.1) ?_)
                  refine Exists.intro _ (Exists.intro _ (And.intro (cw_a16 hI.1) (And.intro (by omega) ?_)))
                  rw [cw_s16 hI.1]
                  obtain ⟨f22, ef22⟩ : ∃ z9, z9 = va_up f10 16 (upd (f10 16) (z4_28).toInt.toNat z3_7) := ⟨_, rfl⟩
                  rw [← ef22]
                  have hs22 : cw_S v10 f22 := by rw [ef22]; exact cw_S_f16 hs10 _ _ (by omega)
                  refine Exists.intro _ (And.intro (cw_o3 hI.1) ?_)
                  have z23 := hs22.1
                  intro m24 em_86
                  try have e24 : m24.toInt = ((v10 0)).toInt + (1) := by rw [em_86]; exact pm_addc _ _ (1) rfl (by omega) (by omega)
                  refine Exists.intro _ (And.intro (cw_o3 hI.1) (And.intro rfl ?_))
                  rw [cw_p_found hI.1]
                  obtain ⟨v25, ev25⟩ : ∃ z9, z9 = upd v10 0 m24 := ⟨_, rfl⟩
                  rw [← ev25]
                  have hs25 : cw_S v25 f22 := by rw [ev25]; exact cw_S_v0 hs22 _ (by omega)
                  have ev25_0 : (v25 0).toInt = (m24).toInt := by rw [ev25]; rfl
                  refine hC.1 4 90 _ _ rfl _ _ _ _ _ ?_
                  intro m26 em_90
                  try have e26 : m26.toInt = (z3_7).toInt + (1) := by rw [em_90]; exact pm_addc _ _ (1) rfl (by omega) (by omega)
                  exact hC.2 [false, false, false, false, true] _ _ _ _ _ _ (ih5 m26 v25 f22 hs25 (by omega) (by omega) (by omega))
                · skip
                  refine Exists.intro _ (And.intro (cw_o3 hI.1) ?_)
                  refine Exists.intro _ (And.intro (cw_o3 hI.1) ?_)
                  intro m27 em_63
                  try have e27 : m27.toInt = (z4_28).toInt - (1) := by rw [em_63]; exact pm_subc _ _ (1) rfl (by omega) (by omega)
                  refine Exists.intro _ (Exists.intro _ (And.intro (Or.inl (cw_a16 hI.1)) (And.intro (by omega) ?_)))
                  have w28 := hs10.2.1 (m27).toInt.toNat
                  refine Exists.intro _ (Exists.intro _ (And.intro (cw_a16 hI.1) (And.intro (by omega) ?_)))
                  rw [cw_s16 hI.1]
                  obtain ⟨f29, ef29⟩ : ∃ z9, z9 = va_up f10 16 (upd (f10 16) (z4_28).toInt.toNat (f10 16 (m27).toInt.toNat)) := ⟨_, rfl⟩
                  rw [← ef29]
                  have hs29 : cw_S v10 f29 := by rw [ef29]; exact cw_S_f16 hs10 _ _ (by omega)
                  have km1 : (-1 : Int32).toInt = -1 := rfl
                  intro m30 em_66
                  try have e30 : m30.toInt = (z4_28).toInt + (-1) := by rw [em_66]; exact pm_addc _ _ (-1) rfl (by omega) (by omega)
                  exact ih12 m30 v10 f29 hs29 (by omega) (by omega)
          exact lp11 ((v3 0).toInt).toNat.succ (v3 0) v3 f3 hs3 (by omega) (by omega)
  exact lp4 (200 - (0 : Int32).toInt).toNat.succ (0 : Int32) v2 f hs2 (by omega) (by omega) (by omega)

end
end
section
section
variable {l : Launch} {g : pm_G} {A0 : pm_H} {K nn dn : Nat} {q : Nat → Nat} {w : Nat → Int32} {e : Nat → Nat → Int32} {v : Nat → Int32} {f : Nat → Nat → Int32}
set_option maxRecDepth 100000 in
set_option maxHeartbeats 2000000 in
theorem c_X0_colourInOrder (hI : cw_I K nn dn q w e) (hs : cw_S v f) {o1 : Nat} (ho1 : cw_ro K o1) (x3 : Int32) (x4 : Int32) (x5 : Int32) (x6 : Int32) (p0 : 0 ≤ x3.toInt ∧ x3.toInt ≤ x4.toInt ∧ x4.toInt < (w o1).toInt) : pm_Mt l g 68 2 0 0 [.ref (q 3), .ref (q o1), .ref (q 2), .int x3, .int x4, .int x5, .int x6] (cw A0 g K nn dn q w e v f) (cw_Qs A0 g K nn dn q w e (fun r v2 f2 => ∃ x : Int32, r = some (.int x) ∧ (True))) := by
  refine mt_X0_colourInOrder rfl (fun J hC => ?_)
  have ro_nn : cw_ro K nn := hI.2.1.2.1
  have ro_dn : cw_ro K dn := hI.2.1.2.2.1
  have hu1 := hI.2.1
  unfold cw_W at hu1
  have rg_x3 := pm_rng x3
  have rg_x4 := pm_rng x4
  have rg_x5 := pm_rng x5
  have rg_x6 := pm_rng x6
  have zz0 := cw_sz hI ho1
  refine hC.1 0 0 _ _ rfl _ _ _ _ _ ?_
  refine pm_swc 5 rfl (by decide) ?_ ?_
  · intro _
    refine hC.1 6 95 _ _ rfl _ _ _ _ _ ?_
    have km1 : (-1 : Int32).toInt = -1 := rfl
    exact ⟨rfl, fun e9 => absurd e9 (by decide), rfl, v, f, rfl, hs, (-1 : Int32), rfl, by exact True.intro⟩
  · intro i9 hi9 he9
    rcases (show i9 = 0 ∨ i9 = 1 ∨ i9 = 2 ∨ i9 = 3 ∨ i9 = 4 by omega) with rfl | rfl | rfl | rfl | rfl
    · skip
      refine hC.1 1 36 _ _ rfl _ _ _ _ _ ?_
      have k1 : (1 : Int32).toInt = 1 := rfl
      refine And.intro (Exists.intro _ (cw_o3 hI.1)) (Exists.intro _ (Exists.intro _ (Exists.intro _ (Exists.intro _ (And.intro (c_X0_listAsMet__c1 hI hs ho1 x3 x4 (by omega)) (And.intro rfl (fun r9 A9 h9 => ?_)))))))
      rcases h9 with ⟨v5, f5, rfl, hs5, rfl, by4⟩
      refine hC.1 7 97 _ _ rfl _ _ _ _ _ ?_
      refine And.intro (fun c6 => ?_) (fun c6 => ?_)
      · skip
        refine hC.1 8 121 _ _ rfl _ _ _ _ _ ?_
        have km1 : (-1 : Int32).toInt = -1 := rfl
        refine hC.1 9 122 _ _ rfl _ _ _ _ _ ?_
        exact ⟨rfl, fun e9 => absurd e9 (by decide), rfl, v5, f5, rfl, hs5, (-1 : Int32), rfl, by exact True.intro⟩
      · skip
        refine Exists.intro _ (And.intro (cw_o3 hI.1) ?_)
        have z7 := hs5.1
        refine And.intro (fun c8 => ?_) (fun c8 => ?_)
        · skip
          refine hC.1 8 121 _ _ rfl _ _ _ _ _ ?_
          have km1 : (-1 : Int32).toInt = -1 := rfl
          refine hC.1 9 122 _ _ rfl _ _ _ _ _ ?_
          exact ⟨rfl, fun e9 => absurd e9 (by decide), rfl, v5, f5, rfl, hs5, (-1 : Int32), rfl, by exact True.intro⟩
        · skip
          refine Exists.intro _ (And.intro (cw_o3 hI.1) ?_)
          refine Exists.intro _ (Exists.intro _ (And.intro (Or.inl (cw_a16 hI.1)) (And.intro (by omega) ?_)))
          have w9 := hs5.2.1 (x5).toInt.toNat
          refine hC.1 9 122 _ _ rfl _ _ _ _ _ ?_
          exact ⟨rfl, fun e9 => absurd e9 (by decide), rfl, v5, f5, rfl, hs5, (f5 16 (x5).toInt.toNat), rfl, by exact True.intro⟩
    · skip
      refine hC.1 2 48 _ _ rfl _ _ _ _ _ ?_
      have km1 : (-1 : Int32).toInt = -1 := rfl
      refine And.intro (Exists.intro _ (cw_o3 hI.1)) (Exists.intro _ (Exists.intro _ (Exists.intro _ (Exists.intro _ (And.intro (c_X0_listAsMet__cm1 hI hs ho1 x4 x3 (by omega)) (And.intro rfl (fun r9 A9 h9 => ?_)))))))
      rcases h9 with ⟨v11, f11, rfl, hs11, rfl, by10⟩
      refine hC.1 7 97 _ _ rfl _ _ _ _ _ ?_
      refine And.intro (fun c12 => ?_) (fun c12 => ?_)
      · skip
        refine hC.1 8 121 _ _ rfl _ _ _ _ _ ?_
        refine hC.1 9 122 _ _ rfl _ _ _ _ _ ?_
        exact ⟨rfl, fun e9 => absurd e9 (by decide), rfl, v11, f11, rfl, hs11, (-1 : Int32), rfl, by exact True.intro⟩
      · skip
        refine Exists.intro _ (And.intro (cw_o3 hI.1) ?_)
        have z13 := hs11.1
        refine And.intro (fun c14 => ?_) (fun c14 => ?_)
        · skip
          refine hC.1 8 121 _ _ rfl _ _ _ _ _ ?_
          refine hC.1 9 122 _ _ rfl _ _ _ _ _ ?_
          exact ⟨rfl, fun e9 => absurd e9 (by decide), rfl, v11, f11, rfl, hs11, (-1 : Int32), rfl, by exact True.intro⟩
        · skip
          refine Exists.intro _ (And.intro (cw_o3 hI.1) ?_)
          refine Exists.intro _ (Exists.intro _ (And.intro (Or.inl (cw_a16 hI.1)) (And.intro (by omega) ?_)))
          have w15 := hs11.2.1 (x5).toInt.toNat
          refine hC.1 9 122 _ _ rfl _ _ _ _ _ ?_
          exact ⟨rfl, fun e9 => absurd e9 (by decide), rfl, v11, f11, rfl, hs11, (f11 16 (x5).toInt.toNat), rfl, by exact True.intro⟩
    · skip
      refine hC.1 3 60 _ _ rfl _ _ _ _ _ ?_
      refine Exists.intro _ (And.intro (cw_o2 hI.1) ?_)
      refine And.intro (Exists.intro _ (cw_o3 hI.1)) (Exists.intro _ (Exists.intro _ (Exists.intro _ (Exists.intro _ (And.intro (c_X0_colourOf hI hs (v 3) x5 ) (And.intro rfl (fun r9 A9 h9 => ?_)))))))
      obtain ⟨y16, rfl, rfl, by16⟩ := h9
      exact ⟨rfl, fun e9 => absurd e9 (by decide), rfl, v, f, rfl, hs, y16, rfl, by exact True.intro⟩
    · skip
      refine hC.1 4 71 _ _ rfl _ _ _ _ _ ?_
      refine Exists.intro _ (And.intro (cw_o2 hI.1) ?_)
      refine And.intro (Exists.intro _ (cw_o3 hI.1)) (Exists.intro _ (Exists.intro _ (Exists.intro _ (Exists.intro _ (And.intro (c_X0_listByMost__15 hI hs  ) (And.intro rfl (fun r9 A9 h9 => ?_)))))))
      rcases h9 with ⟨v19, f19, rfl, hs19, rfl, by18⟩
      refine hC.1 7 97 _ _ rfl _ _ _ _ _ ?_
      refine And.intro (fun c20 => ?_) (fun c20 => ?_)
      · skip
        refine hC.1 8 121 _ _ rfl _ _ _ _ _ ?_
        have km1 : (-1 : Int32).toInt = -1 := rfl
        refine hC.1 9 122 _ _ rfl _ _ _ _ _ ?_
        exact ⟨rfl, fun e9 => absurd e9 (by decide), rfl, v19, f19, rfl, hs19, (-1 : Int32), rfl, by exact True.intro⟩
      · skip
        refine Exists.intro _ (And.intro (cw_o3 hI.1) ?_)
        have z21 := hs19.1
        refine And.intro (fun c22 => ?_) (fun c22 => ?_)
        · skip
          refine hC.1 8 121 _ _ rfl _ _ _ _ _ ?_
          have km1 : (-1 : Int32).toInt = -1 := rfl
          refine hC.1 9 122 _ _ rfl _ _ _ _ _ ?_
          exact ⟨rfl, fun e9 => absurd e9 (by decide), rfl, v19, f19, rfl, hs19, (-1 : Int32), rfl, by exact True.intro⟩
        · skip
          refine Exists.intro _ (And.intro (cw_o3 hI.1) ?_)
          refine Exists.intro _ (Exists.intro _ (And.intro (Or.inl (cw_a16 hI.1)) (And.intro (by omega) ?_)))
          have w23 := hs19.2.1 (x5).toInt.toNat
          refine hC.1 9 122 _ _ rfl _ _ _ _ _ ?_
          exact ⟨rfl, fun e9 => absurd e9 (by decide), rfl, v19, f19, rfl, hs19, (f19 16 (x5).toInt.toNat), rfl, by exact True.intro⟩
    · skip
      refine hC.1 5 83 _ _ rfl _ _ _ _ _ ?_
      refine Exists.intro _ (And.intro (cw_o2 hI.1) ?_)
      refine And.intro (Exists.intro _ (cw_o3 hI.1)) (Exists.intro _ (Exists.intro _ (Exists.intro _ (Exists.intro _ (And.intro (c_X0_listByMost__14 hI hs  ) (And.intro rfl (fun r9 A9 h9 => ?_)))))))
      rcases h9 with ⟨v25, f25, rfl, hs25, rfl, by24⟩
      refine hC.1 7 97 _ _ rfl _ _ _ _ _ ?_
      refine And.intro (fun c26 => ?_) (fun c26 => ?_)
      · skip
        refine hC.1 8 121 _ _ rfl _ _ _ _ _ ?_
        have km1 : (-1 : Int32).toInt = -1 := rfl
        refine hC.1 9 122 _ _ rfl _ _ _ _ _ ?_
        exact ⟨rfl, fun e9 => absurd e9 (by decide), rfl, v25, f25, rfl, hs25, (-1 : Int32), rfl, by exact True.intro⟩
      · skip
        refine Exists.intro _ (And.intro (cw_o3 hI.1) ?_)
        have z27 := hs25.1
        refine And.intro (fun c28 => ?_) (fun c28 => ?_)
        · skip
          refine hC.1 8 121 _ _ rfl _ _ _ _ _ ?_
          have km1 : (-1 : Int32).toInt = -1 := rfl
          refine hC.1 9 122 _ _ rfl _ _ _ _ _ ?_
          exact ⟨rfl, fun e9 => absurd e9 (by decide), rfl, v25, f25, rfl, hs25, (-1 : Int32), rfl, by exact True.intro⟩
        · skip
          refine Exists.intro _ (And.intro (cw_o3 hI.1) ?_)
          refine Exists.intro _ (Exists.intro _ (And.intro (Or.inl (cw_a16 hI.1)) (And.intro (by omega) ?_)))
          have w29 := hs25.2.1 (x5).toInt.toNat
          refine hC.1 9 122 _ _ rfl _ _ _ _ _ ?_
          exact ⟨rfl, fun e9 => absurd e9 (by decide), rfl, v25, f25, rfl, hs25, (f25 16 (x5).toInt.toNat), rfl, by exact True.intro⟩

set_option maxRecDepth 100000 in
set_option maxHeartbeats 2000000 in
theorem c_X1_clearPair (hI : cw_I K nn dn q w e) (hs : cw_S v f)   : pm_Mt l g 82 0 0 0 [.ref (q 4)] (cw A0 g K nn dn q w e v f) (cw_Qs A0 g K nn dn q w e (fun r v2 f2 => r = none ∧ (True))) := by
  refine mt_X1_clearPair rfl (fun J hC => ?_)
  have ro_nn : cw_ro K nn := hI.2.1.2.1
  have ro_dn : cw_ro K dn := hI.2.1.2.2.1
  have hu1 := hI.2.1
  unfold cw_W at hu1
  refine hC.1 0 0 _ _ rfl _ _ _ _ _ ?_
  have km1 : (-1 : Int32).toInt = -1 := rfl
  refine Exists.intro _ (And.intro (cw_o4 hI.1) (And.intro rfl ?_))
  rw [cw_p_pairDistance hI.1]
  obtain ⟨v2, ev2⟩ : ∃ z9, z9 = upd v 5 (-1 : Int32) := ⟨_, rfl⟩
  rw [← ev2]
  have hs2 : cw_S v2 f := by rw [ev2]; exact cw_S_v hs 5 _ (by decide)
  have ev2_0 : (v2 0).toInt = (v 0).toInt := by rw [ev2]; rfl
  refine Exists.intro _ (And.intro (cw_o4 hI.1) (And.intro rfl ?_))
  rw [cw_p_pairFirst hI.1]
  obtain ⟨v3, ev3⟩ : ∃ z9, z9 = upd v2 6 (-1 : Int32) := ⟨_, rfl⟩
  rw [← ev3]
  have hs3 : cw_S v3 f := by rw [ev3]; exact cw_S_v hs2 6 _ (by decide)
  have ev3_0 : (v3 0).toInt = (v2 0).toInt := by rw [ev3]; rfl
  exact ⟨rfl, rfl, v3, f, rfl, hs3, rfl, by exact True.intro⟩

set_option maxRecDepth 100000 in
set_option maxHeartbeats 2000000 in
theorem c_X1_offerPair (hI : cw_I K nn dn q w e) (hs : cw_S v f) (x1 : Int32) (x2 : Int32)  : pm_Mt l g 83 0 0 0 [.ref (q 4), .int x1, .int x2] (cw A0 g K nn dn q w e v f) (cw_Qs A0 g K nn dn q w e (fun r v2 f2 => r = none ∧ (True))) := by
  refine mt_X1_offerPair rfl (fun J hC => ?_)
  have ro_nn : cw_ro K nn := hI.2.1.2.1
  have ro_dn : cw_ro K dn := hI.2.1.2.2.1
  have hu1 := hI.2.1
  unfold cw_W at hu1
  have rg_x1 := pm_rng x1
  have rg_x2 := pm_rng x2
  refine hC.1 0 0 _ _ rfl _ _ _ _ _ ?_
  refine Exists.intro _ (And.intro (cw_o4 hI.1) ?_)
  have km1 : (-1 : Int32).toInt = -1 := rfl
  refine And.intro (fun c2 => ?_) (fun c2 => ?_)
  · skip
    have dc2 : ((v 5)).toInt = ((-1 : Int32) : Int32).toInt := congrArg Int32.toInt c2
    refine hC.1 1 18 _ _ rfl _ _ _ _ _ ?_
    intro m3 em_21
    try have e3 : m3.toInt = (x2).toInt - (x1).toInt := by rw [em_21]; exact pm_sub _ _ (by omega) (by omega)
    refine Exists.intro _ (And.intro (cw_o4 hI.1) (And.intro rfl ?_))
    rw [cw_p_pairDistance hI.1]
    obtain ⟨v4, ev4⟩ : ∃ z9, z9 = upd v 5 m3 := ⟨_, rfl⟩
    rw [← ev4]
    have hs4 : cw_S v4 f := by rw [ev4]; exact cw_S_v hs 5 _ (by decide)
    have ev4_0 : (v4 0).toInt = (v 0).toInt := by rw [ev4]; rfl
    refine Exists.intro _ (And.intro (cw_o4 hI.1) (And.intro rfl ?_))
    rw [cw_p_pairFirst hI.1]
    obtain ⟨v5, ev5⟩ : ∃ z9, z9 = upd v4 6 x1 := ⟨_, rfl⟩
    rw [← ev5]
    have hs5 : cw_S v5 f := by rw [ev5]; exact cw_S_v hs4 6 _ (by decide)
    have ev5_0 : (v5 0).toInt = (v4 0).toInt := by rw [ev5]; rfl
    refine hC.1 2 30 _ _ rfl _ _ _ _ _ ?_
    exact ⟨rfl, rfl, v5, f, rfl, hs5, rfl, by exact True.intro⟩
  · skip
    have dc2 := pm_neI c2
    intro m6 em_10
    try have e6 : m6.toInt = (x2).toInt - (x1).toInt := by rw [em_10]; exact pm_sub _ _ (by omega) (by omega)
    refine Exists.intro _ (And.intro (cw_o4 hI.1) ?_)
    refine And.intro (fun c7 => ?_) (fun c7 => ?_)
    · skip
      refine hC.1 2 30 _ _ rfl _ _ _ _ _ ?_
      exact ⟨rfl, rfl, v, f, rfl, hs, rfl, by exact True.intro⟩
    · skip
      refine hC.1 1 18 _ _ rfl _ _ _ _ _ ?_
      intro m8 em_21
      try have e8 : m8.toInt = (x2).toInt - (x1).toInt := by rw [em_21]; exact pm_sub _ _ (by omega) (by omega)
      refine Exists.intro _ (And.intro (cw_o4 hI.1) (And.intro rfl ?_))
      rw [cw_p_pairDistance hI.1]
      obtain ⟨v9, ev9⟩ : ∃ z9, z9 = upd v 5 m8 := ⟨_, rfl⟩
      rw [← ev9]
      have hs9 : cw_S v9 f := by rw [ev9]; exact cw_S_v hs 5 _ (by decide)
      have ev9_0 : (v9 0).toInt = (v 0).toInt := by rw [ev9]; rfl
      refine Exists.intro _ (And.intro (cw_o4 hI.1) (And.intro rfl ?_))
      rw [cw_p_pairFirst hI.1]
      obtain ⟨v10, ev10⟩ : ∃ z9, z9 = upd v9 6 x1 := ⟨_, rfl⟩
      rw [← ev10]
      have hs10 : cw_S v10 f := by rw [ev10]; exact cw_S_v hs9 6 _ (by decide)
      have ev10_0 : (v10 0).toInt = (v9 0).toInt := by rw [ev10]; rfl
      refine hC.1 2 30 _ _ rfl _ _ _ _ _ ?_
      exact ⟨rfl, rfl, v10, f, rfl, hs10, rfl, by exact True.intro⟩

set_option maxRecDepth 100000 in
set_option maxHeartbeats 2000000 in
theorem c_X1_pairFound (hI : cw_I K nn dn q w e) (hs : cw_S v f) (x1 : Int32)  : pm_Mt l g 84 0 0 0 [.ref (q 4), .int x1] (cw A0 g K nn dn q w e v f) (md_Qp (cw A0 g K nn dn q w e v f) (fun r => True)) := by
  refine mt_X1_pairFound rfl (fun J hC => ?_)
  have ro_nn : cw_ro K nn := hI.2.1.2.1
  have ro_dn : cw_ro K dn := hI.2.1.2.2.1
  have hu1 := hI.2.1
  unfold cw_W at hu1
  have rg_x1 := pm_rng x1
  refine hC.1 0 0 _ _ rfl _ _ _ _ _ ?_
  refine And.intro (fun c2 => ?_) (fun c2 => ?_)
  · skip
    have dc2 := pm_neI c2
    have k0 : (0 : Int32).toInt = 0 := rfl
    refine hC.1 1 11 _ _ rfl _ _ _ _ _ ?_
    have k1 : (1 : Int32).toInt = 1 := rfl
    refine And.intro (fun c3 => ?_) (fun c3 => ?_)
    · skip
      have dc3 := pm_neI c3
      refine hC.1 2 23 _ _ rfl _ _ _ _ _ ?_
      have km1 : (-1 : Int32).toInt = -1 := rfl
      refine hC.1 3 24 _ _ rfl _ _ _ _ _ ?_
      exact ⟨rfl, fun e9 => absurd e9 (by decide), rfl, (-1 : Int32), rfl, rfl, by exact True.intro⟩
    · skip
      have dc3 : (x1).toInt = ((1 : Int32) : Int32).toInt := congrArg Int32.toInt c3
      refine Exists.intro _ (And.intro (cw_o4 hI.1) ?_)
      refine hC.1 3 24 _ _ rfl _ _ _ _ _ ?_
      exact ⟨rfl, fun e9 => absurd e9 (by decide), rfl, (v 6), rfl, rfl, by exact True.intro⟩
  · skip
    have dc2 : (x1).toInt = (0 : Int32).toInt := congrArg Int32.toInt c2
    have k0 : (0 : Int32).toInt = 0 := rfl
    refine Exists.intro _ (And.intro (cw_o4 hI.1) ?_)
    refine hC.1 3 24 _ _ rfl _ _ _ _ _ ?_
    exact ⟨rfl, fun e9 => absurd e9 (by decide), rfl, (v 5), rfl, rfl, by exact True.intro⟩

set_option maxRecDepth 100000 in
set_option maxHeartbeats 2000000 in
theorem c_X1_findNearestAlike (hI : cw_I K nn dn q w e) (hs : cw_S v f) {o1 : Nat} (ho1 : cw_ro K o1) (x2 : Int32) (x3 : Int32) (p0 : 0 ≤ x2.toInt ∧ x2.toInt ≤ x3.toInt ∧ x3.toInt < (w o1).toInt) : pm_Mt l g 81 1 0 0 [.ref (q 4), .ref (q o1), .int x2, .int x3] (cw A0 g K nn dn q w e v f) (cw_Qs A0 g K nn dn q w e (fun r v2 f2 => r = none ∧ (True))) := by
  refine mt_X1_findNearestAlike rfl (fun J hC => ?_)
  have ro_nn : cw_ro K nn := hI.2.1.2.1
  have ro_dn : cw_ro K dn := hI.2.1.2.2.1
  have hu1 := hI.2.1
  unfold cw_W at hu1
  have rg_x2 := pm_rng x2
  have rg_x3 := pm_rng x3
  have zz0 := cw_sz hI ho1
  refine hC.1 0 0 _ _ rfl _ _ _ _ _ ?_
  refine And.intro (Exists.intro _ (cw_o4 hI.1)) (Exists.intro _ (Exists.intro _ (Exists.intro _ (Exists.intro _ (And.intro (c_X1_clearPair hI hs  ) (And.intro rfl (fun r9 A9 h9 => ?_)))))))
  rcases h9 with ⟨v3, f3, rfl, hs3, rfl, by2⟩
  have lp5 : ∀ (n : Nat) (z4_7 : Int32) (v4 : Nat → Int32) (f4 : Nat → Nat → Int32), cw_S v4 f4 → (x2.toInt ≤ z4_7.toInt ∧ z4_7.toInt ≤ x3.toInt + 1) → 200 - z4_7.toInt < (n : Int) → J 7 [some (.ref (q 4)), some (.ref (q o1)), some (.int x2), some (.int x3), some (.int z4_7)] [] (cw A0 g K nn dn q w e v4 f4) 0 0 := by
    intro n
    induction n with
    | zero =>
      intro z4_7 v4 f4 hs4 j0_7 j1_7
      omega
    | succ n ih6 =>
      intro z4_7 v4 f4 hs4 j0_7 j1_7
      refine hC.1 1 7 _ _ rfl _ _ _ _ _ ?_
      refine And.intro (fun c7 => ?_) (fun c7 => ?_)
      · skip
        refine hC.1 3 43 _ _ rfl _ _ _ _ _ ?_
        exact ⟨rfl, rfl, v4, f4, rfl, hs4, rfl, by exact True.intro⟩
      · skip
        refine Exists.intro _ (And.intro (cw_ro_o hI.1 ho1) ?_)
        refine Exists.intro _ (Exists.intro _ (And.intro (Or.inl (cw_ro_3 hI.1 ho1)) (And.intro (by omega) ?_)))
        have w8 := cw_ahd hI ho1 (z4_7).toInt.toNat
        refine And.intro (fun c9 => ?_) (fun c9 => ?_)
        · skip
          refine hC.1 2 37 _ _ rfl _ _ _ _ _ ?_
          have k1 : (1 : Int32).toInt = 1 := rfl
          intro m10 em_37
          try have e10 : m10.toInt = (z4_7).toInt + (1) := by rw [em_37]; exact pm_addc _ _ (1) rfl (by omega) (by omega)
          exact ih6 m10 v4 f4 hs4 (by omega) (by omega)
        · skip
          refine Exists.intro _ (And.intro (cw_ro_o hI.1 ho1) ?_)
          refine Exists.intro _ (Exists.intro _ (And.intro (Or.inl (cw_ro_3 hI.1 ho1)) (And.intro (by omega) ?_)))
          have w11 := cw_ahd hI ho1 (z4_7).toInt.toNat
          refine And.intro (Exists.intro _ (cw_o4 hI.1)) (Exists.intro _ (Exists.intro _ (Exists.intro _ (Exists.intro _ (And.intro (c_X1_offerPair hI hs4 (e (o1 + 3) (z4_7).toInt.toNat) z4_7 ) (And.intro rfl (fun r9 A9 h9 => ?_)))))))
          rcases h9 with ⟨v13, f13, rfl, hs13, rfl, by12⟩
          refine hC.1 2 37 _ _ rfl _ _ _ _ _ ?_
          have k1 : (1 : Int32).toInt = 1 := rfl
          intro m14 em_37
          try have e14 : m14.toInt = (z4_7).toInt + (1) := by rw [em_37]; exact pm_addc _ _ (1) rfl (by omega) (by omega)
          exact ih6 m14 v13 f13 hs13 (by omega) (by omega)
  exact lp5 (200 - x2.toInt).toNat.succ x2 v3 f3 hs3 (by omega) (by omega)

set_option maxRecDepth 100000 in
set_option maxHeartbeats 2000000 in
theorem c_X1_findNearestOfTwo (hI : cw_I K nn dn q w e) (hs : cw_S v f) {o1 : Nat} (ho1 : cw_ro K o1) (x2 : Int32) (x3 : Int32)  : pm_Mt l g 99 1 0 0 [.ref (q 4), .ref (q o1), .int x2, .int x3] (cw A0 g K nn dn q w e v f) (cw_Qs A0 g K nn dn q w e (fun r v2 f2 => r = none ∧ (True))) := by
  refine mt_X1_findNearestOfTwo rfl (fun J hC => ?_)
  have ro_nn : cw_ro K nn := hI.2.1.2.1
  have ro_dn : cw_ro K dn := hI.2.1.2.2.1
  have hu1 := hI.2.1
  unfold cw_W at hu1
  have rg_x2 := pm_rng x2
  have rg_x3 := pm_rng x3
  have zz0 := cw_sz hI ho1
  refine hC.1 0 0 _ _ rfl _ _ _ _ _ ?_
  refine And.intro (Exists.intro _ (cw_o4 hI.1)) (Exists.intro _ (Exists.intro _ (Exists.intro _ (Exists.intro _ (And.intro (c_X1_clearPair hI hs  ) (And.intro rfl (fun r9 A9 h9 => ?_)))))))
  rcases h9 with ⟨v3, f3, rfl, hs3, rfl, by2⟩
  have km1 : (-1 : Int32).toInt = -1 := rfl
  have k0 : (0 : Int32).toInt = 0 := rfl
  have lp5 : ∀ (n : Nat) (z4_13 : Int32) (z5_13 : Int32) (z6_13 : Int32) (v4 : Nat → Int32) (f4 : Nat → Nat → Int32), cw_S v4 f4 → (0 ≤ z6_13.toInt ∧ z6_13.toInt ≤ 160) → 200 - z6_13.toInt < (n : Int) → J 13 [some (.ref (q 4)), some (.ref (q o1)), some (.int x2), some (.int x3), some (.int z4_13), some (.int z5_13), some (.int z6_13)] [] (cw A0 g K nn dn q w e v4 f4) 0 0 := by
    intro n
    induction n with
    | zero =>
      intro z4_13 z5_13 z6_13 v4 f4 hs4 j0_13 j1_13
      omega
    | succ n ih6 =>
      intro z4_13 z5_13 z6_13 v4 f4 hs4 j0_13 j1_13
      refine hC.1 1 13 _ _ rfl _ _ _ _ _ ?_
      refine Exists.intro _ (And.intro (cw_ro_o hI.1 ho1) ?_)
      have z7 := cw_sz hI ho1
      refine And.intro (fun c8 => ?_) (fun c8 => ?_)
      · skip
        refine hC.1 4 89 _ _ rfl _ _ _ _ _ ?_
        exact ⟨rfl, rfl, v4, f4, rfl, hs4, rfl, by exact True.intro⟩
      · skip
        refine Exists.intro _ (And.intro (cw_ro_o hI.1 ho1) ?_)
        refine Exists.intro _ (Exists.intro _ (And.intro (Or.inl (cw_ro_1 hI.1 ho1)) (And.intro (by omega) ?_)))
        have w9 := cw_col hI ho1 (z6_13).toInt.toNat
        refine And.intro (fun c10 => ?_) (fun c10 => ?_)
        · skip
          have dc10 := pm_neI c10
          refine hC.1 2 54 _ _ rfl _ _ _ _ _ ?_
          refine Exists.intro _ (And.intro (cw_ro_o hI.1 ho1) ?_)
          refine Exists.intro _ (Exists.intro _ (And.intro (Or.inl (cw_ro_1 hI.1 ho1)) (And.intro (by omega) ?_)))
          have w11 := cw_col hI ho1 (z6_13).toInt.toNat
          refine And.intro (fun c12 => ?_) (fun c12 => ?_)
          · skip
            have dc12 := pm_neI c12
            refine hC.1 3 83 _ _ rfl _ _ _ _ _ ?_
            have k1 : (1 : Int32).toInt = 1 := rfl
            intro m13 em_83
            try have e13 : m13.toInt = (z6_13).toInt + (1) := by rw [em_83]; exact pm_addc _ _ (1) rfl (by omega) (by omega)
            exact ih6 z4_13 z5_13 m13 v4 f4 hs4 (by omega) (by omega)
          · skip
            have dc12 : ((e (o1 + 1) (z6_13).toInt.toNat)).toInt = (x3 : Int32).toInt := congrArg Int32.toInt c12
            refine And.intro (fun c14 => ?_) (fun c14 => ?_)
            · skip
              have dc14 : (z4_13).toInt = ((-1 : Int32) : Int32).toInt := congrArg Int32.toInt c14
              refine hC.1 3 83 _ _ rfl _ _ _ _ _ ?_
              have k1 : (1 : Int32).toInt = 1 := rfl
              intro m15 em_83
              try have e15 : m15.toInt = (z6_13).toInt + (1) := by rw [em_83]; exact pm_addc _ _ (1) rfl (by omega) (by omega)
              exact ih6 z4_13 z6_13 m15 v4 f4 hs4 (by omega) (by omega)
            · skip
              have dc14 := pm_neI c14
              refine And.intro (Exists.intro _ (cw_o4 hI.1)) (Exists.intro _ (Exists.intro _ (Exists.intro _ (Exists.intro _ (And.intro (c_X1_offerPair hI hs4 z4_13 z6_13 ) (And.intro rfl (fun r9 A9 h9 => ?_)))))))
              rcases h9 with ⟨v17, f17, rfl, hs17, rfl, by16⟩
              refine hC.1 3 83 _ _ rfl _ _ _ _ _ ?_
              have k1 : (1 : Int32).toInt = 1 := rfl
              intro m18 em_83
              try have e18 : m18.toInt = (z6_13).toInt + (1) := by rw [em_83]; exact pm_addc _ _ (1) rfl (by omega) (by omega)
              exact ih6 z4_13 z6_13 m18 v17 f17 hs17 (by omega) (by omega)
        · skip
          have dc10 : ((e (o1 + 1) (z6_13).toInt.toNat)).toInt = (x2 : Int32).toInt := congrArg Int32.toInt c10
          refine And.intro (fun c19 => ?_) (fun c19 => ?_)
          · skip
            have dc19 : (z5_13).toInt = ((-1 : Int32) : Int32).toInt := congrArg Int32.toInt c19
            refine hC.1 3 83 _ _ rfl _ _ _ _ _ ?_
            have k1 : (1 : Int32).toInt = 1 := rfl
            intro m20 em_83
            try have e20 : m20.toInt = (z6_13).toInt + (1) := by rw [em_83]; exact pm_addc _ _ (1) rfl (by omega) (by omega)
            exact ih6 z6_13 z5_13 m20 v4 f4 hs4 (by omega) (by omega)
          · skip
            have dc19 := pm_neI c19
            refine And.intro (Exists.intro _ (cw_o4 hI.1)) (Exists.intro _ (Exists.intro _ (Exists.intro _ (Exists.intro _ (And.intro (c_X1_offerPair hI hs4 z5_13 z6_13 ) (And.intro rfl (fun r9 A9 h9 => ?_)))))))
            rcases h9 with ⟨v22, f22, rfl, hs22, rfl, by21⟩
            refine hC.1 3 83 _ _ rfl _ _ _ _ _ ?_
            have k1 : (1 : Int32).toInt = 1 := rfl
            intro m23 em_83
            try have e23 : m23.toInt = (z6_13).toInt + (1) := by rw [em_83]; exact pm_addc _ _ (1) rfl (by omega) (by omega)
            exact ih6 z6_13 z5_13 m23 v22 f22 hs22 (by omega) (by omega)
  exact lp5 (200 - (0 : Int32).toInt).toNat.succ (-1 : Int32) (-1 : Int32) (0 : Int32) v3 f3 hs3 (by omega) (by omega)

set_option maxRecDepth 100000 in
set_option maxHeartbeats 2000000 in
theorem c_X1_unlikeTwos (hI : cw_I K nn dn q w e) (hs : cw_S v f) {o1 : Nat} (ho1 : cw_ro K o1) (x2 : Int32) (x3 : Int32) (p0 : 0 ≤ x2.toInt ∧ x2.toInt ≤ x3.toInt ∧ x3.toInt < (w o1).toInt) : pm_Mt l g 86 1 0 0 [.ref (q 4), .ref (q o1), .int x2, .int x3] (cw A0 g K nn dn q w e v f) (cw_Qs A0 g K nn dn q w e (fun r v2 f2 => ∃ x : Int32, r = some (.int x) ∧ (True))) := by
  refine mt_X1_unlikeTwos rfl (fun J hC => ?_)
  have ro_nn : cw_ro K nn := hI.2.1.2.1
  have ro_dn : cw_ro K dn := hI.2.1.2.2.1
  have hu1 := hI.2.1
  unfold cw_W at hu1
  have rg_x2 := pm_rng x2
  have rg_x3 := pm_rng x3
  have zz0 := cw_sz hI ho1
  refine hC.1 0 0 _ _ rfl _ _ _ _ _ ?_
  refine Exists.intro _ (And.intro (cw_o4 hI.1) ?_)
  have k0 : (0 : Int32).toInt = 0 := rfl
  refine Exists.intro _ (Exists.intro _ (Exists.intro _ (Exists.intro _ (And.intro (c_fill (cw_a20 hI.1) (by decide) (0 : Int32)) (And.intro rfl (fun r9 A9 h9 => ?_))))))
  obtain ⟨rfl, rfl⟩ := h9
  rw [cw_s20 hI.1]
  obtain ⟨f2, ef2⟩ : ∃ z9, z9 = va_up f 20 (fun j => if j < 24 then (0 : Int32) else f 20 j) := ⟨_, rfl⟩
  rw [← ef2]
  have hs2 : cw_S v f2 := by rw [ef2]; exact cw_S_fr hs _ _ (by decide) (by decide)
  have k1 : (1 : Int32).toInt = 1 := rfl
  intro m3 em_13
  try have e3 : m3.toInt = (x2).toInt + (1) := by rw [em_13]; exact pm_addc _ _ (1) rfl (by omega) (by omega)
  have lp5 : ∀ (n : Nat) (z4_16 : Int32) (z5_16 : Int32) (v4 : Nat → Int32) (f4 : Nat → Nat → Int32), cw_S v4 f4 → (x2.toInt + 1 ≤ z5_16.toInt ∧ z5_16.toInt ≤ x3.toInt + 1) → 200 - z5_16.toInt < (n : Int) → J 16 [some (.ref (q 4)), some (.ref (q o1)), some (.int x2), some (.int x3), some (.int z4_16), some (.int z5_16), none, none] [] (cw A0 g K nn dn q w e v4 f4) 0 0 := by
    intro n
    induction n with
    | zero =>
      intro z4_16 z5_16 v4 f4 hs4 j0_16 j1_16
      omega
    | succ n ih6 =>
      intro z4_16 z5_16 v4 f4 hs4 j0_16 j1_16
      refine hC.1 1 16 _ _ rfl _ _ _ _ _ ?_
      refine And.intro (fun c7 => ?_) (fun c7 => ?_)
      · skip
        refine hC.1 3 109 _ _ rfl _ _ _ _ _ ?_
        exact ⟨rfl, fun e9 => absurd e9 (by decide), rfl, v4, f4, rfl, hs4, z4_16, rfl, by exact True.intro⟩
      · skip
        refine Exists.intro _ (And.intro (cw_ro_o hI.1 ho1) ?_)
        intro m8 em_29
        try have e8 : m8.toInt = (z5_16).toInt - (1) := by rw [em_29]; exact pm_subc _ _ (1) rfl (by omega) (by omega)
        refine Exists.intro _ (Exists.intro _ (And.intro (Or.inl (cw_ro_1 hI.1 ho1)) (And.intro (by omega) ?_)))
        have w9 := cw_col hI ho1 (m8).toInt.toNat
        refine Exists.intro _ (And.intro (cw_ro_o hI.1 ho1) ?_)
        refine Exists.intro _ (Exists.intro _ (And.intro (Or.inl (cw_ro_1 hI.1 ho1)) (And.intro (by omega) ?_)))
        have w10 := cw_col hI ho1 (z5_16).toInt.toNat
        refine Exists.intro _ (Exists.intro _ (Exists.intro _ (Exists.intro _ (And.intro (c_J9_min_7cf53 (cw A0 g K nn dn q w e v4 f4) (e (o1 + 1) (m8).toInt.toNat) (e (o1 + 1) (z5_16).toInt.toNat) ) (And.intro rfl (fun r9 A9 h9 => ?_))))))
        obtain ⟨y11, rfl, rfl, by11⟩ := h9
        refine Exists.intro _ (And.intro (cw_ro_o hI.1 ho1) ?_)
        intro m13 em_50
        try have e13 : m13.toInt = (z5_16).toInt - (1) := by rw [em_50]; exact pm_subc _ _ (1) rfl (by omega) (by omega)
        refine Exists.intro _ (Exists.intro _ (And.intro (Or.inl (cw_ro_1 hI.1 ho1)) (And.intro (by omega) ?_)))
        have w14 := cw_col hI ho1 (m13).toInt.toNat
        refine Exists.intro _ (And.intro (cw_ro_o hI.1 ho1) ?_)
        refine Exists.intro _ (Exists.intro _ (And.intro (Or.inl (cw_ro_1 hI.1 ho1)) (And.intro (by omega) ?_)))
        have w15 := cw_col hI ho1 (z5_16).toInt.toNat
        refine Exists.intro _ (Exists.intro _ (Exists.intro _ (Exists.intro _ (And.intro (c_J9_max_7cf53 (cw A0 g K nn dn q w e v4 f4) (e (o1 + 1) (m13).toInt.toNat) (e (o1 + 1) (z5_16).toInt.toNat) ) (And.intro rfl (fun r9 A9 h9 => ?_))))))
        obtain ⟨y16, rfl, rfl, by16⟩ := h9
        refine And.intro (fun c18 => ?_) (fun c18 => ?_)
        · skip
          have dc18 : (y11).toInt = (y16 : Int32).toInt := congrArg Int32.toInt c18
          refine hC.1 2 103 _ _ rfl _ _ _ _ _ ?_
          intro m19 em_103
          try have e19 : m19.toInt = (z5_16).toInt + (1) := by rw [em_103]; exact pm_addc _ _ (1) rfl (by omega) (by omega)
          exact hC.2 [false, false, false, false, false, false, true, true] _ _ _ _ _ _ (ih6 z4_16 m19 v4 f4 hs4 (by omega) (by omega))
        · skip
          have dc18 := pm_neI c18
          refine Exists.intro _ (And.intro (cw_o4 hI.1) ?_)
          refine Exists.intro _ (Exists.intro _ (And.intro (Or.inl (cw_a20 hI.1)) (And.intro (by omega) ?_)))
          refine And.intro (fun c20 => ?_) (fun c20 => ?_)
          · skip
            have dc20 := pm_neI c20
            refine hC.1 2 103 _ _ rfl _ _ _ _ _ ?_
            intro m21 em_103
            try have e21 : m21.toInt = (z5_16).toInt + (1) := by rw [em_103]; exact pm_addc _ _ (1) rfl (by omega) (by omega)
            exact hC.2 [false, false, false, false, false, false, true, true] _ _ _ _ _ _ (ih6 z4_16 m21 v4 f4 hs4 (by omega) (by omega))
          · skip
            have dc20 : (((f4 20 (y11).toInt.toNat) &&& ((1 : Int32) <<< (y16 &&& 31)))).toInt = (0 : Int32).toInt := congrArg Int32.toInt c20
            refine Exists.intro _ (And.intro (cw_o4 hI.1) ?_)
            refine Exists.intro _ (Exists.intro _ (And.intro (Or.inl (cw_a20 hI.1)) (And.intro (by omega) ?_)))
            refine Exists.intro _ (Exists.intro _ (And.intro (cw_a20 hI.1) (And.intro (by omega) ?_)))
            rw [cw_s20 hI.1]
            obtain ⟨f22, ef22⟩ : ∃ z9, z9 = va_up f4 20 (upd (f4 20) (y11).toInt.toNat ((f4 20 (y11).toInt.toNat) ||| ((1 : Int32) <<< (y16 &&& 31)))) := ⟨_, rfl⟩
            rw [← ef22]
            have hs22 : cw_S v4 f22 := by rw [ef22]; exact cw_S_fr hs4 _ _ (by decide) (by decide)
            intro m23 em_100
            try have e23 : m23.toInt = (z4_16).toInt + (1) := by rw [em_100]; exact pm_addc _ _ (1) rfl (by omega) (by omega)
            refine hC.1 2 103 _ _ rfl _ _ _ _ _ ?_
            intro m24 em_103
            try have e24 : m24.toInt = (z5_16).toInt + (1) := by rw [em_103]; exact pm_addc _ _ (1) rfl (by omega) (by omega)
            exact hC.2 [false, false, false, false, false, false, true, true] _ _ _ _ _ _ (ih6 m23 m24 v4 f22 hs22 (by omega) (by omega))
  exact lp5 (200 - m3.toInt).toNat.succ (0 : Int32) m3 v f2 hs2 (by omega) (by omega)

set_option maxRecDepth 100000 in
set_option maxHeartbeats 2000000 in
theorem c_X1_coveringLength (hI : cw_I K nn dn q w e) (hs : cw_S v f) {o1 : Nat} (ho1 : cw_ro K o1) (x3 : Int32) (x4 : Int32) (p0 : 0 ≤ x3.toInt ∧ x3.toInt ≤ x4.toInt ∧ x4.toInt < (w o1).toInt) : pm_Mt l g 89 3 0 0 [.ref (q 4), .ref (q o1), .ref (q 2), .int x3, .int x4] (cw A0 g K nn dn q w e v f) (cw_Qs A0 g K nn dn q w e (fun r v2 f2 => ∃ x : Int32, r = some (.int x) ∧ (True))) := by
  refine mt_X1_coveringLength rfl (fun J hC => ?_)
  have ro_nn : cw_ro K nn := hI.2.1.2.1
  have ro_dn : cw_ro K dn := hI.2.1.2.2.1
  have hu1 := hI.2.1
  unfold cw_W at hu1
  have rg_x3 := pm_rng x3
  have rg_x4 := pm_rng x4
  have zz0 := cw_sz hI ho1
  refine hC.1 0 0 _ _ rfl _ _ _ _ _ ?_
  refine And.intro (Exists.intro _ (cw_o2 hI.1)) (Exists.intro _ (Exists.intro _ (Exists.intro _ (Exists.intro _ (And.intro (c_X2_read hI hs ho1 x3 x4 ) (And.intro rfl (fun r9 A9 h9 => ?_)))))))
  rcases h9 with ⟨v3, f3, rfl, hs3, rfl, by2⟩
  refine Exists.intro _ (And.intro (cw_o4 hI.1) ?_)
  have k1 : (1 : Int32).toInt = 1 := rfl
  intro m4 em_14
  try have e4 : m4.toInt = (x3).toInt - (1) := by rw [em_14]; exact pm_subc _ _ (1) rfl (by omega) (by omega)
  refine Exists.intro _ (Exists.intro _ (Exists.intro _ (Exists.intro _ (And.intro (c_fill (cw_a19 hI.1) (by decide) m4) (And.intro rfl (fun r9 A9 h9 => ?_))))))
  obtain ⟨rfl, rfl⟩ := h9
  rw [cw_s19 hI.1]
  obtain ⟨f5, ef5⟩ : ∃ z9, z9 = va_up f3 19 (fun j => if j < 24 then m4 else f3 19 j) := ⟨_, rfl⟩
  rw [← ef5]
  have hs5 : cw_S v3 f5 := by rw [ef5]; exact cw_S_fr hs3 _ _ (by decide) (by decide)
  have lp7 : ∀ (n : Nat) (z5_24 : Int32) (z6_24 : Int32) (v6 : Nat → Int32) (f6 : Nat → Nat → Int32), cw_S v6 f6 → (x3.toInt ≤ z6_24.toInt ∧ z6_24.toInt ≤ x4.toInt + 1) → 200 - z6_24.toInt < (n : Int) → J 24 [some (.ref (q 4)), some (.ref (q o1)), some (.ref (q 2)), some (.int x3), some (.int x4), some (.int z5_24), some (.int z6_24), none] [] (cw A0 g K nn dn q w e v6 f6) 0 0 := by
    intro n
    induction n with
    | zero =>
      intro z5_24 z6_24 v6 f6 hs6 j0_24 j1_24
      omega
    | succ n ih8 =>
      intro z5_24 z6_24 v6 f6 hs6 j0_24 j1_24
      refine hC.1 1 24 _ _ rfl _ _ _ _ _ ?_
      refine And.intro (fun c9 => ?_) (fun c9 => ?_)
      · skip
        refine hC.1 2 72 _ _ rfl _ _ _ _ _ ?_
        have k0 : (0 : Int32).toInt = 0 := rfl
        have lp11 : ∀ (n : Nat) (z5_75 : Int32) (z6_75 : Int32), (0 ≤ z6_75.toInt ∧ z6_75.toInt ≤ 24) → 200 - z6_75.toInt < (n : Int) → J 75 [some (.ref (q 4)), some (.ref (q o1)), some (.ref (q 2)), some (.int x3), some (.int x4), some (.int z5_75), some (.int z6_75), none] [] (cw A0 g K nn dn q w e v6 f6) 0 0 := by
          intro n
          induction n with
          | zero =>
            intro z5_75 z6_75 j0_75 j1_75
            omega
          | succ n ih12 =>
            intro z5_75 z6_75 j0_75 j1_75
            refine hC.1 3 75 _ _ rfl _ _ _ _ _ ?_
            have k24 : (24 : Int32).toInt = 24 := rfl
            refine And.intro (fun c13 => ?_) (fun c13 => ?_)
            · skip
              refine hC.1 5 117 _ _ rfl _ _ _ _ _ ?_
              exact ⟨rfl, fun e9 => absurd e9 (by decide), rfl, v6, f6, rfl, hs6, z5_75, rfl, by exact True.intro⟩
            · skip
              refine Exists.intro _ (And.intro (cw_o2 hI.1) ?_)
              refine Exists.intro _ (Exists.intro _ (And.intro (Or.inl (cw_a14 hI.1)) (And.intro (by omega) ?_)))
              refine And.intro (fun c14 => ?_) (fun c14 => ?_)
              · skip
                refine hC.1 4 111 _ _ rfl _ _ _ _ _ ?_
                intro m15 em_111
                try have e15 : m15.toInt = (z6_75).toInt + (1) := by rw [em_111]; exact pm_addc _ _ (1) rfl (by omega) (by omega)
                exact ih12 z5_75 m15 (by omega) (by omega)
              · skip
                intro m16 em_97
                try have e16 : m16.toInt = (x4).toInt + (1) := by rw [em_97]; exact pm_addc _ _ (1) rfl (by omega) (by omega)
                refine Exists.intro _ (And.intro (cw_o4 hI.1) ?_)
                refine Exists.intro _ (Exists.intro _ (And.intro (Or.inl (cw_a19 hI.1)) (And.intro (by omega) ?_)))
                intro m17 em_105
                try have e17 : m17.toInt = (m16).toInt - ((f6 19 (z6_75).toInt.toNat)).toInt := by rw [em_105]; exact pm_sub _ _ (by omega) (by omega)
                refine Exists.intro _ (Exists.intro _ (Exists.intro _ (Exists.intro _ (And.intro (c_J9_max_7cf53 (cw A0 g K nn dn q w e v6 f6) z5_75 m17 ) (And.intro rfl (fun r9 A9 h9 => ?_))))))
                obtain ⟨y18, rfl, rfl, by18⟩ := h9
                refine hC.1 4 111 _ _ rfl _ _ _ _ _ ?_
                intro m20 em_111
                try have e20 : m20.toInt = (z6_75).toInt + (1) := by rw [em_111]; exact pm_addc _ _ (1) rfl (by omega) (by omega)
                exact ih12 y18 m20 (by omega) (by omega)
        exact lp11 (200 - (0 : Int32).toInt).toNat.succ z5_24 (0 : Int32) (by omega) (by omega)
      · skip
        refine Exists.intro _ (And.intro (cw_ro_o hI.1 ho1) ?_)
        refine Exists.intro _ (Exists.intro _ (And.intro (Or.inl (cw_ro_1 hI.1 ho1)) (And.intro (by omega) ?_)))
        have w21 := cw_col hI ho1 (z6_24).toInt.toNat
        refine Exists.intro _ (And.intro (cw_o4 hI.1) ?_)
        refine Exists.intro _ (Exists.intro _ (And.intro (Or.inl (cw_a19 hI.1)) (And.intro (by omega) ?_)))
        intro m22 em_51
        try have e22 : m22.toInt = (z6_24).toInt - ((f6 19 ((e (o1 + 1) (z6_24).toInt.toNat)).toInt.toNat)).toInt := by rw [em_51]; exact pm_sub _ _ (by omega) (by omega)
        refine Exists.intro _ (Exists.intro _ (Exists.intro _ (Exists.intro _ (And.intro (c_J9_max_7cf53 (cw A0 g K nn dn q w e v6 f6) z5_24 m22 ) (And.intro rfl (fun r9 A9 h9 => ?_))))))
        obtain ⟨y23, rfl, rfl, by23⟩ := h9
        refine Exists.intro _ (And.intro (cw_o4 hI.1) ?_)
        refine Exists.intro _ (Exists.intro _ (And.intro (cw_a19 hI.1) (And.intro (by omega) ?_)))
        rw [cw_s19 hI.1]
        obtain ⟨f25, ef25⟩ : ∃ z9, z9 = va_up f6 19 (upd (f6 19) ((e (o1 + 1) (z6_24).toInt.toNat)).toInt.toNat z6_24) := ⟨_, rfl⟩
        rw [← ef25]
        have hs25 : cw_S v6 f25 := by rw [ef25]; exact cw_S_fr hs6 _ _ (by decide) (by decide)
        intro m26 em_66
        try have e26 : m26.toInt = (z6_24).toInt + (1) := by rw [em_66]; exact pm_addc _ _ (1) rfl (by omega) (by omega)
        exact hC.2 [false, false, false, false, false, false, false, true] _ _ _ _ _ _ (ih8 y23 m26 v6 f25 hs25 (by omega) (by omega))
  exact lp7 (200 - x3.toInt).toNat.succ (1 : Int32) x3 v3 f5 hs5 (by omega) (by omega)

end
end
section
section
variable {l : Launch} {g : pm_G} {A0 : pm_H} {K nn dn : Nat} {q : Nat → Nat} {w : Nat → Int32} {e : Nat → Nat → Int32} {v : Nat → Int32} {f : Nat → Nat → Int32}
set_option maxRecDepth 100000 in
set_option maxHeartbeats 2000000 in
theorem c_X1_evenestEnd (hI : cw_I K nn dn q w e) (hs : cw_S v f) {o1 : Nat} (ho1 : cw_ro K o1) (x3 : Int32) (x4 : Int32) (p0 : 0 ≤ x3.toInt ∧ x3.toInt ≤ x4.toInt ∧ x4.toInt < (w o1).toInt) : pm_Mt l g 97 2 0 0 [.ref (q 4), .ref (q o1), .ref (q 2), .int x3, .int x4] (cw A0 g K nn dn q w e v f) (cw_Qs A0 g K nn dn q w e (fun r v2 f2 => ∃ x : Int32, r = some (.int x) ∧ (True))) := by
  refine mt_X1_evenestEnd rfl (fun J hC => ?_)
  have ro_nn : cw_ro K nn := hI.2.1.2.1
  have ro_dn : cw_ro K dn := hI.2.1.2.2.1
  have hu1 := hI.2.1
  unfold cw_W at hu1
  have rg_x3 := pm_rng x3
  have rg_x4 := pm_rng x4
  have zz0 := cw_sz hI ho1
  refine hC.1 0 0 _ _ rfl _ _ _ _ _ ?_
  refine And.intro (Exists.intro _ (cw_o2 hI.1)) (Exists.intro _ (Exists.intro _ (Exists.intro _ (Exists.intro _ (And.intro (c_X2_clear hI hs  ) (And.intro rfl (fun r9 A9 h9 => ?_)))))))
  rcases h9 with ⟨v3, f3, rfl, hs3, rfl, by2⟩
  have lp5 : ∀ (n : Nat) (z5_7 : Int32) (v4 : Nat → Int32) (f4 : Nat → Nat → Int32), cw_S v4 f4 → (x3.toInt ≤ z5_7.toInt ∧ z5_7.toInt ≤ x4.toInt + 1) → 200 - z5_7.toInt < (n : Int) → J 7 [some (.ref (q 4)), some (.ref (q o1)), some (.ref (q 2)), some (.int x3), some (.int x4), some (.int z5_7), none, none, none] [] (cw A0 g K nn dn q w e v4 f4) 0 0 := by
    intro n
    induction n with
    | zero =>
      intro z5_7 v4 f4 hs4 j0_7 j1_7
      omega
    | succ n ih6 =>
      intro z5_7 v4 f4 hs4 j0_7 j1_7
      refine hC.1 1 7 _ _ rfl _ _ _ _ _ ?_
      refine And.intro (fun c7 => ?_) (fun c7 => ?_)
      · skip
        refine hC.1 2 42 _ _ rfl _ _ _ _ _ ?_
        refine And.intro (Exists.intro _ (cw_o2 hI.1)) (Exists.intro _ (Exists.intro _ (Exists.intro _ (Exists.intro _ (And.intro (c_X2_clear hI hs4  ) (And.intro rfl (fun r9 A9 h9 => ?_)))))))
        rcases h9 with ⟨v9, f9, rfl, hs9, rfl, by8⟩
        have km1 : (-1 : Int32).toInt = -1 := rfl
        have k25 : (25 : Int32).toInt = 25 := rfl
        have k1 : (1 : Int32).toInt = 1 := rfl
        intro m10 em_56
        try have e10 : m10.toInt = (x4).toInt - (1) := by rw [em_56]; exact pm_subc _ _ (1) rfl (by omega) (by omega)
        have lp12 : ∀ (n : Nat) (z5_59 : Int32) (z6_59 : Int32) (z7_59 : Int32) (v11 : Nat → Int32) (f11 : Nat → Nat → Int32), cw_S v11 f11 → (x3.toInt - 1 ≤ z7_59.toInt ∧ z7_59.toInt ≤ x4.toInt - 1) → z7_59.toInt + 1 < (n : Int) → J 59 [some (.ref (q 4)), some (.ref (q o1)), some (.ref (q 2)), some (.int x3), some (.int x4), some (.int z5_59), some (.int z6_59), some (.int z7_59), none] [] (cw A0 g K nn dn q w e v11 f11) 0 0 := by
          intro n
          induction n with
          | zero =>
            intro z5_59 z6_59 z7_59 v11 f11 hs11 j0_59 j1_59
            omega
          | succ n ih13 =>
            intro z5_59 z6_59 z7_59 v11 f11 hs11 j0_59 j1_59
            refine hC.1 3 59 _ _ rfl _ _ _ _ _ ?_
            refine And.intro (fun c14 => ?_) (fun c14 => ?_)
            · skip
              refine hC.1 5 116 _ _ rfl _ _ _ _ _ ?_
              exact ⟨rfl, fun e9 => absurd e9 (by decide), rfl, v11, f11, rfl, hs11, z5_59, rfl, by exact True.intro⟩
            · skip
              refine Exists.intro _ (And.intro (cw_ro_o hI.1 ho1) ?_)
              intro m15 em_73
              try have e15 : m15.toInt = (z7_59).toInt + (1) := by rw [em_73]; exact pm_addc _ _ (1) rfl (by omega) (by omega)
              refine Exists.intro _ (Exists.intro _ (And.intro (Or.inl (cw_ro_1 hI.1 ho1)) (And.intro (by omega) ?_)))
              have w16 := cw_col hI ho1 (m15).toInt.toNat
              refine And.intro (Exists.intro _ (cw_o2 hI.1)) (Exists.intro _ (Exists.intro _ (Exists.intro _ (Exists.intro _ (And.intro (c_X2_take hI hs11 (e (o1 + 1) (m15).toInt.toNat) (by omega)) (And.intro rfl (fun r9 A9 h9 => ?_)))))))
              rcases h9 with ⟨v18, f18, rfl, hs18, rfl, by17⟩
              refine Exists.intro _ (And.intro (cw_o4 hI.1) ?_)
              refine Exists.intro _ (Exists.intro _ (And.intro (Or.inl (cw_a18 hI.1)) (And.intro (by omega) ?_)))
              refine Exists.intro _ (And.intro (cw_o2 hI.1) ?_)
              intro m19 em_89
              try have e19 : m19.toInt = ((f18 18 (z7_59).toInt.toNat)).toInt - ((v18 2)).toInt := by rw [em_89]; exact pm_sub _ _ (by omega) (by omega)
              refine Exists.intro _ (Exists.intro _ (Exists.intro _ (Exists.intro _ (And.intro (c_J9_abs_0f7a4 (cw A0 g K nn dn q w e v18 f18) m19 ) (And.intro rfl (fun r9 A9 h9 => ?_))))))
              obtain ⟨y20, rfl, rfl, by20⟩ := h9
              refine And.intro (fun c22 => ?_) (fun c22 => ?_)
              · skip
                refine hC.1 4 110 _ _ rfl _ _ _ _ _ ?_
                intro m23 em_110
                try have e23 : m23.toInt = (z7_59).toInt + (-1) := by rw [em_110]; exact pm_addc _ _ (-1) rfl (by omega) (by omega)
                exact hC.2 [false, false, false, false, false, false, false, false, true] _ _ _ _ _ _ (ih13 z5_59 z6_59 m23 v18 f18 hs18 (by omega) (by omega))
              · skip
                refine hC.1 4 110 _ _ rfl _ _ _ _ _ ?_
                intro m24 em_110
                try have e24 : m24.toInt = (z7_59).toInt + (-1) := by rw [em_110]; exact pm_addc _ _ (-1) rfl (by omega) (by omega)
                exact hC.2 [false, false, false, false, false, false, false, false, true] _ _ _ _ _ _ (ih13 z7_59 y20 m24 v18 f18 hs18 (by omega) (by omega))
        exact lp12 (m10.toInt + 1).toNat.succ (-1 : Int32) (25 : Int32) m10 v9 f9 hs9 (by omega) (by omega)
      · skip
        refine Exists.intro _ (And.intro (cw_ro_o hI.1 ho1) ?_)
        refine Exists.intro _ (Exists.intro _ (And.intro (Or.inl (cw_ro_1 hI.1 ho1)) (And.intro (by omega) ?_)))
        have w25 := cw_col hI ho1 (z5_7).toInt.toNat
        refine And.intro (Exists.intro _ (cw_o2 hI.1)) (Exists.intro _ (Exists.intro _ (Exists.intro _ (Exists.intro _ (And.intro (c_X2_take hI hs4 (e (o1 + 1) (z5_7).toInt.toNat) (by omega)) (And.intro rfl (fun r9 A9 h9 => ?_)))))))
        rcases h9 with ⟨v27, f27, rfl, hs27, rfl, by26⟩
        refine Exists.intro _ (And.intro (cw_o4 hI.1) ?_)
        refine Exists.intro _ (And.intro (cw_o2 hI.1) ?_)
        refine Exists.intro _ (Exists.intro _ (And.intro (cw_a18 hI.1) (And.intro (by omega) ?_)))
        rw [cw_s18 hI.1]
        obtain ⟨f28, ef28⟩ : ∃ z9, z9 = va_up f27 18 (upd (f27 18) (z5_7).toInt.toNat (v27 2)) := ⟨_, rfl⟩
        rw [← ef28]
        have hs28 : cw_S v27 f28 := by rw [ef28]; exact cw_S_fr hs27 _ _ (by decide) (by decide)
        have k1 : (1 : Int32).toInt = 1 := rfl
        intro m29 em_36
        try have e29 : m29.toInt = (z5_7).toInt + (1) := by rw [em_36]; exact pm_addc _ _ (1) rfl (by omega) (by omega)
        exact ih6 m29 v27 f28 hs28 (by omega) (by omega)
  exact lp5 (200 - x3.toInt).toNat.succ x3 v3 f3 hs3 (by omega) (by omega)

set_option maxRecDepth 100000 in
set_option maxHeartbeats 2000000 in
theorem c_X6_endFound (hI : cw_I K nn dn q w e) (hs : cw_S v f) (x1 : Int32)  : pm_Mt l g 110 0 0 0 [.ref (q 5), .int x1] (cw A0 g K nn dn q w e v f) (md_Qp (cw A0 g K nn dn q w e v f) (fun r => True)) := by
  refine mt_X6_endFound rfl (fun J hC => ?_)
  have ro_nn : cw_ro K nn := hI.2.1.2.1
  have ro_dn : cw_ro K dn := hI.2.1.2.2.1
  have hu1 := hI.2.1
  unfold cw_W at hu1
  have rg_x1 := pm_rng x1
  refine hC.1 0 0 _ _ rfl _ _ _ _ _ ?_
  refine And.intro (fun c2 => ?_) (fun c2 => ?_)
  · skip
    have dc2 := pm_neI c2
    have k0 : (0 : Int32).toInt = 0 := rfl
    refine hC.1 1 11 _ _ rfl _ _ _ _ _ ?_
    have k1 : (1 : Int32).toInt = 1 := rfl
    refine And.intro (fun c3 => ?_) (fun c3 => ?_)
    · skip
      have dc3 := pm_neI c3
      refine hC.1 2 23 _ _ rfl _ _ _ _ _ ?_
      have km1 : (-1 : Int32).toInt = -1 := rfl
      refine hC.1 3 24 _ _ rfl _ _ _ _ _ ?_
      exact ⟨rfl, fun e9 => absurd e9 (by decide), rfl, (-1 : Int32), rfl, rfl, by exact True.intro⟩
    · skip
      have dc3 : (x1).toInt = ((1 : Int32) : Int32).toInt := congrArg Int32.toInt c3
      refine Exists.intro _ (And.intro (cw_o5 hI.1) ?_)
      refine hC.1 3 24 _ _ rfl _ _ _ _ _ ?_
      exact ⟨rfl, fun e9 => absurd e9 (by decide), rfl, (v 8), rfl, rfl, by exact True.intro⟩
  · skip
    have dc2 : (x1).toInt = (0 : Int32).toInt := congrArg Int32.toInt c2
    have k0 : (0 : Int32).toInt = 0 := rfl
    refine Exists.intro _ (And.intro (cw_o5 hI.1) ?_)
    refine hC.1 3 24 _ _ rfl _ _ _ _ _ ?_
    exact ⟨rfl, fun e9 => absurd e9 (by decide), rfl, (v 7), rfl, rfl, by exact True.intro⟩

set_option maxRecDepth 100000 in
set_option maxHeartbeats 2000000 in
theorem c_X6_clearFound (hI : cw_I K nn dn q w e) (hs : cw_S v f)   : pm_Mt l g 108 0 0 0 [.ref (q 5)] (cw A0 g K nn dn q w e v f) (cw_Qs A0 g K nn dn q w e (fun r v2 f2 => r = none ∧ (True))) := by
  refine mt_X6_clearFound rfl (fun J hC => ?_)
  have ro_nn : cw_ro K nn := hI.2.1.2.1
  have ro_dn : cw_ro K dn := hI.2.1.2.2.1
  have hu1 := hI.2.1
  unfold cw_W at hu1
  refine hC.1 0 0 _ _ rfl _ _ _ _ _ ?_
  have km1 : (-1 : Int32).toInt = -1 := rfl
  refine Exists.intro _ (And.intro (cw_o5 hI.1) (And.intro rfl ?_))
  rw [cw_p_first hI.1]
  obtain ⟨v2, ev2⟩ : ∃ z9, z9 = upd v 7 (-1 : Int32) := ⟨_, rfl⟩
  rw [← ev2]
  have hs2 : cw_S v2 f := by rw [ev2]; exact cw_S_v hs 7 _ (by decide)
  have ev2_0 : (v2 0).toInt = (v 0).toInt := by rw [ev2]; rfl
  refine Exists.intro _ (And.intro (cw_o5 hI.1) (And.intro rfl ?_))
  rw [cw_p_last hI.1]
  obtain ⟨v3, ev3⟩ : ∃ z9, z9 = upd v2 8 (-1 : Int32) := ⟨_, rfl⟩
  rw [← ev3]
  have hs3 : cw_S v3 f := by rw [ev3]; exact cw_S_v hs2 8 _ (by decide)
  have ev3_0 : (v3 0).toInt = (v2 0).toInt := by rw [ev3]; rfl
  exact ⟨rfl, rfl, v3, f, rfl, hs3, rfl, by exact True.intro⟩

set_option maxRecDepth 100000 in
set_option maxHeartbeats 2000000 in
theorem c_X6_offerLonger (hI : cw_I K nn dn q w e) (hs : cw_S v f) (x1 : Int32) (x2 : Int32)  : pm_Mt l g 114 0 0 0 [.ref (q 5), .int x1, .int x2] (cw A0 g K nn dn q w e v f) (cw_Qs A0 g K nn dn q w e (fun r v2 f2 => r = none ∧ (True))) := by
  refine mt_X6_offerLonger rfl (fun J hC => ?_)
  have ro_nn : cw_ro K nn := hI.2.1.2.1
  have ro_dn : cw_ro K dn := hI.2.1.2.2.1
  have hu1 := hI.2.1
  unfold cw_W at hu1
  have rg_x1 := pm_rng x1
  have rg_x2 := pm_rng x2
  refine hC.1 0 0 _ _ rfl _ _ _ _ _ ?_
  refine Exists.intro _ (And.intro (cw_o5 hI.1) ?_)
  have km1 : (-1 : Int32).toInt = -1 := rfl
  refine And.intro (fun c2 => ?_) (fun c2 => ?_)
  · skip
    have dc2 : ((v 7)).toInt = ((-1 : Int32) : Int32).toInt := congrArg Int32.toInt c2
    refine hC.1 1 23 _ _ rfl _ _ _ _ _ ?_
    refine Exists.intro _ (And.intro (cw_o5 hI.1) (And.intro rfl ?_))
    rw [cw_p_first hI.1]
    obtain ⟨v3, ev3⟩ : ∃ z9, z9 = upd v 7 x1 := ⟨_, rfl⟩
    rw [← ev3]
    have hs3 : cw_S v3 f := by rw [ev3]; exact cw_S_v hs 7 _ (by decide)
    have ev3_0 : (v3 0).toInt = (v 0).toInt := by rw [ev3]; rfl
    refine Exists.intro _ (And.intro (cw_o5 hI.1) (And.intro rfl ?_))
    rw [cw_p_last hI.1]
    obtain ⟨v4, ev4⟩ : ∃ z9, z9 = upd v3 8 x2 := ⟨_, rfl⟩
    rw [← ev4]
    have hs4 : cw_S v4 f := by rw [ev4]; exact cw_S_v hs3 8 _ (by decide)
    have ev4_0 : (v4 0).toInt = (v3 0).toInt := by rw [ev4]; rfl
    refine hC.1 2 33 _ _ rfl _ _ _ _ _ ?_
    exact ⟨rfl, rfl, v4, f, rfl, hs4, rfl, by exact True.intro⟩
  · skip
    have dc2 := pm_neI c2
    intro m5 em_10
    try have e5 : m5.toInt = (x2).toInt - (x1).toInt := by rw [em_10]; exact pm_sub _ _ (by omega) (by omega)
    refine Exists.intro _ (And.intro (cw_o5 hI.1) ?_)
    refine Exists.intro _ (And.intro (cw_o5 hI.1) ?_)
    intro m6 em_19
    try have e6 : m6.toInt = ((v 8)).toInt - ((v 7)).toInt := by rw [em_19]; exact pm_sub _ _ (by omega) (by omega)
    refine And.intro (fun c7 => ?_) (fun c7 => ?_)
    · skip
      refine hC.1 2 33 _ _ rfl _ _ _ _ _ ?_
      exact ⟨rfl, rfl, v, f, rfl, hs, rfl, by exact True.intro⟩
    · skip
      refine hC.1 1 23 _ _ rfl _ _ _ _ _ ?_
      refine Exists.intro _ (And.intro (cw_o5 hI.1) (And.intro rfl ?_))
      rw [cw_p_first hI.1]
      obtain ⟨v8, ev8⟩ : ∃ z9, z9 = upd v 7 x1 := ⟨_, rfl⟩
      rw [← ev8]
      have hs8 : cw_S v8 f := by rw [ev8]; exact cw_S_v hs 7 _ (by decide)
      have ev8_0 : (v8 0).toInt = (v 0).toInt := by rw [ev8]; rfl
      refine Exists.intro _ (And.intro (cw_o5 hI.1) (And.intro rfl ?_))
      rw [cw_p_last hI.1]
      obtain ⟨v9, ev9⟩ : ∃ z9, z9 = upd v8 8 x2 := ⟨_, rfl⟩
      rw [← ev9]
      have hs9 : cw_S v9 f := by rw [ev9]; exact cw_S_v hs8 8 _ (by decide)
      have ev9_0 : (v9 0).toInt = (v8 0).toInt := by rw [ev9]; rfl
      refine hC.1 2 33 _ _ rfl _ _ _ _ _ ?_
      exact ⟨rfl, rfl, v9, f, rfl, hs9, rfl, by exact True.intro⟩

set_option maxRecDepth 100000 in
set_option maxHeartbeats 2000000 in
theorem c_X6_forColours (hI : cw_I K nn dn q w e) (hs : cw_S v f) {o1 : Nat} (ho1 : cw_ro K o1) (x3 : Int32) (x4 : Int32) (p0 : 0 ≤ x3.toInt ∧ x3.toInt < 160) : pm_Mt l g 101 2 0 0 [.ref (q 5), .ref (q o1), .ref (q 2), .int x3, .int x4] (cw A0 g K nn dn q w e v f) (cw_Qs A0 g K nn dn q w e (fun r v2 f2 => ∃ x : Int32, r = some (.int x) ∧ (True))) := by
  refine mt_X6_forColours rfl (fun J hC => ?_)
  have ro_nn : cw_ro K nn := hI.2.1.2.1
  have ro_dn : cw_ro K dn := hI.2.1.2.2.1
  have hu1 := hI.2.1
  unfold cw_W at hu1
  have rg_x3 := pm_rng x3
  have rg_x4 := pm_rng x4
  have zz0 := cw_sz hI ho1
  refine hC.1 0 0 _ _ rfl _ _ _ _ _ ?_
  refine And.intro (Exists.intro _ (cw_o2 hI.1)) (Exists.intro _ (Exists.intro _ (Exists.intro _ (Exists.intro _ (And.intro (c_X2_clear hI hs  ) (And.intro rfl (fun r9 A9 h9 => ?_)))))))
  rcases h9 with ⟨v3, f3, rfl, hs3, rfl, by2⟩
  have lp5 : ∀ (n : Nat) (z5_7 : Int32) (v4 : Nat → Int32) (f4 : Nat → Nat → Int32), cw_S v4 f4 → (0 ≤ z5_7.toInt ∧ z5_7.toInt ≤ 160) → 200 - z5_7.toInt < (n : Int) → J 7 [some (.ref (q 5)), some (.ref (q o1)), some (.ref (q 2)), some (.int x3), some (.int x4), some (.int z5_7)] [] (cw A0 g K nn dn q w e v4 f4) 0 0 := by
    intro n
    induction n with
    | zero =>
      intro z5_7 v4 f4 hs4 j0_7 j1_7
      omega
    | succ n ih6 =>
      intro z5_7 v4 f4 hs4 j0_7 j1_7
      refine hC.1 1 7 _ _ rfl _ _ _ _ _ ?_
      refine Exists.intro _ (And.intro (cw_ro_o hI.1 ho1) ?_)
      have z7 := cw_sz hI ho1
      refine And.intro (fun c8 => ?_) (fun c8 => ?_)
      · skip
        refine hC.1 3 45 _ _ rfl _ _ _ _ _ ?_
        have km1 : (-1 : Int32).toInt = -1 := rfl
        exact ⟨rfl, fun e9 => absurd e9 (by decide), rfl, v4, f4, rfl, hs4, (-1 : Int32), rfl, by exact True.intro⟩
      · skip
        refine Exists.intro _ (And.intro (cw_ro_o hI.1 ho1) ?_)
        refine Exists.intro _ (Exists.intro _ (And.intro (Or.inl (cw_ro_1 hI.1 ho1)) (And.intro (by omega) ?_)))
        have w9 := cw_col hI ho1 (z5_7).toInt.toNat
        refine And.intro (Exists.intro _ (cw_o2 hI.1)) (Exists.intro _ (Exists.intro _ (Exists.intro _ (Exists.intro _ (And.intro (c_X2_take hI hs4 (e (o1 + 1) (z5_7).toInt.toNat) (by omega)) (And.intro rfl (fun r9 A9 h9 => ?_)))))))
        rcases h9 with ⟨v11, f11, rfl, hs11, rfl, by10⟩
        refine Exists.intro _ (And.intro (cw_o2 hI.1) ?_)
        refine And.intro (fun c12 => ?_) (fun c12 => ?_)
        · skip
          refine hC.1 2 39 _ _ rfl _ _ _ _ _ ?_
          have k1 : (1 : Int32).toInt = 1 := rfl
          intro m13 em_39
          try have e13 : m13.toInt = (z5_7).toInt + (1) := by rw [em_39]; exact pm_addc _ _ (1) rfl (by omega) (by omega)
          exact ih6 m13 v11 f11 hs11 (by omega) (by omega)
        · skip
          exact ⟨rfl, fun e9 => absurd e9 (by decide), rfl, v11, f11, rfl, hs11, z5_7, rfl, by exact True.intro⟩
  exact lp5 (200 - x3.toInt).toNat.succ x3 v3 f3 hs3 (by omega) (by omega)

set_option maxRecDepth 100000 in
set_option maxHeartbeats 2000000 in
theorem c_X6_backForColours (hI : cw_I K nn dn q w e) (hs : cw_S v f) {o1 : Nat} (ho1 : cw_ro K o1) (x3 : Int32) (x4 : Int32) (p0 : 0 ≤ x3.toInt ∧ x3.toInt < 160) : pm_Mt l g 103 2 0 0 [.ref (q 5), .ref (q o1), .ref (q 2), .int x3, .int x4] (cw A0 g K nn dn q w e v f) (cw_Qs A0 g K nn dn q w e (fun r v2 f2 => ∃ x : Int32, r = some (.int x) ∧ (True))) := by
  refine mt_X6_backForColours rfl (fun J hC => ?_)
  have ro_nn : cw_ro K nn := hI.2.1.2.1
  have ro_dn : cw_ro K dn := hI.2.1.2.2.1
  have hu1 := hI.2.1
  unfold cw_W at hu1
  have rg_x3 := pm_rng x3
  have rg_x4 := pm_rng x4
  have zz0 := cw_sz hI ho1
  refine hC.1 0 0 _ _ rfl _ _ _ _ _ ?_
  refine And.intro (Exists.intro _ (cw_o2 hI.1)) (Exists.intro _ (Exists.intro _ (Exists.intro _ (Exists.intro _ (And.intro (c_X2_clear hI hs  ) (And.intro rfl (fun r9 A9 h9 => ?_)))))))
  rcases h9 with ⟨v3, f3, rfl, hs3, rfl, by2⟩
  have lp5 : ∀ (n : Nat) (z5_7 : Int32) (v4 : Nat → Int32) (f4 : Nat → Nat → Int32), cw_S v4 f4 → (-1 ≤ z5_7.toInt ∧ z5_7.toInt < 160) → z5_7.toInt + 1 < (n : Int) → J 7 [some (.ref (q 5)), some (.ref (q o1)), some (.ref (q 2)), some (.int x3), some (.int x4), some (.int z5_7)] [] (cw A0 g K nn dn q w e v4 f4) 0 0 := by
    intro n
    induction n with
    | zero =>
      intro z5_7 v4 f4 hs4 j0_7 j1_7
      omega
    | succ n ih6 =>
      intro z5_7 v4 f4 hs4 j0_7 j1_7
      refine hC.1 1 7 _ _ rfl _ _ _ _ _ ?_
      refine And.intro (fun c7 => ?_) (fun c7 => ?_)
      · skip
        refine hC.1 3 41 _ _ rfl _ _ _ _ _ ?_
        have km1 : (-1 : Int32).toInt = -1 := rfl
        exact ⟨rfl, fun e9 => absurd e9 (by decide), rfl, v4, f4, rfl, hs4, (-1 : Int32), rfl, by exact True.intro⟩
      · skip
        refine Exists.intro _ (And.intro (cw_ro_o hI.1 ho1) ?_)
        refine Exists.intro _ (Exists.intro _ (And.intro (Or.inl (cw_ro_1 hI.1 ho1)) (And.intro (by omega) ?_)))
        have w8 := cw_col hI ho1 (z5_7).toInt.toNat
        refine And.intro (Exists.intro _ (cw_o2 hI.1)) (Exists.intro _ (Exists.intro _ (Exists.intro _ (Exists.intro _ (And.intro (c_X2_take hI hs4 (e (o1 + 1) (z5_7).toInt.toNat) (by omega)) (And.intro rfl (fun r9 A9 h9 => ?_)))))))
        rcases h9 with ⟨v10, f10, rfl, hs10, rfl, by9⟩
        refine Exists.intro _ (And.intro (cw_o2 hI.1) ?_)
        refine And.intro (fun c11 => ?_) (fun c11 => ?_)
        · skip
          refine hC.1 2 35 _ _ rfl _ _ _ _ _ ?_
          have km1 : (-1 : Int32).toInt = -1 := rfl
          intro m12 em_35
          try have e12 : m12.toInt = (z5_7).toInt + (-1) := by rw [em_35]; exact pm_addc _ _ (-1) rfl (by omega) (by omega)
          exact ih6 m12 v10 f10 hs10 (by omega) (by omega)
        · skip
          exact ⟨rfl, fun e9 => absurd e9 (by decide), rfl, v10, f10, rfl, hs10, z5_7, rfl, by exact True.intro⟩
  exact lp5 (x3.toInt + 1).toNat.succ x3 v3 f3 hs3 (by omega) (by omega)

set_option maxRecDepth 100000 in
set_option maxHeartbeats 2000000 in
theorem c_X6_forMass (hI : cw_I K nn dn q w e) (hs : cw_S v f) {o1 : Nat} (ho1 : cw_ro K o1) (x3 : Int32) (x4 : Int32) (p0 : 0 ≤ x3.toInt ∧ x3.toInt < 160) : pm_Mt l g 105 2 0 0 [.ref (q 5), .ref (q o1), .ref (q 2), .int x3, .int x4] (cw A0 g K nn dn q w e v f) (cw_Qs A0 g K nn dn q w e (fun r v2 f2 => ∃ x : Int32, r = some (.int x) ∧ (True))) := by
  refine mt_X6_forMass rfl (fun J hC => ?_)
  have ro_nn : cw_ro K nn := hI.2.1.2.1
  have ro_dn : cw_ro K dn := hI.2.1.2.2.1
  have hu1 := hI.2.1
  unfold cw_W at hu1
  have rg_x3 := pm_rng x3
  have rg_x4 := pm_rng x4
  have zz0 := cw_sz hI ho1
  refine hC.1 0 0 _ _ rfl _ _ _ _ _ ?_
  refine And.intro (Exists.intro _ (cw_o2 hI.1)) (Exists.intro _ (Exists.intro _ (Exists.intro _ (Exists.intro _ (And.intro (c_X2_clear hI hs  ) (And.intro rfl (fun r9 A9 h9 => ?_)))))))
  rcases h9 with ⟨v3, f3, rfl, hs3, rfl, by2⟩
  have lp5 : ∀ (n : Nat) (z5_7 : Int32) (v4 : Nat → Int32) (f4 : Nat → Nat → Int32), cw_S v4 f4 → (0 ≤ z5_7.toInt ∧ z5_7.toInt ≤ 160) → 200 - z5_7.toInt < (n : Int) → J 7 [some (.ref (q 5)), some (.ref (q o1)), some (.ref (q 2)), some (.int x3), some (.int x4), some (.int z5_7)] [] (cw A0 g K nn dn q w e v4 f4) 0 0 := by
    intro n
    induction n with
    | zero =>
      intro z5_7 v4 f4 hs4 j0_7 j1_7
      omega
    | succ n ih6 =>
      intro z5_7 v4 f4 hs4 j0_7 j1_7
      refine hC.1 1 7 _ _ rfl _ _ _ _ _ ?_
      refine Exists.intro _ (And.intro (cw_ro_o hI.1 ho1) ?_)
      have z7 := cw_sz hI ho1
      refine And.intro (fun c8 => ?_) (fun c8 => ?_)
      · skip
        refine hC.1 3 45 _ _ rfl _ _ _ _ _ ?_
        have km1 : (-1 : Int32).toInt = -1 := rfl
        exact ⟨rfl, fun e9 => absurd e9 (by decide), rfl, v4, f4, rfl, hs4, (-1 : Int32), rfl, by exact True.intro⟩
      · skip
        refine Exists.intro _ (And.intro (cw_ro_o hI.1 ho1) ?_)
        refine Exists.intro _ (Exists.intro _ (And.intro (Or.inl (cw_ro_1 hI.1 ho1)) (And.intro (by omega) ?_)))
        have w9 := cw_col hI ho1 (z5_7).toInt.toNat
        refine And.intro (Exists.intro _ (cw_o2 hI.1)) (Exists.intro _ (Exists.intro _ (Exists.intro _ (Exists.intro _ (And.intro (c_X2_take hI hs4 (e (o1 + 1) (z5_7).toInt.toNat) (by omega)) (And.intro rfl (fun r9 A9 h9 => ?_)))))))
        rcases h9 with ⟨v11, f11, rfl, hs11, rfl, by10⟩
        refine Exists.intro _ (And.intro (cw_o2 hI.1) ?_)
        refine And.intro (fun c12 => ?_) (fun c12 => ?_)
        · skip
          refine hC.1 2 39 _ _ rfl _ _ _ _ _ ?_
          have k1 : (1 : Int32).toInt = 1 := rfl
          intro m13 em_39
          try have e13 : m13.toInt = (z5_7).toInt + (1) := by rw [em_39]; exact pm_addc _ _ (1) rfl (by omega) (by omega)
          exact ih6 m13 v11 f11 hs11 (by omega) (by omega)
        · skip
          exact ⟨rfl, fun e9 => absurd e9 (by decide), rfl, v11, f11, rfl, hs11, z5_7, rfl, by exact True.intro⟩
  exact lp5 (200 - x3.toInt).toNat.succ x3 v3 f3 hs3 (by omega) (by omega)

set_option maxRecDepth 100000 in
set_option maxHeartbeats 2000000 in
theorem c_X6_earliestLatest (hI : cw_I K nn dn q w e) (hs : cw_S v f) (x1 : Int32) (x2 : Int32)  : pm_Mt l g 109 1 0 0 [.ref (q 5), .int x1, .int x2] (cw A0 g K nn dn q w e v f) (md_Qp (cw A0 g K nn dn q w e v f) (fun r => True)) := by
  refine mt_X6_earliestLatest rfl (fun J hC => ?_)
  have ro_nn : cw_ro K nn := hI.2.1.2.1
  have ro_dn : cw_ro K dn := hI.2.1.2.2.1
  have hu1 := hI.2.1
  unfold cw_W at hu1
  have rg_x1 := pm_rng x1
  have rg_x2 := pm_rng x2
  refine hC.1 0 0 _ _ rfl _ _ _ _ _ ?_
  have k0 : (0 : Int32).toInt = 0 := rfl
  have lp3 : ∀ (n : Nat) (z3_5 : Int32) (z4_5 : Int32), (0 ≤ z4_5.toInt ∧ z4_5.toInt ≤ 24) → 200 - z4_5.toInt < (n : Int) → J 5 [some (.ref (q 5)), some (.int x1), some (.int x2), some (.int z3_5), some (.int z4_5)] [] (cw A0 g K nn dn q w e v f) 0 0 := by
    intro n
    induction n with
    | zero =>
      intro z3_5 z4_5 j0_5 j1_5
      omega
    | succ n ih4 =>
      intro z3_5 z4_5 j0_5 j1_5
      refine hC.1 1 5 _ _ rfl _ _ _ _ _ ?_
      have k24 : (24 : Int32).toInt = 24 := rfl
      refine And.intro (fun c5 => ?_) (fun c5 => ?_)
      · skip
        refine hC.1 3 39 _ _ rfl _ _ _ _ _ ?_
        exact ⟨rfl, fun e9 => absurd e9 (by decide), rfl, z3_5, rfl, rfl, by exact True.intro⟩
      · skip
        have k1 : (1 : Int32).toInt = 1 := rfl
        refine And.intro (fun c6 => ?_) (fun c6 => ?_)
        · skip
          have dc6 : ((x1 &&& ((1 : Int32) <<< (z4_5 &&& 31)))).toInt = (0 : Int32).toInt := congrArg Int32.toInt c6
          refine hC.1 2 33 _ _ rfl _ _ _ _ _ ?_
          intro m7 em_33
          try have e7 : m7.toInt = (z4_5).toInt + (1) := by rw [em_33]; exact pm_addc _ _ (1) rfl (by omega) (by omega)
          exact ih4 z3_5 m7 (by omega) (by omega)
        · skip
          have dc6 := pm_neI c6
          refine Exists.intro _ (And.intro (cw_o5 hI.1) ?_)
          refine Exists.intro _ (Exists.intro _ (And.intro (Or.inl (cw_a21 hI.1)) (And.intro (by omega) ?_)))
          refine Exists.intro _ (Exists.intro _ (Exists.intro _ (Exists.intro _ (And.intro (c_J9_min_7cf53 (cw A0 g K nn dn q w e v f) z3_5 (f 21 (z4_5).toInt.toNat) ) (And.intro rfl (fun r9 A9 h9 => ?_))))))
          obtain ⟨y8, rfl, rfl, by8⟩ := h9
          refine hC.1 2 33 _ _ rfl _ _ _ _ _ ?_
          intro m10 em_33
          try have e10 : m10.toInt = (z4_5).toInt + (1) := by rw [em_33]; exact pm_addc _ _ (1) rfl (by omega) (by omega)
          exact ih4 y8 m10 (by omega) (by omega)
  exact lp3 (200 - (0 : Int32).toInt).toNat.succ x2 (0 : Int32) (by omega) (by omega)

set_option maxRecDepth 100000 in
set_option maxHeartbeats 2000000 in
theorem c_X6_findShortestWith (hI : cw_I K nn dn q w e) (hs : cw_S v f) {o1 : Nat} (ho1 : cw_ro K o1) (x2 : Int32)  : pm_Mt l g 107 2 0 0 [.ref (q 5), .ref (q o1), .int x2] (cw A0 g K nn dn q w e v f) (cw_Qs A0 g K nn dn q w e (fun r v2 f2 => r = none ∧ (True))) := by
  refine mt_X6_findShortestWith rfl (fun J hC => ?_)
  have ro_nn : cw_ro K nn := hI.2.1.2.1
  have ro_dn : cw_ro K dn := hI.2.1.2.2.1
  have hu1 := hI.2.1
  unfold cw_W at hu1
  have rg_x2 := pm_rng x2
  have zz0 := cw_sz hI ho1
  refine hC.1 0 0 _ _ rfl _ _ _ _ _ ?_
  refine And.intro (Exists.intro _ (cw_o5 hI.1)) (Exists.intro _ (Exists.intro _ (Exists.intro _ (Exists.intro _ (And.intro (c_X6_clearFound hI hs  ) (And.intro rfl (fun r9 A9 h9 => ?_)))))))
  rcases h9 with ⟨v3, f3, rfl, hs3, rfl, by2⟩
  have k0 : (0 : Int32).toInt = 0 := rfl
  refine Exists.intro _ (And.intro (cw_o5 hI.1) (And.intro rfl ?_))
  rw [cw_p_spansWithAll hI.1]
  obtain ⟨v4, ev4⟩ : ∃ z9, z9 = upd v3 10 (0 : Int32) := ⟨_, rfl⟩
  rw [← ev4]
  have hs4 : cw_S v4 f3 := by rw [ev4]; exact cw_S_v hs3 10 _ (by decide)
  have ev4_0 : (v4 0).toInt = (v3 0).toInt := by rw [ev4]; rfl
  refine Exists.intro _ (And.intro (cw_o5 hI.1) ?_)
  have km1 : (-1 : Int32).toInt = -1 := rfl
  refine Exists.intro _ (Exists.intro _ (Exists.intro _ (Exists.intro _ (And.intro (c_fill (cw_a21 hI.1) (by decide) (-1 : Int32)) (And.intro rfl (fun r9 A9 h9 => ?_))))))
  obtain ⟨rfl, rfl⟩ := h9
  rw [cw_s21 hI.1]
  obtain ⟨f5, ef5⟩ : ∃ z9, z9 = va_up f3 21 (fun j => if j < 24 then (-1 : Int32) else f3 21 j) := ⟨_, rfl⟩
  rw [← ef5]
  have hs5 : cw_S v4 f5 := by rw [ef5]; exact cw_S_fr hs4 _ _ (by decide) (by decide)
  have lp7 : ∀ (n : Nat) (z3_19 : Int32) (v6 : Nat → Int32) (f6 : Nat → Nat → Int32), cw_S v6 f6 → (0 ≤ z3_19.toInt ∧ z3_19.toInt ≤ 160) → 200 - z3_19.toInt < (n : Int) → J 19 [some (.ref (q 5)), some (.ref (q o1)), some (.int x2), some (.int z3_19), none] [] (cw A0 g K nn dn q w e v6 f6) 0 0 := by
    intro n
    induction n with
    | zero =>
      intro z3_19 v6 f6 hs6 j0_19 j1_19
      omega
    | succ n ih8 =>
      intro z3_19 v6 f6 hs6 j0_19 j1_19
      refine hC.1 1 19 _ _ rfl _ _ _ _ _ ?_
      refine Exists.intro _ (And.intro (cw_ro_o hI.1 ho1) ?_)
      have z9 := cw_sz hI ho1
      refine And.intro (fun c10 => ?_) (fun c10 => ?_)
      · skip
        refine hC.1 4 107 _ _ rfl _ _ _ _ _ ?_
        exact ⟨rfl, rfl, v6, f6, rfl, hs6, rfl, by exact True.intro⟩
      · skip
        refine Exists.intro _ (And.intro (cw_o5 hI.1) ?_)
        refine Exists.intro _ (And.intro (cw_ro_o hI.1 ho1) ?_)
        refine Exists.intro _ (Exists.intro _ (And.intro (Or.inl (cw_ro_1 hI.1 ho1)) (And.intro (by omega) ?_)))
        have w11 := cw_col hI ho1 (z3_19).toInt.toNat
        refine Exists.intro _ (Exists.intro _ (And.intro (cw_a21 hI.1) (And.intro (by omega) ?_)))
        rw [cw_s21 hI.1]
        obtain ⟨f12, ef12⟩ : ∃ z9, z9 = va_up f6 21 (upd (f6 21) ((e (o1 + 1) (z3_19).toInt.toNat)).toInt.toNat z3_19) := ⟨_, rfl⟩
        rw [← ef12]
        have hs12 : cw_S v6 f12 := by rw [ef12]; exact cw_S_fr hs6 _ _ (by decide) (by decide)
        refine And.intro (Exists.intro _ (cw_o5 hI.1)) (Exists.intro _ (Exists.intro _ (Exists.intro _ (Exists.intro _ (And.intro (c_X6_earliestLatest hI hs12 x2 z3_19 ) (And.intro rfl (fun r9 A9 h9 => ?_)))))))
        obtain ⟨y13, rfl, rfl, by13⟩ := h9
        refine Exists.intro _ (And.intro (cw_o5 hI.1) ?_)
        have k1 : (1 : Int32).toInt = 1 := rfl
        intro m15 em_55
        try have e15 : m15.toInt = (y13).toInt + (1) := by rw [em_55]; exact pm_addc _ _ (1) rfl (by omega) (by omega)
        intro m16 em_56
        try have e16 : m16.toInt = ((v6 10)).toInt + (m15).toInt := by rw [em_56]; exact pm_add _ _ (by omega) (by omega)
        refine Exists.intro _ (And.intro (cw_o5 hI.1) (And.intro rfl ?_))
        rw [cw_p_spansWithAll hI.1]
        obtain ⟨v17, ev17⟩ : ∃ z9, z9 = upd v6 10 m16 := ⟨_, rfl⟩
        rw [← ev17]
        have hs17 : cw_S v17 f12 := by rw [ev17]; exact cw_S_v hs12 10 _ (by decide)
        have ev17_0 : (v17 0).toInt = (v6 0).toInt := by rw [ev17]; rfl
        refine And.intro (fun c18 => ?_) (fun c18 => ?_)
        · skip
          have dc18 : (y13).toInt = ((-1 : Int32) : Int32).toInt := congrArg Int32.toInt c18
          refine hC.1 3 101 _ _ rfl _ _ _ _ _ ?_
          intro m19 em_101
          try have e19 : m19.toInt = (z3_19).toInt + (1) := by rw [em_101]; exact pm_addc _ _ (1) rfl (by omega) (by omega)
          exact hC.2 [false, false, false, false, true] _ _ _ _ _ _ (ih8 m19 v17 f12 hs17 (by omega) (by omega))
        · skip
          have dc18 := pm_neI c18
          refine Exists.intro _ (And.intro (cw_o5 hI.1) ?_)
          refine And.intro (fun c20 => ?_) (fun c20 => ?_)
          · skip
            have dc20 : ((v17 7)).toInt = ((-1 : Int32) : Int32).toInt := congrArg Int32.toInt c20
            refine hC.1 2 90 _ _ rfl _ _ _ _ _ ?_
            refine Exists.intro _ (And.intro (cw_o5 hI.1) (And.intro rfl ?_))
            rw [cw_p_first hI.1]
            obtain ⟨v21, ev21⟩ : ∃ z9, z9 = upd v17 7 y13 := ⟨_, rfl⟩
            rw [← ev21]
            have hs21 : cw_S v21 f12 := by rw [ev21]; exact cw_S_v hs17 7 _ (by decide)
            have ev21_0 : (v21 0).toInt = (v17 0).toInt := by rw [ev21]; rfl
            refine Exists.intro _ (And.intro (cw_o5 hI.1) (And.intro rfl ?_))
            rw [cw_p_last hI.1]
            obtain ⟨v22, ev22⟩ : ∃ z9, z9 = upd v21 8 z3_19 := ⟨_, rfl⟩
            rw [← ev22]
            have hs22 : cw_S v22 f12 := by rw [ev22]; exact cw_S_v hs21 8 _ (by decide)
            have ev22_0 : (v22 0).toInt = (v21 0).toInt := by rw [ev22]; rfl
            refine hC.1 3 101 _ _ rfl _ _ _ _ _ ?_
            intro m23 em_101
            try have e23 : m23.toInt = (z3_19).toInt + (1) := by rw [em_101]; exact pm_addc _ _ (1) rfl (by omega) (by omega)
            exact hC.2 [false, false, false, false, true] _ _ _ _ _ _ (ih8 m23 v22 f12 hs22 (by omega) (by omega))
          · skip
            have dc20 := pm_neI c20
            intro m24 em_77
            try have e24 : m24.toInt = (z3_19).toInt - (y13).toInt := by rw [em_77]; exact pm_sub _ _ (by omega) (by omega)
            refine Exists.intro _ (And.intro (cw_o5 hI.1) ?_)
            refine Exists.intro _ (And.intro (cw_o5 hI.1) ?_)
            intro m25 em_86
            try have e25 : m25.toInt = ((v17 8)).toInt - ((v17 7)).toInt := by rw [em_86]; exact pm_sub _ _ (by omega) (by omega)
            refine And.intro (fun c26 => ?_) (fun c26 => ?_)
            · skip
              refine hC.1 3 101 _ _ rfl _ _ _ _ _ ?_
              intro m27 em_101
              try have e27 : m27.toInt = (z3_19).toInt + (1) := by rw [em_101]; exact pm_addc _ _ (1) rfl (by omega) (by omega)
              exact hC.2 [false, false, false, false, true] _ _ _ _ _ _ (ih8 m27 v17 f12 hs17 (by omega) (by omega))
            · skip
              refine hC.1 2 90 _ _ rfl _ _ _ _ _ ?_
              refine Exists.intro _ (And.intro (cw_o5 hI.1) (And.intro rfl ?_))
              rw [cw_p_first hI.1]
              obtain ⟨v28, ev28⟩ : ∃ z9, z9 = upd v17 7 y13 := ⟨_, rfl⟩
              rw [← ev28]
              have hs28 : cw_S v28 f12 := by rw [ev28]; exact cw_S_v hs17 7 _ (by decide)
              have ev28_0 : (v28 0).toInt = (v17 0).toInt := by rw [ev28]; rfl
              refine Exists.intro _ (And.intro (cw_o5 hI.1) (And.intro rfl ?_))
              rw [cw_p_last hI.1]
              obtain ⟨v29, ev29⟩ : ∃ z9, z9 = upd v28 8 z3_19 := ⟨_, rfl⟩
              rw [← ev29]
              have hs29 : cw_S v29 f12 := by rw [ev29]; exact cw_S_v hs28 8 _ (by decide)
              have ev29_0 : (v29 0).toInt = (v28 0).toInt := by rw [ev29]; rfl
              refine hC.1 3 101 _ _ rfl _ _ _ _ _ ?_
              intro m30 em_101
              try have e30 : m30.toInt = (z3_19).toInt + (1) := by rw [em_101]; exact pm_addc _ _ (1) rfl (by omega) (by omega)
              exact hC.2 [false, false, false, false, true] _ _ _ _ _ _ (ih8 m30 v29 f12 hs29 (by omega) (by omega))
  exact lp7 (200 - (0 : Int32).toInt).toNat.succ (0 : Int32) v4 f5 hs5 (by omega) (by omega)

set_option maxRecDepth 100000 in
set_option maxHeartbeats 2000000 in
theorem c_X6_findLongestOf (hI : cw_I K nn dn q w e) (hs : cw_S v f) {o1 : Nat} (ho1 : cw_ro K o1) (x3 : Int32)  : pm_Mt l g 112 2 0 0 [.ref (q 5), .ref (q o1), .ref (q 2), .int x3] (cw A0 g K nn dn q w e v f) (cw_Qs A0 g K nn dn q w e (fun r v2 f2 => r = none ∧ (True))) := by
  refine mt_X6_findLongestOf rfl (fun J hC => ?_)
  have ro_nn : cw_ro K nn := hI.2.1.2.1
  have ro_dn : cw_ro K dn := hI.2.1.2.2.1
  have hu1 := hI.2.1
  unfold cw_W at hu1
  have rg_x3 := pm_rng x3
  have zz0 := cw_sz hI ho1
  refine hC.1 0 0 _ _ rfl _ _ _ _ _ ?_
  refine And.intro (Exists.intro _ (cw_o5 hI.1)) (Exists.intro _ (Exists.intro _ (Exists.intro _ (Exists.intro _ (And.intro (c_X6_clearFound hI hs  ) (And.intro rfl (fun r9 A9 h9 => ?_)))))))
  rcases h9 with ⟨v3, f3, rfl, hs3, rfl, by2⟩
  refine And.intro (Exists.intro _ (cw_o2 hI.1)) (Exists.intro _ (Exists.intro _ (Exists.intro _ (Exists.intro _ (And.intro (c_X2_clear hI hs3  ) (And.intro rfl (fun r9 A9 h9 => ?_)))))))
  rcases h9 with ⟨v5, f5, rfl, hs5, rfl, by4⟩
  have k0 : (0 : Int32).toInt = 0 := rfl
  have lp7 : ∀ (n : Nat) (z4_14 : Int32) (z5_14 : Int32) (v6 : Nat → Int32) (f6 : Nat → Nat → Int32), cw_S v6 f6 → (0 ≤ z5_14.toInt ∧ z5_14.toInt ≤ 160) → (0 ≤ z4_14.toInt ∧ z4_14.toInt ≤ z5_14.toInt) → 200 - z5_14.toInt < (n : Int) → J 14 [some (.ref (q 5)), some (.ref (q o1)), some (.ref (q 2)), some (.int x3), some (.int z4_14), some (.int z5_14)] [] (cw A0 g K nn dn q w e v6 f6) 0 0 := by
    intro n
    induction n with
    | zero =>
      intro z4_14 z5_14 v6 f6 hs6 j0_14 j1_14 j2_14
      omega
    | succ n ih8 =>
      intro z4_14 z5_14 v6 f6 hs6 j0_14 j1_14 j2_14
      refine hC.1 1 14 _ _ rfl _ _ _ _ _ ?_
      refine Exists.intro _ (And.intro (cw_ro_o hI.1 ho1) ?_)
      have z9 := cw_sz hI ho1
      refine And.intro (fun c10 => ?_) (fun c10 => ?_)
      · skip
        refine hC.1 4 80 _ _ rfl _ _ _ _ _ ?_
        exact ⟨rfl, rfl, v6, f6, rfl, hs6, rfl, by exact True.intro⟩
      · skip
        refine Exists.intro _ (And.intro (cw_ro_o hI.1 ho1) ?_)
        refine Exists.intro _ (Exists.intro _ (And.intro (Or.inl (cw_ro_1 hI.1 ho1)) (And.intro (by omega) ?_)))
        have w11 := cw_col hI ho1 (z5_14).toInt.toNat
        refine And.intro (Exists.intro _ (cw_o2 hI.1)) (Exists.intro _ (Exists.intro _ (Exists.intro _ (Exists.intro _ (And.intro (c_X2_take hI hs6 (e (o1 + 1) (z5_14).toInt.toNat) (by omega)) (And.intro rfl (fun r9 A9 h9 => ?_)))))))
        rcases h9 with ⟨v13, f13, rfl, hs13, rfl, by12⟩
        have lp15 : ∀ (n : Nat) (z4_34 : Int32) (v14 : Nat → Int32) (f14 : Nat → Nat → Int32), cw_S v14 f14 → (0 ≤ z4_34.toInt ∧ z4_34.toInt ≤ z5_14.toInt) → 200 - z4_34.toInt < (n : Int) → J 34 [some (.ref (q 5)), some (.ref (q o1)), some (.ref (q 2)), some (.int x3), some (.int z4_34), some (.int z5_14)] [] (cw A0 g K nn dn q w e v14 f14) 0 0 := by
          intro n
          induction n with
          | zero =>
            intro z4_34 v14 f14 hs14 j0_34 j1_34
            omega
          | succ n ih16 =>
            intro z4_34 v14 f14 hs14 j0_34 j1_34
            refine hC.1 2 34 _ _ rfl _ _ _ _ _ ?_
            refine Exists.intro _ (And.intro (cw_o2 hI.1) ?_)
            refine And.intro (fun c17 => ?_) (fun c17 => ?_)
            · skip
              refine hC.1 3 66 _ _ rfl _ _ _ _ _ ?_
              refine And.intro (Exists.intro _ (cw_o5 hI.1)) (Exists.intro _ (Exists.intro _ (Exists.intro _ (Exists.intro _ (And.intro (c_X6_offerLonger hI hs14 z4_34 z5_14 ) (And.intro rfl (fun r9 A9 h9 => ?_)))))))
              rcases h9 with ⟨v19, f19, rfl, hs19, rfl, by18⟩
              have k1 : (1 : Int32).toInt = 1 := rfl
              intro m20 em_74
              try have e20 : m20.toInt = (z5_14).toInt + (1) := by rw [em_74]; exact pm_addc _ _ (1) rfl (by omega) (by omega)
              exact ih8 z4_34 m20 v19 f19 hs19 (by omega) (by omega) (by omega)
            · skip
              refine And.intro (fun c21 => ?_) (fun c21 => ?_)
              · skip
                refine hC.1 3 66 _ _ rfl _ _ _ _ _ ?_
                refine And.intro (Exists.intro _ (cw_o5 hI.1)) (Exists.intro _ (Exists.intro _ (Exists.intro _ (Exists.intro _ (And.intro (c_X6_offerLonger hI hs14 z4_34 z5_14 ) (And.intro rfl (fun r9 A9 h9 => ?_)))))))
                rcases h9 with ⟨v23, f23, rfl, hs23, rfl, by22⟩
                have k1 : (1 : Int32).toInt = 1 := rfl
                intro m24 em_74
                try have e24 : m24.toInt = (z5_14).toInt + (1) := by rw [em_74]; exact pm_addc _ _ (1) rfl (by omega) (by omega)
                exact ih8 z4_34 m24 v23 f23 hs23 (by omega) (by omega) (by omega)
              · skip
                refine Exists.intro _ (And.intro (cw_ro_o hI.1 ho1) ?_)
                refine Exists.intro _ (Exists.intro _ (And.intro (Or.inl (cw_ro_1 hI.1 ho1)) (And.intro (by omega) ?_)))
                have w25 := cw_col hI ho1 (z4_34).toInt.toNat
                refine And.intro (Exists.intro _ (cw_o2 hI.1)) (Exists.intro _ (Exists.intro _ (Exists.intro _ (Exists.intro _ (And.intro (c_X2_drop hI hs14 (e (o1 + 1) (z4_34).toInt.toNat) (by omega)) (And.intro rfl (fun r9 A9 h9 => ?_)))))))
                rcases h9 with ⟨v27, f27, rfl, hs27, rfl, by26⟩
                have k1 : (1 : Int32).toInt = 1 := rfl
                intro m28 em_60
                try have e28 : m28.toInt = (z4_34).toInt + (1) := by rw [em_60]; exact pm_addc _ _ (1) rfl (by omega) (by omega)
                exact ih16 m28 v27 f27 hs27 (by omega) (by omega)
        exact lp15 (200 - z4_14.toInt).toNat.succ z4_14 v13 f13 hs13 (by omega) (by omega)
  exact lp7 (200 - (0 : Int32).toInt).toNat.succ (0 : Int32) (0 : Int32) v5 f5 hs5 (by omega) (by omega) (by omega)

end
end
