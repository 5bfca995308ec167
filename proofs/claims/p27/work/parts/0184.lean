section
variable {A0 : pm_H} {g : pm_G} {K nn dn : Nat} {q : Nat → Nat} {w : Nat → Int32} {e : Nat → Nat → Int32} {v : Nat → Int32} {f : Nat → Nat → Int32}
theorem cw_o0 (D : gw_D (40 + 4 * K) q) : cw A0 g K nn dn q w e v f (q 0) = some (pm_ob 10 [.ref (q 1), .ref (q 2), .ref (q 3), .ref (q 4), .ref (q 5), .ref (q 6), .ref (q 7), .ref (q 8), .ref (q 9)]) := gw_a D (by omega)
theorem cw_o1 (D : gw_D (40 + 4 * K) q) : cw A0 g K nn dn q w e v f (q 1) = some (pm_ob 9 [.ref (q 10), .ref (q 12), .ref (q 13), .ref (q dn), .ref (q nn), .int (w 0), .int (w 1), .int (w 2)]) := gw_a D (by omega)
theorem cw_o2 (D : gw_D (40 + 4 * K) q) : cw A0 g K nn dn q w e v f (q 2) = some (pm_ob 2 [.ref (q 14), .ref (q 15), .int (v 1), .int (v 2), .int (v 3), .int (v 4)]) := gw_a D (by omega)
theorem cw_o3 (D : gw_D (40 + 4 * K) q) : cw A0 g K nn dn q w e v f (q 3) = some (pm_ob 0 [.ref (q 16), .ref (q 17), .int (v 0)]) := gw_a D (by omega)
theorem cw_o4 (D : gw_D (40 + 4 * K) q) : cw A0 g K nn dn q w e v f (q 4) = some (pm_ob 1 [.ref (q 18), .ref (q 19), .ref (q 20), .int (v 5), .int (v 6)]) := gw_a D (by omega)
theorem cw_o5 (D : gw_D (40 + 4 * K) q) : cw A0 g K nn dn q w e v f (q 5) = some (pm_ob 6 [.ref (q 21), .int (v 7), .int (v 8), .int (v 9), .int (v 10)]) := gw_a D (by omega)
theorem cw_o6 (D : gw_D (40 + 4 * K) q) : cw A0 g K nn dn q w e v f (q 6) = some (pm_ob 8 [.ref (q 22), .ref (q 23), .ref (q 24), .int (v 11), .int (v 12)]) := gw_a D (by omega)
theorem cw_o7 (D : gw_D (40 + 4 * K) q) : cw A0 g K nn dn q w e v f (q 7) = some (pm_ob 4 [.ref (q 25), .int (v 13), .int (v 14)]) := gw_a D (by omega)
theorem cw_o8 (D : gw_D (40 + 4 * K) q) : cw A0 g K nn dn q w e v f (q 8) = some (pm_ob 3 [.ref (q 11)]) := gw_a D (by omega)
theorem cw_o9 (D : gw_D (40 + 4 * K) q) : cw A0 g K nn dn q w e v f (q 9) = some (pm_ob 5 [.ref (q 35), .ref (q 36), .ref (q 37), .ref (q 38), .ref (q 39), .int (w 3)]) := gw_a D (by omega)
theorem cw_rows (D : gw_D (40 + 4 * K) q) : cw A0 g K nn dn q w e v f (q 10) = some (pm_ra g 41 (cw_rr K q)) := gw_a D (by omega)
theorem cw_worths (D : gw_D (40 + 4 * K) q) : cw A0 g K nn dn q w e v f (q 11) = some (pm_ma g 9 (cw_ww q)) := gw_a D (by omega)
theorem cw_a12 (D : gw_D (40 + 4 * K) q) : cw A0 g K nn dn q w e v f (q 12) = some (pm_ia g 160 (f 12)) := gw_a D (by omega)
theorem cw_a13 (D : gw_D (40 + 4 * K) q) : cw A0 g K nn dn q w e v f (q 13) = some (pm_ia g 24 (f 13)) := gw_a D (by omega)
theorem cw_a14 (D : gw_D (40 + 4 * K) q) : cw A0 g K nn dn q w e v f (q 14) = some (pm_ia g 24 (f 14)) := gw_a D (by omega)
theorem cw_a15 (D : gw_D (40 + 4 * K) q) : cw A0 g K nn dn q w e v f (q 15) = some (pm_ia g 24 (e 15)) := gw_a D (by omega)
theorem cw_a16 (D : gw_D (40 + 4 * K) q) : cw A0 g K nn dn q w e v f (q 16) = some (pm_ia g 24 (f 16)) := gw_a D (by omega)
theorem cw_a17 (D : gw_D (40 + 4 * K) q) : cw A0 g K nn dn q w e v f (q 17) = some (pm_ia g 160 (f 17)) := gw_a D (by omega)
theorem cw_a18 (D : gw_D (40 + 4 * K) q) : cw A0 g K nn dn q w e v f (q 18) = some (pm_ia g 160 (f 18)) := gw_a D (by omega)
theorem cw_a19 (D : gw_D (40 + 4 * K) q) : cw A0 g K nn dn q w e v f (q 19) = some (pm_ia g 24 (f 19)) := gw_a D (by omega)
theorem cw_a20 (D : gw_D (40 + 4 * K) q) : cw A0 g K nn dn q w e v f (q 20) = some (pm_ia g 24 (f 20)) := gw_a D (by omega)
theorem cw_a21 (D : gw_D (40 + 4 * K) q) : cw A0 g K nn dn q w e v f (q 21) = some (pm_ia g 24 (f 21)) := gw_a D (by omega)
theorem cw_a22 (D : gw_D (40 + 4 * K) q) : cw A0 g K nn dn q w e v f (q 22) = some (pm_ia g 160 (f 22)) := gw_a D (by omega)
theorem cw_a23 (D : gw_D (40 + 4 * K) q) : cw A0 g K nn dn q w e v f (q 23) = some (pm_ia g 24 (f 23)) := gw_a D (by omega)
theorem cw_a24 (D : gw_D (40 + 4 * K) q) : cw A0 g K nn dn q w e v f (q 24) = some (pm_ia g 24 (f 24)) := gw_a D (by omega)
theorem cw_a25 (D : gw_D (40 + 4 * K) q) : cw A0 g K nn dn q w e v f (q 25) = some (pm_ia g 160 (f 25)) := gw_a D (by omega)
theorem cw_a35 (D : gw_D (40 + 4 * K) q) : cw A0 g K nn dn q w e v f (q 35) = some (pm_ia g 30 (e 35)) := gw_a D (by omega)
theorem cw_a36 (D : gw_D (40 + 4 * K) q) : cw A0 g K nn dn q w e v f (q 36) = some (pm_ia g 30 (e 36)) := gw_a D (by omega)
theorem cw_a37 (D : gw_D (40 + 4 * K) q) : cw A0 g K nn dn q w e v f (q 37) = some (pm_ia g 30 (e 37)) := gw_a D (by omega)
theorem cw_a38 (D : gw_D (40 + 4 * K) q) : cw A0 g K nn dn q w e v f (q 38) = some (pm_ia g 30 (e 38)) := gw_a D (by omega)
theorem cw_a39 (D : gw_D (40 + 4 * K) q) : cw A0 g K nn dn q w e v f (q 39) = some (pm_ia g 30 (e 39)) := gw_a D (by omega)
theorem cw_wr (D : gw_D (40 + 4 * K) q) {j : Nat} (hj : j < 9) : cw A0 g K nn dn q w e v f (q (26 + j)) = some (pm_ia g 161 (f (26 + j))) := by
  refine (gw_a D (by omega)).trans ?_
  rcases (show j = 0 ∨ j = 1 ∨ j = 2 ∨ j = 3 ∨ j = 4 ∨ j = 5 ∨ j = 6 ∨ j = 7 ∨ j = 8 by omega) with rfl | rfl | rfl | rfl | rfl | rfl | rfl | rfl | rfl <;> rfl
theorem cw_ro_o (D : gw_D (40 + 4 * K) q) {o : Nat} (ho : cw_ro K o) : cw A0 g K nn dn q w e v f (q o) = some (pm_ob 7 [.ref (q (o + 1)), .ref (q (o + 2)), .ref (q (o + 3)), .int (w o), .int (w (o + 1))]) := by
  obtain ⟨h1, h2, h3⟩ := ho
  refine (gw_a D h2).trans ?_
  unfold cw_c
  rw [if_neg (by omega), if_neg (by omega), if_pos h3]
theorem cw_ro_a (D : gw_D (40 + 4 * K) q) {o : Nat} (ho : cw_ro K o) {k : Nat} (hk : 1 ≤ k ∧ k ≤ 3) : cw A0 g K nn dn q w e v f (q (o + k)) = some (pm_ia g 160 (e (o + k))) := by
  obtain ⟨h1, h2, h3⟩ := ho
  refine (gw_a D (by omega)).trans ?_
  unfold cw_c
  rw [if_neg (by omega), if_neg (by omega), if_neg (by omega)]
theorem cw_ro_1 (D : gw_D (40 + 4 * K) q) {o : Nat} (ho : cw_ro K o) : cw A0 g K nn dn q w e v f (q (o + 1)) = some (pm_ia g 160 (e (o + 1))) := cw_ro_a D ho (by omega)
theorem cw_ro_2 (D : gw_D (40 + 4 * K) q) {o : Nat} (ho : cw_ro K o) : cw A0 g K nn dn q w e v f (q (o + 2)) = some (pm_ia g 160 (e (o + 2))) := cw_ro_a D ho (by omega)
theorem cw_ro_3 (D : gw_D (40 + 4 * K) q) {o : Nat} (ho : cw_ro K o) : cw A0 g K nn dn q w e v f (q (o + 3)) = some (pm_ia g 160 (e (o + 3))) := cw_ro_a D ho (by omega)
theorem cw_c_f (i : Nat) (x : Nat → Int32) {j : Nat} (hj : j ≠ i) : cw_c g K nn dn q w e v (va_up f i x) j = cw_c g K nn dn q w e v f j := by
  unfold cw_c
  simp only [va_up, if_neg hj]
theorem cw_c_e (i : Nat) (x : Nat → Int32) {j : Nat} (hj : j ≠ i) : cw_c g K nn dn q w (va_up e i x) v f j = cw_c g K nn dn q w e v f j := by
  unfold cw_c
  simp only [va_up, if_neg hj]
theorem cw_s12 (D : gw_D (40 + 4 * K) q) (x : Nat → Int32) : pm_up (cw A0 g K nn dn q w e v f) (q 12) (pm_ia g 160 x) = cw A0 g K nn dn q w e v (va_up f 12 x) := gw_up D (by omega) rfl (fun _ hj => cw_c_f 12 x hj)
theorem cw_s13 (D : gw_D (40 + 4 * K) q) (x : Nat → Int32) : pm_up (cw A0 g K nn dn q w e v f) (q 13) (pm_ia g 24 x) = cw A0 g K nn dn q w e v (va_up f 13 x) := gw_up D (by omega) rfl (fun _ hj => cw_c_f 13 x hj)
theorem cw_s14 (D : gw_D (40 + 4 * K) q) (x : Nat → Int32) : pm_up (cw A0 g K nn dn q w e v f) (q 14) (pm_ia g 24 x) = cw A0 g K nn dn q w e v (va_up f 14 x) := gw_up D (by omega) rfl (fun _ hj => cw_c_f 14 x hj)
theorem cw_s15 (D : gw_D (40 + 4 * K) q) (x : Nat → Int32) : pm_up (cw A0 g K nn dn q w e v f) (q 15) (pm_ia g 24 x) = cw A0 g K nn dn q w (va_up e 15 x) v f := gw_up D (by omega) rfl (fun _ hj => cw_c_e 15 x hj)
theorem cw_s16 (D : gw_D (40 + 4 * K) q) (x : Nat → Int32) : pm_up (cw A0 g K nn dn q w e v f) (q 16) (pm_ia g 24 x) = cw A0 g K nn dn q w e v (va_up f 16 x) := gw_up D (by omega) rfl (fun _ hj => cw_c_f 16 x hj)
theorem cw_s17 (D : gw_D (40 + 4 * K) q) (x : Nat → Int32) : pm_up (cw A0 g K nn dn q w e v f) (q 17) (pm_ia g 160 x) = cw A0 g K nn dn q w e v (va_up f 17 x) := gw_up D (by omega) rfl (fun _ hj => cw_c_f 17 x hj)
theorem cw_s18 (D : gw_D (40 + 4 * K) q) (x : Nat → Int32) : pm_up (cw A0 g K nn dn q w e v f) (q 18) (pm_ia g 160 x) = cw A0 g K nn dn q w e v (va_up f 18 x) := gw_up D (by omega) rfl (fun _ hj => cw_c_f 18 x hj)
theorem cw_s19 (D : gw_D (40 + 4 * K) q) (x : Nat → Int32) : pm_up (cw A0 g K nn dn q w e v f) (q 19) (pm_ia g 24 x) = cw A0 g K nn dn q w e v (va_up f 19 x) := gw_up D (by omega) rfl (fun _ hj => cw_c_f 19 x hj)
end
