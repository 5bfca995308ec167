section
variable {A0 : pm_H} {g : pm_G} {K nn dn : Nat} {q : Nat → Nat} {w : Nat → Int32} {e : Nat → Nat → Int32} {v : Nat → Int32} {f : Nat → Nat → Int32}
theorem cw_s20 (D : gw_D (40 + 4 * K) q) (x : Nat → Int32) : pm_up (cw A0 g K nn dn q w e v f) (q 20) (pm_ia g 24 x) = cw A0 g K nn dn q w e v (va_up f 20 x) := gw_up D (by omega) rfl (fun _ hj => cw_c_f 20 x hj)
theorem cw_s21 (D : gw_D (40 + 4 * K) q) (x : Nat → Int32) : pm_up (cw A0 g K nn dn q w e v f) (q 21) (pm_ia g 24 x) = cw A0 g K nn dn q w e v (va_up f 21 x) := gw_up D (by omega) rfl (fun _ hj => cw_c_f 21 x hj)
theorem cw_s22 (D : gw_D (40 + 4 * K) q) (x : Nat → Int32) : pm_up (cw A0 g K nn dn q w e v f) (q 22) (pm_ia g 160 x) = cw A0 g K nn dn q w e v (va_up f 22 x) := gw_up D (by omega) rfl (fun _ hj => cw_c_f 22 x hj)
theorem cw_s23 (D : gw_D (40 + 4 * K) q) (x : Nat → Int32) : pm_up (cw A0 g K nn dn q w e v f) (q 23) (pm_ia g 24 x) = cw A0 g K nn dn q w e v (va_up f 23 x) := gw_up D (by omega) rfl (fun _ hj => cw_c_f 23 x hj)
theorem cw_s24 (D : gw_D (40 + 4 * K) q) (x : Nat → Int32) : pm_up (cw A0 g K nn dn q w e v f) (q 24) (pm_ia g 24 x) = cw A0 g K nn dn q w e v (va_up f 24 x) := gw_up D (by omega) rfl (fun _ hj => cw_c_f 24 x hj)
theorem cw_s25 (D : gw_D (40 + 4 * K) q) (x : Nat → Int32) : pm_up (cw A0 g K nn dn q w e v f) (q 25) (pm_ia g 160 x) = cw A0 g K nn dn q w e v (va_up f 25 x) := gw_up D (by omega) rfl (fun _ hj => cw_c_f 25 x hj)
theorem cw_s35 (D : gw_D (40 + 4 * K) q) (x : Nat → Int32) : pm_up (cw A0 g K nn dn q w e v f) (q 35) (pm_ia g 30 x) = cw A0 g K nn dn q w (va_up e 35 x) v f := gw_up D (by omega) rfl (fun _ hj => cw_c_e 35 x hj)
theorem cw_s36 (D : gw_D (40 + 4 * K) q) (x : Nat → Int32) : pm_up (cw A0 g K nn dn q w e v f) (q 36) (pm_ia g 30 x) = cw A0 g K nn dn q w (va_up e 36 x) v f := gw_up D (by omega) rfl (fun _ hj => cw_c_e 36 x hj)
theorem cw_s37 (D : gw_D (40 + 4 * K) q) (x : Nat → Int32) : pm_up (cw A0 g K nn dn q w e v f) (q 37) (pm_ia g 30 x) = cw A0 g K nn dn q w (va_up e 37 x) v f := gw_up D (by omega) rfl (fun _ hj => cw_c_e 37 x hj)
theorem cw_s38 (D : gw_D (40 + 4 * K) q) (x : Nat → Int32) : pm_up (cw A0 g K nn dn q w e v f) (q 38) (pm_ia g 30 x) = cw A0 g K nn dn q w (va_up e 38 x) v f := gw_up D (by omega) rfl (fun _ hj => cw_c_e 38 x hj)
theorem cw_s39 (D : gw_D (40 + 4 * K) q) (x : Nat → Int32) : pm_up (cw A0 g K nn dn q w e v f) (q 39) (pm_ia g 30 x) = cw A0 g K nn dn q w (va_up e 39 x) v f := gw_up D (by omega) rfl (fun _ hj => cw_c_e 39 x hj)
theorem cw_swr (D : gw_D (40 + 4 * K) q) {j : Nat} (hj : j < 9) (x : Nat → Int32) : pm_up (cw A0 g K nn dn q w e v f) (q (26 + j)) (pm_ia g 161 x) = cw A0 g K nn dn q w e v (va_up f (26 + j) x) := by
  refine gw_up D (by omega) ?_ (fun _ hj => cw_c_f _ x hj)
  rcases (show j = 0 ∨ j = 1 ∨ j = 2 ∨ j = 3 ∨ j = 4 ∨ j = 5 ∨ j = 6 ∨ j = 7 ∨ j = 8 by omega) with rfl | rfl | rfl | rfl | rfl | rfl | rfl | rfl | rfl <;> rfl
theorem cw_sr (D : gw_D (40 + 4 * K) q) {o : Nat} (ho : cw_ro K o) {k : Nat} (hk : 1 ≤ k ∧ k ≤ 3) (x : Nat → Int32) : pm_up (cw A0 g K nn dn q w e v f) (q (o + k)) (pm_ia g 160 x) = cw A0 g K nn dn q w (va_up e (o + k) x) v f := by
  obtain ⟨h1, h2, h3⟩ := ho
  refine gw_up D (by omega) ?_ (fun _ hj => cw_c_e _ x hj)
  unfold cw_c
  rw [if_neg (by omega), if_neg (by omega), if_neg (by omega)]
  simp [va_up]
theorem cw_sr_1 (D : gw_D (40 + 4 * K) q) {o : Nat} (ho : cw_ro K o) (x : Nat → Int32) : pm_up (cw A0 g K nn dn q w e v f) (q (o + 1)) (pm_ia g 160 x) = cw A0 g K nn dn q w (va_up e (o + 1) x) v f := cw_sr D ho (by omega) x
theorem cw_sr_2 (D : gw_D (40 + 4 * K) q) {o : Nat} (ho : cw_ro K o) (x : Nat → Int32) : pm_up (cw A0 g K nn dn q w e v f) (q (o + 2)) (pm_ia g 160 x) = cw A0 g K nn dn q w (va_up e (o + 2) x) v f := cw_sr D ho (by omega) x
theorem cw_sr_3 (D : gw_D (40 + 4 * K) q) {o : Nat} (ho : cw_ro K o) (x : Nat → Int32) : pm_up (cw A0 g K nn dn q w e v f) (q (o + 3)) (pm_ia g 160 x) = cw A0 g K nn dn q w (va_up e (o + 3) x) v f := cw_sr D ho (by omega) x
theorem cw_c_v {s o : Nat} (x : Int32) (hf : ∀ j, j < 12 → j ≠ o → cw_fix g K nn dn q w (upd v s x) j = cw_fix g K nn dn q w v j) {j : Nat} (hj : j ≠ o) : cw_c g K nn dn q w e (upd v s x) f j = cw_c g K nn dn q w e v f j := by
  unfold cw_c
  by_cases h : j < 12
  · rw [if_pos h, if_pos h, hf j h hj]
  · rw [if_neg h, if_neg h]
theorem cw_c_w {s o : Nat} (x : Int32) (hs : s < 4) (hf : ∀ j, j < 12 → j ≠ o → cw_fix g K nn dn q (upd w s x) v j = cw_fix g K nn dn q w v j) {j : Nat} (hj : j ≠ o) : cw_c g K nn dn q (upd w s x) e v f j = cw_c g K nn dn q w e v f j := by
  unfold cw_c
  by_cases h : j < 12
  · rw [if_pos h, if_pos h, hf j h hj]
  · rw [if_neg h, if_neg h]
    by_cases h2 : j < 40
    · rw [if_pos h2, if_pos h2]
    · rw [if_neg h2, if_neg h2]
      have e1 : upd w s x j = w j := pk_un (by omega)
      have e2 : upd w s x (j + 1) = w (j + 1) := pk_un (by omega)
      rw [e1, e2]
theorem cw_p_edits (D : gw_D (40 + 4 * K) q) (x : Int32) : pm_up (cw A0 g K nn dn q w e v f) (q 1) (pm_ob 9 (([.ref (q 10), .ref (q 12), .ref (q 13), .ref (q dn), .ref (q nn), .int (w 0), .int (w 1), .int (w 2)] : List Value).set 5 (.int x))) = cw A0 g K nn dn q (upd w 0 x) e v f := gw_up D (by omega) rfl (fun _ hj => cw_c_w x (by decide) (fun j h h2 => by
  rcases (show j = 0 ∨ j = 1 ∨ j = 2 ∨ j = 3 ∨ j = 4 ∨ j = 5 ∨ j = 6 ∨ j = 7 ∨ j = 8 ∨ j = 9 ∨ j = 10 ∨ j = 11 by omega) with rfl | rfl | rfl | rfl | rfl | rfl | rfl | rfl | rfl | rfl | rfl | rfl <;> first | rfl | exact absurd rfl h2) hj)
theorem cw_p_named (D : gw_D (40 + 4 * K) q) (x : Int32) : pm_up (cw A0 g K nn dn q w e v f) (q 1) (pm_ob 9 (([.ref (q 10), .ref (q 12), .ref (q 13), .ref (q dn), .ref (q nn), .int (w 0), .int (w 1), .int (w 2)] : List Value).set 6 (.int x))) = cw A0 g K nn dn q (upd w 1 x) e v f := gw_up D (by omega) rfl (fun _ hj => cw_c_w x (by decide) (fun j h h2 => by
  rcases (show j = 0 ∨ j = 1 ∨ j = 2 ∨ j = 3 ∨ j = 4 ∨ j = 5 ∨ j = 6 ∨ j = 7 ∨ j = 8 ∨ j = 9 ∨ j = 10 ∨ j = 11 by omega) with rfl | rfl | rfl | rfl | rfl | rfl | rfl | rfl | rfl | rfl | rfl | rfl <;> first | rfl | exact absurd rfl h2) hj)
theorem cw_p_touchedInAll (D : gw_D (40 + 4 * K) q) (x : Int32) : pm_up (cw A0 g K nn dn q w e v f) (q 1) (pm_ob 9 (([.ref (q 10), .ref (q 12), .ref (q 13), .ref (q dn), .ref (q nn), .int (w 0), .int (w 1), .int (w 2)] : List Value).set 7 (.int x))) = cw A0 g K nn dn q (upd w 2 x) e v f := gw_up D (by omega) rfl (fun _ hj => cw_c_w x (by decide) (fun j h h2 => by
  rcases (show j = 0 ∨ j = 1 ∨ j = 2 ∨ j = 3 ∨ j = 4 ∨ j = 5 ∨ j = 6 ∨ j = 7 ∨ j = 8 ∨ j = 9 ∨ j = 10 ∨ j = 11 by omega) with rfl | rfl | rfl | rfl | rfl | rfl | rfl | rfl | rfl | rfl | rfl | rfl <;> first | rfl | exact absurd rfl h2) hj)
theorem cw_p_length (D : gw_D (40 + 4 * K) q) (x : Int32) : pm_up (cw A0 g K nn dn q w e v f) (q 2) (pm_ob 2 (([.ref (q 14), .ref (q 15), .int (v 1), .int (v 2), .int (v 3), .int (v 4)] : List Value).set 2 (.int x))) = cw A0 g K nn dn q w e (upd v 1 x) f := gw_up D (by omega) rfl (fun _ hj => cw_c_v x (fun j h h2 => by
  rcases (show j = 0 ∨ j = 1 ∨ j = 2 ∨ j = 3 ∨ j = 4 ∨ j = 5 ∨ j = 6 ∨ j = 7 ∨ j = 8 ∨ j = 9 ∨ j = 10 ∨ j = 11 by omega) with rfl | rfl | rfl | rfl | rfl | rfl | rfl | rfl | rfl | rfl | rfl | rfl <;> first | rfl | exact absurd rfl h2) hj)
theorem cw_p_kinds (D : gw_D (40 + 4 * K) q) (x : Int32) : pm_up (cw A0 g K nn dn q w e v f) (q 2) (pm_ob 2 (([.ref (q 14), .ref (q 15), .int (v 1), .int (v 2), .int (v 3), .int (v 4)] : List Value).set 3 (.int x))) = cw A0 g K nn dn q w e (upd v 2 x) f := gw_up D (by omega) rfl (fun _ hj => cw_c_v x (fun j h h2 => by
  rcases (show j = 0 ∨ j = 1 ∨ j = 2 ∨ j = 3 ∨ j = 4 ∨ j = 5 ∨ j = 6 ∨ j = 7 ∨ j = 8 ∨ j = 9 ∨ j = 10 ∨ j = 11 by omega) with rfl | rfl | rfl | rfl | rfl | rfl | rfl | rfl | rfl | rfl | rfl | rfl <;> first | rfl | exact absurd rfl h2) hj)
end
