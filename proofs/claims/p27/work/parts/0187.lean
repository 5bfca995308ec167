section
variable {A0 : pm_H} {g : pm_G} {K nn dn : Nat} {q : Nat → Nat} {w : Nat → Int32} {e : Nat → Nat → Int32} {v : Nat → Int32} {f : Nat → Nat → Int32}
theorem cw_p_draft (D : gw_D (40 + 4 * K) q) (o : Nat) : pm_up (cw A0 g K nn dn q w e v f) (q 1) (pm_ob 9 (([.ref (q 10), .ref (q 12), .ref (q 13), .ref (q dn), .ref (q nn), .int (w 0), .int (w 1), .int (w 2)] : List Value).set 3 (.ref (q o)))) = cw A0 g K nn o q w e v f := gw_up D (by omega) rfl (fun j hj => by
  unfold cw_c
  by_cases h : j < 12
  · rw [if_pos h, if_pos h]
    rcases (show j = 0 ∨ j = 1 ∨ j = 2 ∨ j = 3 ∨ j = 4 ∨ j = 5 ∨ j = 6 ∨ j = 7 ∨ j = 8 ∨ j = 9 ∨ j = 10 ∨ j = 11 by omega) with rfl | rfl | rfl | rfl | rfl | rfl | rfl | rfl | rfl | rfl | rfl | rfl <;> first | rfl | exact absurd rfl hj
  · rw [if_neg h, if_neg h])
theorem cw_p_now (D : gw_D (40 + 4 * K) q) (o : Nat) : pm_up (cw A0 g K nn dn q w e v f) (q 1) (pm_ob 9 (([.ref (q 10), .ref (q 12), .ref (q 13), .ref (q dn), .ref (q nn), .int (w 0), .int (w 1), .int (w 2)] : List Value).set 4 (.ref (q o)))) = cw A0 g K o dn q w e v f := gw_up D (by omega) rfl (fun j hj => by
  unfold cw_c
  by_cases h : j < 12
  · rw [if_pos h, if_pos h]
    rcases (show j = 0 ∨ j = 1 ∨ j = 2 ∨ j = 3 ∨ j = 4 ∨ j = 5 ∨ j = 6 ∨ j = 7 ∨ j = 8 ∨ j = 9 ∨ j = 10 ∨ j = 11 by omega) with rfl | rfl | rfl | rfl | rfl | rfl | rfl | rfl | rfl | rfl | rfl | rfl <;> first | rfl | exact absurd rfl hj
  · rw [if_neg h, if_neg h])
theorem cw_p_size (D : gw_D (40 + 4 * K) q) {o : Nat} (ho : cw_ro K o) (x : Int32) : pm_up (cw A0 g K nn dn q w e v f) (q o) (pm_ob 7 (([.ref (q (o + 1)), .ref (q (o + 2)), .ref (q (o + 3)), .int (w o), .int (w (o + 1))] : List Value).set 3 (.int x))) = cw A0 g K nn dn q (upd w o x) e v f := by
  obtain ⟨h1, h2, h3⟩ := ho
  refine gw_up D h2 ?_ (fun j hj => ?_)
  · unfold cw_c
    rw [if_neg (by omega), if_neg (by omega), if_pos h3]
    simp [upd]
  · unfold cw_c
    by_cases h : j < 12
    · rw [if_pos h, if_pos h]
      have e0 : upd w o x 0 = w 0 := pk_un (by omega)
      have e1 : upd w o x 1 = w 1 := pk_un (by omega)
      have e2 : upd w o x 2 = w 2 := pk_un (by omega)
      have e3 : upd w o x 3 = w 3 := pk_un (by omega)
      rcases (show j = 0 ∨ j = 1 ∨ j = 2 ∨ j = 3 ∨ j = 4 ∨ j = 5 ∨ j = 6 ∨ j = 7 ∨ j = 8 ∨ j = 9 ∨ j = 10 ∨ j = 11 by omega) with rfl | rfl | rfl | rfl | rfl | rfl | rfl | rfl | rfl | rfl | rfl | rfl <;> first | rfl | (simp only [cw_fix, e0, e1, e2, e3])
    · rw [if_neg h, if_neg h]
      by_cases h4 : j < 40
      · rw [if_pos h4, if_pos h4]
      · rw [if_neg h4, if_neg h4]
        by_cases h5 : j % 4 = 0
        · rw [if_pos h5, if_pos h5]
          have e1 : upd w o x j = w j := pk_un (by omega)
          have e2 : upd w o x (j + 1) = w (j + 1) := pk_un (by omega)
          rw [e1, e2]
        · rw [if_neg h5, if_neg h5]
theorem cw_p_touches (D : gw_D (40 + 4 * K) q) {o : Nat} (ho : cw_ro K o) (x : Int32) : pm_up (cw A0 g K nn dn q w e v f) (q o) (pm_ob 7 (([.ref (q (o + 1)), .ref (q (o + 2)), .ref (q (o + 3)), .int (w o), .int (w (o + 1))] : List Value).set 4 (.int x))) = cw A0 g K nn dn q (upd w (o + 1) x) e v f := by
  obtain ⟨h1, h2, h3⟩ := ho
  refine gw_up D h2 ?_ (fun j hj => ?_)
  · unfold cw_c
    rw [if_neg (by omega), if_neg (by omega), if_pos h3]
    simp [upd]
  · unfold cw_c
    by_cases h : j < 12
    · rw [if_pos h, if_pos h]
      have e0 : upd w (o + 1) x 0 = w 0 := pk_un (by omega)
      have e1 : upd w (o + 1) x 1 = w 1 := pk_un (by omega)
      have e2 : upd w (o + 1) x 2 = w 2 := pk_un (by omega)
      have e3 : upd w (o + 1) x 3 = w 3 := pk_un (by omega)
      rcases (show j = 0 ∨ j = 1 ∨ j = 2 ∨ j = 3 ∨ j = 4 ∨ j = 5 ∨ j = 6 ∨ j = 7 ∨ j = 8 ∨ j = 9 ∨ j = 10 ∨ j = 11 by omega) with rfl | rfl | rfl | rfl | rfl | rfl | rfl | rfl | rfl | rfl | rfl | rfl <;> first | rfl | (simp only [cw_fix, e0, e1, e2, e3])
    · rw [if_neg h, if_neg h]
      by_cases h4 : j < 40
      · rw [if_pos h4, if_pos h4]
      · rw [if_neg h4, if_neg h4]
        by_cases h5 : j % 4 = 0
        · rw [if_pos h5, if_pos h5]
          have e1 : upd w (o + 1) x j = w j := pk_un (by omega)
          have e2 : upd w (o + 1) x (j + 1) = w (j + 1) := pk_un (by omega)
          rw [e1, e2]
        · rw [if_neg h5, if_neg h5]
end
