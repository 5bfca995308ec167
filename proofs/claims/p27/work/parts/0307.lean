
theorem al_upm {g : pm_G} {A : pm_H} {L : List (Nat × va_E)} {a : Nat} {r : Nat → Nat} (h3 : ∀ j, j < 9 → r j ≠ a) (h4 : ∀ x y, x < 9 → y < 9 → r x = r y → x = y) : pm_upm g (al A L) a r 9 161 = al A ((r 8, pm_ia g 161 (fun _ => 0)) :: (r 7, pm_ia g 161 (fun _ => 0)) :: (r 6, pm_ia g 161 (fun _ => 0)) :: (r 5, pm_ia g 161 (fun _ => 0)) :: (r 4, pm_ia g 161 (fun _ => 0)) :: (r 3, pm_ia g 161 (fun _ => 0)) :: (r 2, pm_ia g 161 (fun _ => 0)) :: (r 1, pm_ia g 161 (fun _ => 0)) :: (r 0, pm_ia g 161 (fun _ => 0)) :: (a, pm_ma g 9 (fun j => if j < 9 then some (r j) else none)) :: L) := by
  funext q
  show pm_upm g (al A L) a r 9 161 q = pm_up (pm_up (pm_up (pm_up (pm_up (pm_up (pm_up (pm_up (pm_up (pm_up (al A L) a _) (r 0) _) (r 1) _) (r 2) _) (r 3) _) (r 4) _) (r 5) _) (r 6) _) (r 7) _) (r 8) _ q
  unfold pm_upm
  by_cases ha : q = a
  · rw [if_pos ha]
    subst ha
    rw [pm_up_n (h3 8 (by decide)).symm, pm_up_n (h3 7 (by decide)).symm, pm_up_n (h3 6 (by decide)).symm, pm_up_n (h3 5 (by decide)).symm, pm_up_n (h3 4 (by decide)).symm, pm_up_n (h3 3 (by decide)).symm, pm_up_n (h3 2 (by decide)).symm, pm_up_n (h3 1 (by decide)).symm, pm_up_n (h3 0 (by decide)).symm, pm_up_s]
  · rw [if_neg ha]
    by_cases hj : ∃ j, j < 9 ∧ q = r j
    · rw [if_pos hj]
      obtain ⟨j, hj9, rfl⟩ := hj
      unfold pm_up
      by_cases e8 : r j = r 8
      · rw [if_pos e8]
      · rw [if_neg e8]
        by_cases e7 : r j = r 7
        · rw [if_pos e7]
        · rw [if_neg e7]
          by_cases e6 : r j = r 6
          · rw [if_pos e6]
          · rw [if_neg e6]
            by_cases e5 : r j = r 5
            · rw [if_pos e5]
            · rw [if_neg e5]
              by_cases e4 : r j = r 4
              · rw [if_pos e4]
              · rw [if_neg e4]
                by_cases e3 : r j = r 3
                · rw [if_pos e3]
                · rw [if_neg e3]
                  by_cases e2 : r j = r 2
                  · rw [if_pos e2]
                  · rw [if_neg e2]
                    by_cases e1 : r j = r 1
                    · rw [if_pos e1]
                    · rw [if_neg e1]
                      by_cases e0 : r j = r 0
                      · rw [if_pos e0]
                      · exfalso
                        rcases (show j = 0 ∨ j = 1 ∨ j = 2 ∨ j = 3 ∨ j = 4 ∨ j = 5 ∨ j = 6 ∨ j = 7 ∨ j = 8 by omega) with rfl | rfl | rfl | rfl | rfl | rfl | rfl | rfl | rfl
                        · exact e0 rfl
                        · exact e1 rfl
                        · exact e2 rfl
                        · exact e3 rfl
                        · exact e4 rfl
                        · exact e5 rfl
                        · exact e6 rfl
                        · exact e7 rfl
                        · exact e8 rfl
    · rw [if_neg hj]
      have hq : ∀ j, j < 9 → q ≠ r j := fun j h9 e9 => hj ⟨j, h9, e9⟩
      rw [pm_up_n (hq 8 (by decide)), pm_up_n (hq 7 (by decide)), pm_up_n (hq 6 (by decide)), pm_up_n (hq 5 (by decide)), pm_up_n (hq 4 (by decide)), pm_up_n (hq 3 (by decide)), pm_up_n (hq 2 (by decide)), pm_up_n (hq 1 (by decide)), pm_up_n (hq 0 (by decide)), pm_up_n ha]
