section
variable {A0 : pm_H} {g : pm_G} {h : Nat} {q : Nat → Nat} {v : Nat → Int32} {f : Nat → Nat → Int32}
theorem md_o : md A0 g h q v f h = some (pm_ob 11 (md_fs q v)) := if_pos rfl
theorem md_find (D : md_D h q) {i : Nat} (hi : i < 20) : (List.range 20).find? (fun j => decide (q i = q j)) = some i := by
  cases hx : (List.range 20).find? (fun j => decide (q i = q j)) with
  | none =>
    have := List.find?_eq_none.mp hx i (List.mem_range.mpr hi)
    simp at this
  | some j =>
    have h1 := List.find?_some hx
    have h2 := List.mem_range.mp (List.mem_of_find?_eq_some hx)
    have h3 : q i = q j := by simpa using h1
    rw [D.1 i j hi h2 h3]
theorem md_a (D : md_D h q) {i : Nat} (hi : i < 20) : md A0 g h q v f (q i) = some (pm_ia g (md_ln i) (f i)) := by
  unfold md
  rw [if_neg (D.2 i hi), md_find D hi]
theorem md_st (D : md_D h q) {i : Nat} (hi : i < 20) (x : Nat → Int32) : pm_up (md A0 g h q v f) (q i) (pm_ia g (md_ln i) x) = md A0 g h q v (va_up f i x) := by
  funext a
  by_cases ha : a = q i
  · subst ha
    rw [pm_up_s, md_a D hi]
    simp [va_up]
  · rw [pm_up_n ha]
    unfold md
    by_cases hh : a = h
    · rw [if_pos hh, if_pos hh]
    · rw [if_neg hh, if_neg hh]
      cases hx : (List.range 20).find? (fun j => decide (a = q j)) with
      | none => rfl
      | some j =>
        have h3 : a = q j := by simpa using List.find?_some hx
        have hj : j ≠ i := fun e => ha (by rw [h3, e])
        simp [va_up, hj]
theorem md_pt (D : md_D h q) {v' : Nat → Int32} {fs : List Value} (e : fs = md_fs q v') : pm_up (md A0 g h q v f) h (pm_ob 11 fs) = md A0 g h q v' f := by
  subst e
  funext a
  by_cases ha : a = h
  · subst ha
    rw [pm_up_s, md_o]
  · rw [pm_up_n ha]
    unfold md
    rw [if_neg ha, if_neg ha]
theorem md_a_colours (D : md_D h q) : md A0 g h q v f (q 0) = some (pm_ia g 160 (f 0)) := md_a D (i := 0) (by decide)
theorem md_s_colours (D : md_D h q) (x : Nat → Int32) : pm_up (md A0 g h q v f) (q 0) (pm_ia g 160 x) = md A0 g h q v (va_up f 0 x) := md_st D (i := 0) (by decide) x
theorem md_a_names (D : md_D h q) : md A0 g h q v f (q 1) = some (pm_ia g 160 (f 1)) := md_a D (i := 1) (by decide)
theorem md_s_names (D : md_D h q) (x : Nat → Int32) : pm_up (md A0 g h q v f) (q 1) (pm_ia g 160 x) = md A0 g h q v (va_up f 1 x) := md_st D (i := 1) (by decide) x
theorem md_a_weights (D : md_D h q) : md A0 g h q v f (q 2) = some (pm_ia g 24 (f 2)) := md_a D (i := 2) (by decide)
theorem md_s_weights (D : md_D h q) (x : Nat → Int32) : pm_up (md A0 g h q v f) (q 2) (pm_ia g 24 x) = md A0 g h q v (va_up f 2 x) := md_st D (i := 2) (by decide) x
theorem md_a_oldNames (D : md_D h q) : md A0 g h q v f (q 3) = some (pm_ia g 160 (f 3)) := md_a D (i := 3) (by decide)
theorem md_s_oldNames (D : md_D h q) (x : Nat → Int32) : pm_up (md A0 g h q v f) (q 3) (pm_ia g 160 x) = md A0 g h q v (va_up f 3 x) := md_st D (i := 3) (by decide) x
theorem md_a_oldBonds (D : md_D h q) : md A0 g h q v f (q 4) = some (pm_ia g 160 (f 4)) := md_a D (i := 4) (by decide)
theorem md_s_oldBonds (D : md_D h q) (x : Nat → Int32) : pm_up (md A0 g h q v f) (q 4) (pm_ia g 160 x) = md A0 g h q v (va_up f 4 x) := md_st D (i := 4) (by decide) x
theorem md_a_nextColours (D : md_D h q) : md A0 g h q v f (q 5) = some (pm_ia g 160 (f 5)) := md_a D (i := 5) (by decide)
theorem md_s_nextColours (D : md_D h q) (x : Nat → Int32) : pm_up (md A0 g h q v f) (q 5) (pm_ia g 160 x) = md A0 g h q v (va_up f 5 x) := md_st D (i := 5) (by decide) x
theorem md_a_nextNames (D : md_D h q) : md A0 g h q v f (q 6) = some (pm_ia g 160 (f 6)) := md_a D (i := 6) (by decide)
theorem md_s_nextNames (D : md_D h q) (x : Nat → Int32) : pm_up (md A0 g h q v f) (q 6) (pm_ia g 160 x) = md A0 g h q v (va_up f 6 x) := md_st D (i := 6) (by decide) x
theorem md_a_askedOne (D : md_D h q) : md A0 g h q v f (q 7) = some (pm_ia g 30 (f 7)) := md_a D (i := 7) (by decide)
theorem md_s_askedOne (D : md_D h q) (x : Nat → Int32) : pm_up (md A0 g h q v f) (q 7) (pm_ia g 30 x) = md A0 g h q v (va_up f 7 x) := md_st D (i := 7) (by decide) x
theorem md_a_askedOther (D : md_D h q) : md A0 g h q v f (q 8) = some (pm_ia g 30 (f 8)) := md_a D (i := 8) (by decide)
theorem md_s_askedOther (D : md_D h q) (x : Nat → Int32) : pm_up (md A0 g h q v f) (q 8) (pm_ia g 30 x) = md A0 g h q v (va_up f 8 x) := md_st D (i := 8) (by decide) x
theorem md_a_answerCount (D : md_D h q) : md A0 g h q v f (q 9) = some (pm_ia g 30 (f 9)) := md_a D (i := 9) (by decide)
theorem md_s_answerCount (D : md_D h q) (x : Nat → Int32) : pm_up (md A0 g h q v f) (q 9) (pm_ia g 30 x) = md A0 g h q v (va_up f 9 x) := md_st D (i := 9) (by decide) x
theorem md_a_answerWeight (D : md_D h q) : md A0 g h q v f (q 10) = some (pm_ia g 30 (f 10)) := md_a D (i := 10) (by decide)
theorem md_s_answerWeight (D : md_D h q) (x : Nat → Int32) : pm_up (md A0 g h q v f) (q 10) (pm_ia g 30 x) = md A0 g h q v (va_up f 10 x) := md_st D (i := 10) (by decide) x
theorem md_a_askedEdit (D : md_D h q) : md A0 g h q v f (q 11) = some (pm_ia g 30 (f 11)) := md_a D (i := 11) (by decide)
theorem md_s_askedEdit (D : md_D h q) (x : Nat → Int32) : pm_up (md A0 g h q v f) (q 11) (pm_ia g 30 x) = md A0 g h q v (va_up f 11 x) := md_st D (i := 11) (by decide) x
theorem md_a_wasColours (D : md_D h q) : md A0 g h q v f (q 12) = some (pm_ia g 6400 (f 12)) := md_a D (i := 12) (by decide)
theorem md_s_wasColours (D : md_D h q) (x : Nat → Int32) : pm_up (md A0 g h q v f) (q 12) (pm_ia g 6400 x) = md A0 g h q v (va_up f 12 x) := md_st D (i := 12) (by decide) x
theorem md_a_wasNames (D : md_D h q) : md A0 g h q v f (q 13) = some (pm_ia g 6400 (f 13)) := md_a D (i := 13) (by decide)
theorem md_s_wasNames (D : md_D h q) (x : Nat → Int32) : pm_up (md A0 g h q v f) (q 13) (pm_ia g 6400 x) = md A0 g h q v (va_up f 13 x) := md_st D (i := 13) (by decide) x
theorem md_a_wasMany (D : md_D h q) : md A0 g h q v f (q 14) = some (pm_ia g 40 (f 14)) := md_a D (i := 14) (by decide)
theorem md_s_wasMany (D : md_D h q) (x : Nat → Int32) : pm_up (md A0 g h q v f) (q 14) (pm_ia g 40 x) = md A0 g h q v (va_up f 14 x) := md_st D (i := 14) (by decide) x
theorem md_a_wasTouched (D : md_D h q) : md A0 g h q v f (q 15) = some (pm_ia g 40 (f 15)) := md_a D (i := 15) (by decide)
theorem md_s_wasTouched (D : md_D h q) (x : Nat → Int32) : pm_up (md A0 g h q v f) (q 15) (pm_ia g 40 x) = md A0 g h q v (va_up f 15 x) := md_st D (i := 15) (by decide) x
theorem md_a_row (D : md_D h q) : md A0 g h q v f (q 16) = some (pm_ia g 24 (f 16)) := md_a D (i := 16) (by decide)
theorem md_s_row (D : md_D h q) (x : Nat → Int32) : pm_up (md A0 g h q v f) (q 16) (pm_ia g 24 x) = md A0 g h q v (va_up f 16 x) := md_st D (i := 16) (by decide) x
theorem md_a_gaps (D : md_D h q) : md A0 g h q v f (q 17) = some (pm_ia g 160 (f 17)) := md_a D (i := 17) (by decide)
theorem md_s_gaps (D : md_D h q) (x : Nat → Int32) : pm_up (md A0 g h q v f) (q 17) (pm_ia g 160 x) = md A0 g h q v (va_up f 17 x) := md_st D (i := 17) (by decide) x
theorem md_a_worth (D : md_D h q) : md A0 g h q v f (q 18) = some (pm_ia g 1449 (f 18)) := md_a D (i := 18) (by decide)
theorem md_s_worth (D : md_D h q) (x : Nat → Int32) : pm_up (md A0 g h q v f) (q 18) (pm_ia g 1449 x) = md A0 g h q v (va_up f 18 x) := md_st D (i := 18) (by decide) x
theorem md_a_ends0 (D : md_D h q) : md A0 g h q v f (q 19) = some (pm_ia g 1449 (f 19)) := md_a D (i := 19) (by decide)
theorem md_s_ends0 (D : md_D h q) (x : Nat → Int32) : pm_up (md A0 g h q v f) (q 19) (pm_ia g 1449 x) = md A0 g h q v (va_up f 19 x) := md_st D (i := 19) (by decide) x
theorem md_p_many (D : md_D h q) (x : Int32) : pm_up (md A0 g h q v f) h (pm_ob 11 ((md_fs q v).set 7 (.int x))) = md A0 g h q (upd v 0 x) f := md_pt D rfl
theorem md_p_oldMany (D : md_D h q) (x : Int32) : pm_up (md A0 g h q v f) h (pm_ob 11 ((md_fs q v).set 8 (.int x))) = md A0 g h q (upd v 1 x) f := md_pt D rfl
theorem md_p_nextMany (D : md_D h q) (x : Int32) : pm_up (md A0 g h q v f) h (pm_ob 11 ((md_fs q v).set 9 (.int x))) = md A0 g h q (upd v 2 x) f := md_pt D rfl
theorem md_p_given (D : md_D h q) (x : Int32) : pm_up (md A0 g h q v f) h (pm_ob 11 ((md_fs q v).set 10 (.int x))) = md A0 g h q (upd v 3 x) f := md_pt D rfl
end
