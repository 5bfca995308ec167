
theorem pm_neg (x : Int32) (h : -2147483647 ≤ x.toInt) : (-x).toInt = - x.toInt := by
  have h2 := pm_rng x
  rw [Int32.toInt_neg]
  exact Int.bmod_eq_of_le (by omega) (by omega)
theorem pm_up_id {A : pm_H} {a : Nat} {e : va_E} (h : A a = some e) : pm_up A a e = A := by
  funext q
  by_cases hq : q = a
  · subst hq; rw [pm_up_s, h]
  · rw [pm_up_n hq]
theorem pm_up_up {A : pm_H} {a : Nat} {e e' : va_E} : pm_up (pm_up A a e) a e' = pm_up A a e' := by
  funext q
  by_cases hq : q = a
  · subst hq; rw [pm_up_s, pm_up_s]
  · rw [pm_up_n hq, pm_up_n hq, pm_up_n hq]
theorem pm_xor0 (x y : Int32) (hx : 0 ≤ x.toInt) (hy : 0 ≤ y.toInt) : 0 ≤ (x ^^^ y).toInt := by
  have h1 : x.toBitVec.msb = false := by rw [BitVec.msb_eq_toInt]; exact decide_eq_false (by show ¬ x.toInt < 0; omega)
  have h2 : y.toBitVec.msb = false := by rw [BitVec.msb_eq_toInt]; exact decide_eq_false (by show ¬ y.toInt < 0; omega)
  have h3 : (x ^^^ y).toBitVec.msb = false := by rw [Int32.toBitVec_xor, BitVec.msb_xor, h1, h2]; rfl
  rw [BitVec.msb_eq_toInt] at h3
  have h4 := of_decide_eq_false h3
  have h5 : ¬ (x ^^^ y).toInt < 0 := h4
  omega
