
def bd (n : Int32) (c a : Nat → Int32) : Prop := ∀ j : Nat, (j : Int) < n.toInt → (a j).toInt = lastEq c (c j) j
theorem bd_fr {n n2 : Int32} {c a c2 a2 : Nat → Int32} (h : bd n c a) (h2 : n2.toInt = n.toInt) (hc : c2 = c) (ha : a2 = a) : bd n2 c2 a2 := by
  subst hc; subst ha
  exact fun j hj => h j (by omega)

