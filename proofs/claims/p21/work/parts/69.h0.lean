/-! sums over places -/
noncomputable def hE (c : Nat → Int32) (k : Int) (l r : Nat) : Int := if (l : Int) ≤ r ∧ Kc c l r ≤ k then 1 else 0