
def md_fs (q : Nat → Nat) (v : Nat → Int32) : List Value := [.ref (q 0), .ref (q 1), .ref (q 2), .ref (q 3), .ref (q 4), .ref (q 5), .ref (q 6), .int (v 0), .int (v 1), .int (v 2), .int (v 3), .int (v 4), .int (v 5), .ref (q 7), .ref (q 8), .ref (q 9), .ref (q 10), .int (v 6), .ref (q 11), .ref (q 12), .ref (q 13), .ref (q 14), .ref (q 15), .ref (q 16), .int (v 7), .ref (q 17), .ref (q 18), .ref (q 19)]
def md_ln (i : Nat) : Nat := ([160, 160, 24, 160, 160, 160, 160, 30, 30, 30, 30, 30, 6400, 6400, 40, 40, 24, 160, 1449, 1449] : List Nat).getD i 0
def md (A0 : pm_H) (g : pm_G) (h : Nat) (q : Nat → Nat) (v : Nat → Int32) (f : Nat → Nat → Int32) : pm_H := fun a => if a = h then some (pm_ob 11 (md_fs q v)) else match (List.range 20).find? (fun i => decide (a = q i)) with
  | some i => some (pm_ia g (md_ln i) (f i))
  | none => A0 a
def md_D (h : Nat) (q : Nat → Nat) : Prop := (∀ i j, i < 20 → j < 20 → q i = q j → i = j) ∧ ∀ i, i < 20 → q i ≠ h
