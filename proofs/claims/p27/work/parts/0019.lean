
def pm_ok (own nL : Nat) (isI : Bool) (ret : Option FieldType) (cc : ByteArray) (fin : Nat) : Nat → List pm_Op → Bool
  | pc, [] => decide (pc = fin)
  | pc, (ins, len, i, k, z) :: r => decide (decode cc pc = .ok (ins, len)) && ((pm_isTab ins || decide (len = pm_ln ins)) && (pm_rs own nL isI ret pc ins i k z && (pm_tm ins || pm_ok own nL isI ret cc fin (pc + len) r)))
def pm_rk (ret : Option FieldType) (ins : Instr) (v : Option Value) : Prop :=
  (ins = .ireturn ∧ ∃ x : Int32, v = some (.int x) ∧ (ret = some .int ∨ (ret = some .boolean ∧ (x = 0 ∨ x = 1)))) ∨ (ins = .lreturn ∧ ret = some .long ∧ ∃ x : Int64, v = some (.long x)) ∨ (ins = .areturn ∧ (∃ n, ret = some (.object n)) ∧ ∃ w : Value, v = some w ∧ (w = .null ∨ ∃ a, w = .ref a)) ∨ (ins = .return_ ∧ ret = none ∧ v = none)
