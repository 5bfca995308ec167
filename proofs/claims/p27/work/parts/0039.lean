
def pm_okF (own nL : Nat) (isI : Bool) (ret : Option FieldType) (cc : ByteArray) (fin : Nat) : List UInt8 → Nat → List pm_Op → Bool
  | _, pc, [] => decide (pc = fin)
  | bs, pc, (ins, len, i, k, z) :: r => (fdq len bs ins || decide (decode cc pc = .ok (ins, len))) && ((pm_isTab ins || decide (len = pm_ln ins)) && (pm_rs own nL isI ret pc ins i k z && (pm_tm ins || pm_okF own nL isI ret cc fin (bs.drop len) (pc + len) r)))
theorem okF_ok {own nL : Nat} {isI : Bool} {ret : Option FieldType} {cc : ByteArray} {fin : Nat} : ∀ (pc : Nat) (ops : List pm_Op), pm_okF own nL isI ret cc fin (cc.data.toList.drop pc) pc ops = true → pm_ok own nL isI ret cc fin pc ops = true
  | _, [], h => h
  | pc, (ins, len, i, k, z) :: r, h => by
    have h1 := Bool.and_eq_true_iff.mp h
    have h2 := Bool.and_eq_true_iff.mp h1.2
    have h3 := Bool.and_eq_true_iff.mp h2.2
    have q1 : decode cc pc = .ok (ins, len) := by
      rcases Bool.or_eq_true_iff.mp h1.1 with a | a
      · exact fdq_ok a
      · exact of_decide_eq_true a
    have q2 : (pm_tm ins || pm_ok own nL isI ret cc fin (pc + len) r) = true := by
      rcases Bool.or_eq_true_iff.mp h3.2 with a | a
      · rw [a]; rfl
      · rw [List.drop_drop] at a
        rw [okF_ok (pc + len) r a, Bool.or_true]
    show (decide (decode cc pc = .ok (ins, len)) && ((pm_isTab ins || decide (len = pm_ln ins)) && (pm_rs own nL isI ret pc ins i k z && (pm_tm ins || pm_ok own nL isI ret cc fin (pc + len) r)))) = true
    rw [decide_eq_true q1, h2.1, h3.1, q2]
    rfl
theorem oksF_ok {own mx : Nat} {isI : Bool} {rt : Option FieldType} {cc : ByteArray} {b : pm_B} (h : b.all (fun q => pm_okF own mx isI rt cc q.2.2 (cc.data.toList.drop q.1) q.1 q.2.1) = true) : pm_oks own isI mx rt cc b = true := List.all_eq_true.mpr (fun q hq => okF_ok q.1 q.2.1 (List.all_eq_true.mp h q hq))

