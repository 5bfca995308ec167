/-! since: from which edit on a name has the bond that it has now -/
theorem FST_n {m : Nat → Int32} {n r : Int} {x : Int32} (hn : 0 ≤ n) (h : FST m n x r) : r = nextEq m x 0 n.toNat := by
  rcases h with ⟨a, b⟩ | ⟨a, b, c, d⟩
  · rw [a, nextEq_m n.toNat 0 (fun i _ hi => b i (by omega))]
  · rw [nextEq_0 n.toNat 0 r.toNat (by omega) (by omega) c (fun i _ hi => d i (by omega))]; omega
