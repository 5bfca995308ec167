
theorem rc_s {n : Int32} {c m : Nat → Int32} {L : List pl_P} (hL : rp n c m L) {l r z : Int} {h : Int32 → Int32} (h1 : 0 ≤ l) (h2 : l ≤ r + 1) (h3 : r < (L.length : Int)) (hz : 0 ≤ z) (hz2 : z < (L.length : Int)) : rc_p L l r h (z + 1) = rc_p L l r h z ++ [(if l ≤ z ∧ z ≤ r then h (c z.toNat) else c z.toNat, m z.toNat)] := by
  unfold rc_p
  by_cases a1 : z < l
  · rw [if_pos (show z + 1 ≤ l by omega), if_pos (show z ≤ l by omega), if_pos (show z + 1 ≤ r + 1 by omega), if_pos (show z ≤ r + 1 by omega), if_neg (by omega), si_s hL (a := 0) (z := z) (by omega) (by omega) hz2, si_n (L := L) (a := l) (b := z + 1) (by omega), si_n (L := L) (a := l) (b := z) (by omega), si_n (L := L) (a := r + 1) (b := z + 1) (by omega), si_n (L := L) (a := r + 1) (b := z) (by omega)]
    simp
  · by_cases a2 : z ≤ r
    · have e1 : (if z ≤ l then z else l) = l := by split <;> omega
      rw [e1, if_neg (show ¬ z + 1 ≤ l by omega), if_pos (show z + 1 ≤ r + 1 by omega), if_pos (show z ≤ r + 1 by omega), if_pos (show l ≤ z ∧ z ≤ r from ⟨by omega, a2⟩), si_s hL (a := l) (z := z) h1 (by omega) hz2, si_n (L := L) (a := r + 1) (b := z + 1) (by omega), si_n (L := L) (a := r + 1) (b := z) (by omega)]
      simp
    · rw [if_neg (show ¬ z + 1 ≤ l by omega), if_neg (show ¬ z + 1 ≤ r + 1 by omega), if_neg (show ¬ (l ≤ z ∧ z ≤ r) by omega), si_s hL (a := r + 1) (z := z) (by omega) (by omega) hz2]
      have e1 : (if z ≤ l then z else l) = l := by split <;> omega
      have e2 : (if z ≤ r + 1 then z else r + 1) = r + 1 := by split <;> omega
      rw [e1, e2, List.append_assoc, List.append_assoc, List.append_assoc]
theorem rc_all (L : List pl_P) (h : Int32 → Int32) : rc_l L 0 (L.length - 1) h = L.map (fun p => (h p.1, p.2)) := by
  unfold rc_l
  rw [show (L.length : Int) - 1 + 1 = L.length by omega, si_all, si_n (L := L) (a := 0) (b := 0) (by omega), si_n (L := L) (a := L.length) (b := L.length) (by omega)]
  simp

