/-! bits counted; counts of a span's colours; the palette -/
theorem b_y1 {x c : Int32} (h : 0 ≤ c.toInt ∧ c.toInt ≤ 31) (hb : ((x >>> (c &&& 31)) &&& 1) = 1) : bt x c.toInt.toNat = true := b_y h (by rw [hb]; decide)
theorem msB_eq {W V : Nat → Int32} {x : Int32} : ∀ k, (∀ j, j < k → W j = V j) → msB W x k = msB V x k
  | 0, _ => rfl
  | k + 1, h => by rw [msB, msB, msB_eq k (fun j hj => h j (by omega)), h k (by omega)]
theorem PAL_ms {v k W c : Nat → Int32} {l j : Nat} {n : Int} (hc : ok24 c) (h : PAL v k W (nc c l j) n) : v 4 = msB W (setF c l j) 24 := by rw [← PAL_set hc h]; exact h.2.2.2.2.1
