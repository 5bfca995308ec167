/-! how many colours from l to r: what grows with the span -/
def Kc (c : Nat → Int32) (l r : Int) : Int := (cntB (sS c l r) 24 : Int)
theorem Kc_0 (c : Nat → Int32) (l r : Int) : 0 ≤ Kc c l r ∧ Kc c l r ≤ 24 := by
  have := cntB_le (sS c l r) 24
  unfold Kc; omega
theorem Kc_eq {c d : Nat → Int32} {n l r : Int} (hc : ∀ j : Nat, (j : Int) < n → c j = d j) (h : 0 ≤ l ∧ r < n) : Kc c l r = Kc d l r := by
  unfold Kc; rw [sS_eq hc h]
theorem setF_p {c : Nat → Int32} {l p : Int} (h : 0 ≤ l ∧ l ≤ p) : setF c l.toNat (p - l).toNat ||| ((1 : Int32) <<< (c p.toNat &&& 31)) = setF c l.toNat (p + 1 - l).toNat := by
  rw [show (p + 1 - l).toNat = (p - l).toNat + 1 by omega, setF, show l.toNat + (p - l).toNat = p.toNat by omega]
theorem PAL_tk {v v1 k k1 W c : Nat → Int32} {l n : Int} {x : Nat} (h : PAL v k W (nc c l.toNat n.toNat) n) (h0 : 0 ≤ l ∧ 0 ≤ n ∧ n < 1000) (ht : ∀ N m, PAL v k W N m → m < 1000 → PAL v1 k1 W (upN N x) (m + 1)) (hx : x = (c (l + n).toNat).toInt.toNat) : PAL v1 k1 W (nc c l.toNat (n + 1).toNat) (n + 1) := by
  subst hx
  have b := ht _ _ h h0.2.2
  have e : nc c l.toNat (n + 1).toNat = upN (nc c l.toNat n.toNat) (c (l + n).toNat).toInt.toNat := by
    rw [show (n + 1).toNat = n.toNat + 1 by omega, nc, show l.toNat + n.toNat = (l + n).toNat by omega]
  rw [e]
  exact b
theorem PAL_K {v k W c : Nat → Int32} {l r n : Int} (hc : ok24 c) (h : PAL v k W (nc c l.toNat n.toNat) n) (hn : n = r + 1 - l) : (v 2).toInt = Kc c l r := by
  subst hn
  exact PAL_kd hc h
/-! the longest span of which something holds -/
