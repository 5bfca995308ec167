
theorem PAL_t1 {v v1 v2 v3 v4 k k1 W : Nat → Int32} {m6 m18 m36 m63 c : Int32} (hc : 0 ≤ c.toInt ∧ c.toInt ≤ 23) (e7 : v1 = upd v 1 m6) (e6 : m6 = v 1 + 1) (e19 : k1 = upd k c.toInt.toNat m18) (e18 : m18 = k c.toInt.toNat + 1) (d : (k1 c.toInt.toNat).toInt = 1) (e37 : v2 = upd v1 2 m36) (e36 : m36 = v1 2 + 1) (e49 : v3 = upd v2 3 (v2 3 ||| ((1 : Int32) <<< (c &&& 31)))) (e64 : v4 = upd v3 4 m63) (e63 : m63 = v3 4 + W c.toInt.toNat) : (∀ N n, PAL v k W N n → n < 1000 → PAL v4 k1 W (upN N c.toInt.toNat) (n + 1)) ∧ (∀ i, i = 0 ∨ 5 ≤ i → v4 i = v i) := by
  have a2 : v1 2 = v 2 := by rw [e7, pk_un (by decide)]
  have a3 : v2 3 = v 3 := by rw [e37, pk_un (by decide), e7, pk_un (by decide)]
  have a4 : v3 4 = v 4 := by rw [e49, pk_un (by decide), e37, pk_un (by decide), e7, pk_un (by decide)]
  refine ⟨fun N n h hn => ?_, fun i hi => by rw [e64, pk_un (by omega), e49, pk_un (by omega), e37, pk_un (by omega), e7, pk_un (by omega)]⟩
  have h1 := h
  obtain ⟨p1, p2, p3, p4, p5, p6, p7, p8⟩ := h1
  have q1 := p1 c.toInt.toNat (by omega)
  have q2 := p6 c.toInt.toNat
  have q3 := cntB_le (v 3) 24
  have q4 := p6 0
  refine PAL_new h hc hn (fun x hx => by rw [e19, pk_un hx]) (by rw [e19, pk_us, e18]; exact pm_addc _ _ 1 rfl (by omega) (by omega)) d ?_ ?_ ?_ ?_
  · rw [e64, pk_un (by decide), e49, pk_un (by decide), e37, pk_un (by decide), e7, pk_us, e6]; exact pm_addc _ _ 1 rfl (by omega) (by omega)
  · rw [e64, pk_un (by decide), e49, pk_un (by decide), e37, pk_us, e36, a2]; exact pm_addc _ _ 1 rfl (by omega) (by omega)
  · rw [e64, pk_un (by decide), e49, pk_us, a3]
  · rw [e64, pk_us, e63, a4]
theorem PAL_t2 {v v1 k k1 W : Nat → Int32} {m6 m18 c : Int32} (hc : 0 ≤ c.toInt ∧ c.toInt ≤ 23) (e7 : v1 = upd v 1 m6) (e6 : m6 = v 1 + 1) (e19 : k1 = upd k c.toInt.toNat m18) (e18 : m18 = k c.toInt.toNat + 1) (d : ¬ (k1 c.toInt.toNat).toInt = 1) : (∀ N n, PAL v k W N n → n < 1000 → PAL v1 k1 W (upN N c.toInt.toNat) (n + 1)) ∧ (∀ i, i = 0 ∨ 5 ≤ i → v1 i = v i) := by
  refine ⟨fun N n h hn => ?_, fun i hi => by rw [e7, pk_un (by omega)]⟩
  have h1 := h
  obtain ⟨p1, p2, p3, p4, p5, p6, p7, p8⟩ := h1
  have q1 := p1 c.toInt.toNat (by omega)
  have q2 := p6 c.toInt.toNat
  have q4 := p6 0
  refine PAL_old h hc hn (fun x hx => by rw [e19, pk_un hx]) (by rw [e19, pk_us, e18]; exact pm_addc _ _ 1 rfl (by omega) (by omega)) d ?_ ?_ ?_ ?_
  · rw [e7, pk_us, e6]; exact pm_addc _ _ 1 rfl (by omega) (by omega)
  · rw [e7, pk_un (by decide)]
  · rw [e7, pk_un (by decide)]
  · rw [e7, pk_un (by decide)]
theorem PAL_set {v k W c : Nat → Int32} {l j : Nat} {n : Int} (hc : ok24 c) (h : PAL v k W (nc c l j) n) : v 3 = setF c l j := b_ext (fun i hi => by rw [h.2.2.2.1 i hi, bt_set hc hi])
def sS (c : Nat → Int32) (l r : Int) : Int32 := setF c l.toNat (r + 1 - l).toNat
theorem sS_eq {c d : Nat → Int32} {n l r : Int} (hc : ∀ j : Nat, (j : Int) < n → c j = d j) (h : 0 ≤ l ∧ r < n) : sS c l r = sS d l r := setF_eq _ (fun j hi hj => hc j (by omega))
