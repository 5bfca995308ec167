
theorem PAL_new {v v2 k k2 W : Nat → Int32} {N : Nat → Nat} {n : Int} {c : Int32} (h : PAL v k W N n) (hc : 0 ≤ c.toInt ∧ c.toInt ≤ 23) (hn : n < 1000) (hk0 : ∀ x, x ≠ c.toInt.toNat → k2 x = k x) (hk : (k2 c.toInt.toNat).toInt = (k c.toInt.toNat).toInt + 1) (h0 : (k2 c.toInt.toNat).toInt = 1) (h1 : (v2 1).toInt = (v 1).toInt + 1) (h2 : (v2 2).toInt = (v 2).toInt + 1) (h3 : v2 3 = v 3 ||| ((1 : Int32) <<< (c &&& 31))) (h4 : v2 4 = v 4 + W c.toInt.toNat) : PAL v2 k2 W (upN N c.toInt.toNat) (n + 1) := by
  obtain ⟨p1, p2, p3, p4, p5, p6, p7, p8⟩ := h
  have q1 := p1 c.toInt.toNat (by omega)
  have hN : N c.toInt.toNat = 0 := by omega
  have b1 : bt (v 3) c.toInt.toNat = false := by rw [p4 _ (by omega), hN]; rfl
  have b2 : ∀ i, i < 32 → bt (v2 3) i = (bt (v 3) i || decide (i = c.toInt.toNat)) := fun i hi => by rw [h3, b_or, b_one (by omega) hi]
  have b3 : bt (v2 3) c.toInt.toNat = true := by rw [b2 _ (by omega), decide_eq_true rfl, Bool.or_true]
  have b4 : ∀ j, j ≠ c.toInt.toNat → bt (v2 3) j = bt (v 3) j := fun j hj => by
    by_cases h9 : j < 32
    · rw [b2 j h9, decide_eq_false hj, Bool.or_false]
    · rw [b_big (by omega), b_big (by omega)]
  refine ⟨fun x hx => ?_, by omega, ?_, fun i hi => ?_, ?_, fun x => ?_, by omega, fun x hx => ?_⟩
  · by_cases e : x = c.toInt.toNat
    · rw [e, upN_s]; omega
    · rw [upN_n e, hk0 x e]; exact p1 x hx
  · rw [cntB_up b1 b3 b4 24, if_pos (by omega)]; omega
  · by_cases e : i = c.toInt.toNat
    · rw [e, upN_s, b3, decide_eq_true (by omega)]
    · rw [upN_n e, b4 i e, p4 i hi]
  · rw [h4, p5, msB_up b1 b3 b4 24, if_pos (by omega)]
  · have := p6 x
    unfold upN; split <;> omega
  · rw [upN_n (by omega)]; exact p8 x hx
theorem PAL_old {v v2 k k2 W : Nat → Int32} {N : Nat → Nat} {n : Int} {c : Int32} (h : PAL v k W N n) (hc : 0 ≤ c.toInt ∧ c.toInt ≤ 23) (hn : n < 1000) (hk0 : ∀ x, x ≠ c.toInt.toNat → k2 x = k x) (hk : (k2 c.toInt.toNat).toInt = (k c.toInt.toNat).toInt + 1) (h0 : ¬ (k2 c.toInt.toNat).toInt = 1) (h1 : (v2 1).toInt = (v 1).toInt + 1) (h2 : v2 2 = v 2) (h3 : v2 3 = v 3) (h4 : v2 4 = v 4) : PAL v2 k2 W (upN N c.toInt.toNat) (n + 1) := by
  obtain ⟨p1, p2, p3, p4, p5, p6, p7, p8⟩ := h
  have q1 := p1 c.toInt.toNat (by omega)
  refine ⟨fun x hx => ?_, by omega, by rw [h2, h3]; exact p3, fun i hi => ?_, by rw [h3, h4]; exact p5, fun x => ?_, by omega, fun x hx => ?_⟩
  · by_cases e : x = c.toInt.toNat
    · rw [e, upN_s]; omega
    · rw [upN_n e, hk0 x e]; exact p1 x hx
  · rw [h3, p4 i hi]
    by_cases e : i = c.toInt.toNat
    · rw [e, upN_s, decide_eq_true (by omega), decide_eq_true (by omega)]
    · rw [upN_n e]
  · have := p6 x
    unfold upN; split <;> omega
  · rw [upN_n (by omega)]; exact p8 x hx
theorem PAL_t1 {v v1 v2 v3 v4 k k1 W : Nat → Int32} {m6 m18 m36 m63 c : Int32} (hc : 0 ≤ c.toInt ∧ c.toInt ≤ 23) (e7 : v1 = upd v 1 m6) (e6 : m6 = v 1 + 1) (e19 : k1 = upd k c.toInt.toNat m18) (e18 : m18 = k c.toInt.toNat + 1) (d : (k1 c.toInt.toNat).toInt = 1) (e37 : v2 = upd v1 2 m36) (e36 : m36 = v1 2 + 1) (e49 : v3 = upd v2 3 (v2 3 ||| ((1 : Int32) <<< (c &&& 31)))) (e64 : v4 = upd v3 4 m63) (e63 : m63 = v3 4 + W c.toInt.toNat) : (∀ N n, PAL v k W N n → n < 1000 → PAL v4 k1 W (upN N c.toInt.toNat) (n + 1)) ∧ (∀ i, i = 0 ∨ 5 ≤ i → v4 i = v i) := by
  have a2 : v1 2 = v 2 := by rw [e7, pk_un (by decide)]
  have a3 : v2 3 = v 3 := by rw [e37, pk_un (by decide), e7, pk_un (by decide)]
  have a4 : v3 4 = v 4 := by rw [e49, pk_un (by decide), e37, pk_un (by decide), e7, pk_un (by decide)]
  refine ⟨fun N n h hn => ?_, fun i hi => by rw [e64, pk_un (by omega), e49, pk_un (by omega), e37, pk_un (by omega), e7, pk_un (by omega)]⟩
  have h1 := h
  obtain ⟨p1, p2, p3, p4, p5, p6, p7, p8⟩ := h1
  have q1 := p1 c.toInt.toNat (by omega)
  have q2 := p6 c.toInt.toNat
  have q3 := cntB_le (v 3) 24
  have q4 := p6 0
  refine PAL_new h hc hn (fun x hx => by rw [e19, pk_un hx]) (by rw [e19, pk_us, e18]; exact pm_addc _ _ 1 rfl (by omega) (by omega)) d ?_ ?_ ?_ ?_
  · rw [e64, pk_un (by decide), e49, pk_un (by decide), e37, pk_un (by decide), e7, pk_us, e6]; exact pm_addc _ _ 1 rfl (by omega) (by omega)
  · rw [e64, pk_un (by decide), e49, pk_un (by decide), e37, pk_us, e36, a2]; exact pm_addc _ _ 1 rfl (by omega) (by omega)
  · rw [e64, pk_un (by decide), e49, pk_us, a3]
  · rw [e64, pk_us, e63, a4]
theorem PAL_t2 {v v1 k k1 W : Nat → Int32} {m6 m18 c : Int32} (hc : 0 ≤ c.toInt ∧ c.toInt ≤ 23) (e7 : v1 = upd v 1 m6) (e6 : m6 = v 1 + 1) (e19 : k1 = upd k c.toInt.toNat m18) (e18 : m18 = k c.toInt.toNat + 1) (d : ¬ (k1 c.toInt.toNat).toInt = 1) : (∀ N n, PAL v k W N n → n < 1000 → PAL v1 k1 W (upN N c.toInt.toNat) (n + 1)) ∧ (∀ i, i = 0 ∨ 5 ≤ i → v1 i = v i) := by
  refine ⟨fun N n h hn => ?_, fun i hi => by rw [e7, pk_un (by omega)]⟩
  have h1 := h
  obtain ⟨p1, p2, p3, p4, p5, p6, p7, p8⟩ := h1
  have q1 := p1 c.toInt.toNat (by omega)
  have q2 := p6 c.toInt.toNat
  have q4 := p6 0
  refine PAL_old h hc hn (fun x hx => by rw [e19, pk_un hx]) (by rw [e19, pk_us, e18]; exact pm_addc _ _ 1 rfl (by omega) (by omega)) d ?_ ?_ ?_ ?_
  · rw [e7, pk_us, e6]; exact pm_addc _ _ 1 rfl (by omega) (by omega)
  · rw [e7, pk_un (by decide)]
  · rw [e7, pk_un (by decide)]
  · rw [e7, pk_un (by decide)]
theorem PAL_set {v k W c : Nat → Int32} {l j : Nat} {n : Int} (hc : ok24 c) (h : PAL v k W (nc c l j) n) : v 3 = setF c l j := b_ext (fun i hi => by rw [h.2.2.2.1 i hi, bt_set hc hi])
theorem PAL_kd {v k W c : Nat → Int32} {l j : Nat} {n : Int} (hc : ok24 c) (h : PAL v k W (nc c l j) n) : (v 2).toInt = (cntB (setF c l j) 24 : Int) := by rw [← PAL_set hc h]; exact h.2.2.1
def sS (c : Nat → Int32) (l r : Int) : Int32 := setF c l.toNat (r + 1 - l).toNat
theorem sS_eq {c d : Nat → Int32} {n l r : Int} (hc : ∀ j : Nat, (j : Int) < n → c j = d j) (h : 0 ≤ l ∧ r < n) : sS c l r = sS d l r := setF_eq _ (fun j hi hj => hc j (by omega))
def DST (c : Nat → Int32) (n p : Int) : Int := if (0 ≤ p ∧ p < n) ∧ 0 ≤ lastEq c (c p.toNat) p.toNat then (cntB (sS c (lastEq c (c p.toNat) p.toNat + 1) (p - 1)) 24 : Int) else -1
theorem DST_y {c : Nat → Int32} {n p : Int} (h : (0 ≤ p ∧ p < n) ∧ 0 ≤ lastEq c (c p.toNat) p.toNat) : DST c n p = (cntB (sS c (lastEq c (c p.toNat) p.toNat + 1) (p - 1)) 24 : Int) := if_pos h
theorem DST_n {c : Nat → Int32} {n p : Int} (h : ¬ ((0 ≤ p ∧ p < n) ∧ 0 ≤ lastEq c (c p.toNat) p.toNat)) : DST c n p = -1 := if_neg h
theorem DST_eq {c d : Nat → Int32} {n p : Int} (hc : ∀ j : Nat, (j : Int) < n → c j = d j) : DST c n p = DST d n p := by
  by_cases h0 : 0 ≤ p ∧ p < n
  · have e1 : lastEq c (c p.toNat) p.toNat = lastEq d (d p.toNat) p.toNat := by rw [hc p.toNat (by omega)]; exact lastEq_eq _ (fun j hj => hc j (by omega))
    by_cases h : 0 ≤ lastEq d (d p.toNat) p.toNat
    · rw [DST_y ⟨h0, by rw [e1]; exact h⟩, DST_y ⟨h0, h⟩, e1, sS_eq hc ⟨by omega, by omega⟩]
    · rw [DST_n (by rw [e1]; exact fun h9 => h h9.2), DST_n (fun h9 => h h9.2)]
  · rw [DST_n (fun h9 => h0 h9.1), DST_n (fun h9 => h0 h9.1)]

