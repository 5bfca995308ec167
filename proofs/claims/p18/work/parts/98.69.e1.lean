/-! the palette gives a colour back -/
theorem dn_up (N : Nat → Nat) (c : Nat) : dnN (upN N c) c = N := by
  funext x
  by_cases h : x = c
  · subst h; rw [dnN_s, upN_s]; rfl
  · rw [dnN_n h, upN_n h]
theorem PAL_dl {v v2 k k2 W : Nat → Int32} {N : Nat → Nat} {n : Int} {c : Int32} (h : PAL v k W N n) (hc : 0 ≤ c.toInt ∧ c.toInt ≤ 23) (hN : ∀ x, (dnN N c.toInt.toNat x : Int) ≤ n - 1) (h9 : 0 < N c.toInt.toNat) (hk0 : ∀ x, x ≠ c.toInt.toNat → k2 x = k x) (hk : (k2 c.toInt.toNat).toInt = (k c.toInt.toNat).toInt - 1) (h0 : (k2 c.toInt.toNat).toInt = 0) (h1 : (v2 1).toInt = (v 1).toInt - 1) (h2 : (v2 2).toInt = (v 2).toInt - 1) (h3 : v2 3 = v 3 &&& (((1 : Int32) <<< (c &&& 31)) ^^^ (-1))) (h4 : v2 4 = v 4 - W c.toInt.toNat) : PAL v2 k2 W (dnN N c.toInt.toNat) (n - 1) := by
  obtain ⟨p1, p2, p3, p4, p5, p6, p7, p8⟩ := h
  have q1 := p1 c.toInt.toNat (by omega)
  have hN1 : N c.toInt.toNat = 1 := by omega
  have b1 : bt (v 3) c.toInt.toNat = true := by rw [p4 _ (by omega), hN1]; rfl
  have b2 : ∀ i, i < 32 → bt (v2 3) i = (bt (v 3) i && !(decide (i = c.toInt.toNat))) := fun i hi => by rw [h3, b_and, b_not _ hi, b_one (by omega) hi]
  have b3 : bt (v2 3) c.toInt.toNat = false := by rw [b2 _ (by omega), decide_eq_true rfl]; simp
  have b4 : ∀ j, j ≠ c.toInt.toNat → bt (v 3) j = bt (v2 3) j := fun j hj => by
    by_cases h9 : j < 32
    · rw [b2 j h9, decide_eq_false hj]; simp
    · rw [b_big (by omega), b_big (by omega)]
  have u1 := cntB_up b3 b1 b4 24
  have u2 := msB_up (W := W) b3 b1 b4 24
  rw [if_pos (by omega)] at u1 u2
  refine ⟨fun x hx => ?_, by omega, by omega, fun i hi => ?_, ?_, hN, by omega, fun x hx => ?_⟩
  · by_cases e : x = c.toInt.toNat
    · rw [e, dnN_s]; omega
    · rw [dnN_n e, hk0 x e]; exact p1 x hx
  · by_cases e : i = c.toInt.toNat
    · rw [e, dnN_s, b3, hN1]; rfl
    · rw [dnN_n e, ← b4 i e, p4 i hi]
  · rw [h4, p5, u2, Int32.add_sub_cancel]
  · rw [dnN_n (by omega)]; exact p8 x hx
theorem PAL_do {v v2 k k2 W : Nat → Int32} {N : Nat → Nat} {n : Int} {c : Int32} (h : PAL v k W N n) (hc : 0 ≤ c.toInt ∧ c.toInt ≤ 23) (hN : ∀ x, (dnN N c.toInt.toNat x : Int) ≤ n - 1) (h9 : 0 < N c.toInt.toNat) (hk0 : ∀ x, x ≠ c.toInt.toNat → k2 x = k x) (hk : (k2 c.toInt.toNat).toInt = (k c.toInt.toNat).toInt - 1) (h0 : ¬ (k2 c.toInt.toNat).toInt = 0) (h1 : (v2 1).toInt = (v 1).toInt - 1) (h2 : v2 2 = v 2) (h3 : v2 3 = v 3) (h4 : v2 4 = v 4) : PAL v2 k2 W (dnN N c.toInt.toNat) (n - 1) := by
  obtain ⟨p1, p2, p3, p4, p5, p6, p7, p8⟩ := h
  have q1 := p1 c.toInt.toNat (by omega)
  refine ⟨fun x hx => ?_, by omega, by rw [h2, h3]; exact p3, fun i hi => ?_, by rw [h3, h4]; exact p5, hN, by omega, fun x hx => ?_⟩
  · by_cases e : x = c.toInt.toNat
    · rw [e, dnN_s]; omega
    · rw [dnN_n e, hk0 x e]; exact p1 x hx
  · rw [h3, p4 i hi]
    by_cases e : i = c.toInt.toNat
    · rw [e, dnN_s, decide_eq_true (by omega), decide_eq_true (by omega)]
    · rw [dnN_n e]
  · rw [dnN_n (by omega)]; exact p8 x hx
theorem PAL_r1 {v v1 v2 v3 v4 k k1 W : Nat → Int32} {m6 m18 m35 m64 c : Int32} (hc : 0 ≤ c.toInt ∧ c.toInt ≤ 23) (e7 : v1 = upd v 1 m6) (e6 : m6 = v 1 - 1) (e19 : k1 = upd k c.toInt.toNat m18) (e18 : m18 = k c.toInt.toNat - 1) (d : (k1 c.toInt.toNat).toInt = 0) (e36 : v2 = upd v1 2 m35) (e35 : m35 = v1 2 - 1) (e50 : v3 = upd v2 3 (v2 3 &&& (((1 : Int32) <<< (c &&& 31)) ^^^ (-1)))) (e65 : v4 = upd v3 4 m64) (e64 : m64 = v3 4 - W c.toInt.toNat) : (∀ N n, PAL v k W (upN N c.toInt.toNat) n → (∀ x, (N x : Int) ≤ n - 1) → PAL v4 k1 W N (n - 1)) ∧ (∀ i, i = 0 ∨ 5 ≤ i → v4 i = v i) := by
  have a2 : v1 2 = v 2 := by rw [e7, pk_un (by decide)]
  have a3 : v2 3 = v 3 := by rw [e36, pk_un (by decide), e7, pk_un (by decide)]
  have a4 : v3 4 = v 4 := by rw [e50, pk_un (by decide), e36, pk_un (by decide), e7, pk_un (by decide)]
  refine ⟨fun N n h hn => ?_, fun i hi => by rw [e65, pk_un (by omega), e50, pk_un (by omega), e36, pk_un (by omega), e7, pk_un (by omega)]⟩
  have h1 := h
  obtain ⟨p1, p2, p3, p4, p5, p6, p7, p8⟩ := h1
  have q1 := p1 c.toInt.toNat (by omega)
  have q2 := p6 c.toInt.toNat
  have q3 := cntB_le (v 3) 24
  have q4 := p6 0
  rw [upN_s] at q1 q2
  have r := PAL_dl (v2 := v4) (k2 := k1) h hc (fun x => by rw [dn_up]; exact hn x) (by rw [upN_s]; omega) (fun x hx => by rw [e19, pk_un hx]) (by rw [e19, pk_us, e18]; exact pm_subc _ _ 1 rfl (by omega) (by omega)) d ?_ ?_ ?_ ?_
  · rw [dn_up] at r; exact r
  · rw [e65, pk_un (by decide), e50, pk_un (by decide), e36, pk_un (by decide), e7, pk_us, e6]; exact pm_subc _ _ 1 rfl (by omega) (by omega)
  · rw [e65, pk_un (by decide), e50, pk_un (by decide), e36, pk_us, e35, a2]; exact pm_subc _ _ 1 rfl (by omega) (by omega)
  · rw [e65, pk_un (by decide), e50, pk_us, a3]
  · rw [e65, pk_us, e64, a4]
theorem PAL_r2 {v v1 k k1 W : Nat → Int32} {m6 m18 c : Int32} (hc : 0 ≤ c.toInt ∧ c.toInt ≤ 23) (e7 : v1 = upd v 1 m6) (e6 : m6 = v 1 - 1) (e19 : k1 = upd k c.toInt.toNat m18) (e18 : m18 = k c.toInt.toNat - 1) (d : ¬ (k1 c.toInt.toNat).toInt = 0) : (∀ N n, PAL v k W (upN N c.toInt.toNat) n → (∀ x, (N x : Int) ≤ n - 1) → PAL v1 k1 W N (n - 1)) ∧ (∀ i, i = 0 ∨ 5 ≤ i → v1 i = v i) := by
  refine ⟨fun N n h hn => ?_, fun i hi => by rw [e7, pk_un (by omega)]⟩
  have h1 := h
  obtain ⟨p1, p2, p3, p4, p5, p6, p7, p8⟩ := h1
  have q1 := p1 c.toInt.toNat (by omega)
  have q2 := p6 c.toInt.toNat
  have q4 := p6 0
  rw [upN_s] at q1 q2
  have r := PAL_do (v2 := v1) (k2 := k1) h hc (fun x => by rw [dn_up]; exact hn x) (by rw [upN_s]; omega) (fun x hx => by rw [e19, pk_un hx]) (by rw [e19, pk_us, e18]; exact pm_subc _ _ 1 rfl (by omega) (by omega)) d ?_ ?_ ?_ ?_
  · rw [dn_up] at r; exact r
  · rw [e7, pk_us, e6]; exact pm_subc _ _ 1 rfl (by omega) (by omega)
  · rw [e7, pk_un (by decide)]
  · rw [e7, pk_un (by decide)]
  · rw [e7, pk_un (by decide)]
