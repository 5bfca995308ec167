/-! bits counted; counts of a span's colours; the palette -/
theorem cntB_clr {x y : Int32} {i : Nat} (hx : bt x i = true) (h : ∀ j, bt y j = (decide (j ≠ i) && bt x j)) : ∀ k, cntB y k + (if i < k then 1 else 0) = cntB x k
  | 0 => by rw [if_neg (by omega)]; rfl
  | k + 1 => by
    have ih := cntB_clr hx h k
    rw [cntB, cntB]
    by_cases e : k = i
    · have hy : bt y k = false := by rw [h k, decide_eq_false (fun h9 => h9 e)]; rfl
      rw [hy, show bt x k = true by rw [e]; exact hx, if_neg (by decide), if_pos rfl, if_pos (by omega)]
      rw [if_neg (by omega)] at ih
      omega
    · have hy : bt y k = bt x k := by rw [h k, decide_eq_true e]; rfl
      rw [hy]
      obtain ⟨z, hz⟩ : ∃ z : Nat, z = (if bt x k = true then 1 else 0) := ⟨_, rfl⟩
      rw [← hz]
      by_cases e2 : i < k
      · rw [if_pos e2] at ih; rw [if_pos (by omega)]; omega
      · rw [if_neg e2] at ih; rw [if_neg (by omega)]; omega
theorem cntB_z : ∀ k, cntB 0 k = 0
  | 0 => rfl
  | k + 1 => by rw [cntB, cntB_z k, b_0, if_neg (by decide)]
theorem b_y1 {x c : Int32} (h : 0 ≤ c.toInt ∧ c.toInt ≤ 31) (hb : ((x >>> (c &&& 31)) &&& 1) = 1) : bt x c.toInt.toNat = true := b_y h (by rw [hb]; decide)
def msB (W : Nat → Int32) (x : Int32) : Nat → Int32
  | 0 => 0
  | k + 1 => msB W x k + if bt x k = true then W k else 0
theorem msB_z (W : Nat → Int32) : ∀ k, msB W 0 k = 0
  | 0 => rfl
  | k + 1 => by rw [msB, msB_z W k, b_0, if_neg (by decide)]; rfl
theorem msB_eq {W V : Nat → Int32} {x : Int32} : ∀ k, (∀ j, j < k → W j = V j) → msB W x k = msB V x k
  | 0, _ => rfl
  | k + 1, h => by rw [msB, msB, msB_eq k (fun j hj => h j (by omega)), h k (by omega)]
theorem ad_r (a b c : Int32) : a + b + c = a + c + b := by rw [Int32.add_assoc, Int32.add_comm b c, ← Int32.add_assoc]
theorem msB_up {W : Nat → Int32} {x y : Int32} {i : Nat} (hx : bt x i = false) (hy : bt y i = true) (h : ∀ j, j ≠ i → bt y j = bt x j) : ∀ k, msB W y k = msB W x k + (if i < k then W i else 0)
  | 0 => by rw [if_neg (by omega)]; rfl
  | k + 1 => by
    have ih := msB_up (W := W) hx hy h k
    rw [msB, msB, ih]
    by_cases e : k = i
    · rw [e, hy, hx, if_neg (by omega), if_pos rfl, if_neg (by decide), if_pos (by omega), Int32.add_zero]
    · rw [h k e]
      by_cases e2 : i < k
      · rw [if_pos e2, if_pos (show i < k + 1 by omega), ad_r]
      · rw [if_neg e2, if_neg (show ¬ i < k + 1 by omega), ad_r]
theorem cntB_up {x y : Int32} {i : Nat} (hx : bt x i = false) (hy : bt y i = true) (h : ∀ j, j ≠ i → bt y j = bt x j) (k : Nat) : cntB y k = cntB x k + (if i < k then 1 else 0) := by
  refine (cntB_clr (x := y) (y := x) hy (fun j => ?_) k).symm
  by_cases e : j = i
  · rw [e, hx, decide_eq_false (fun h9 => h9 rfl)]; rfl
  · rw [h j e, decide_eq_true e]; rfl
def upN (N : Nat → Nat) (c : Nat) : Nat → Nat := fun x => if x = c then N x + 1 else N x
theorem upN_s (N : Nat → Nat) (c : Nat) : upN N c c = N c + 1 := if_pos rfl
theorem upN_n {N : Nat → Nat} {c x : Nat} (h : x ≠ c) : upN N c x = N x := if_neg h
def nc (c : Nat → Int32) (l : Nat) : Nat → (Nat → Nat)
  | 0 => fun _ => 0
  | k + 1 => upN (nc c l k) (c (l + k)).toInt.toNat
def ok24 (c : Nat → Int32) : Prop := ∀ j, 0 ≤ (c j).toInt ∧ (c j).toInt ≤ 23
theorem setF_eq {c d : Nat → Int32} {l : Nat} : ∀ k, (∀ j, l ≤ j → j < l + k → c j = d j) → setF c l k = setF d l k
  | 0, _ => rfl
  | k + 1, h => by rw [setF, setF, setF_eq k (fun j hi hj => h j hi (by omega)), h (l + k) (by omega) (by omega)]
theorem bt_set {c : Nat → Int32} {l : Nat} (hc : ok24 c) {i : Nat} (hi : i < 32) : ∀ k, bt (setF c l k) i = decide (0 < nc c l k i)
  | 0 => by
    show bt 0 i = _
    rw [b_0]; rfl
  | k + 1 => by
    have ih := bt_set (l := l) hc hi k
    have h0 := hc (l + k)
    rw [setF, b_or, b_one (by omega) hi, ih, nc]
    by_cases e : i = (c (l + k)).toInt.toNat
    · rw [decide_eq_true e, Bool.or_true, ← e, upN_s, decide_eq_true (by omega)]
    · rw [decide_eq_false e, Bool.or_false, upN_n e]
def PAL (v k W : Nat → Int32) (N : Nat → Nat) (n : Int) : Prop := (∀ x, x < 24 → (k x).toInt = (N x : Int)) ∧ (v 1).toInt = n ∧ (v 2).toInt = (cntB (v 3) 24 : Int) ∧ (∀ i, i < 32 → bt (v 3) i = decide (0 < N i)) ∧ v 4 = msB W (v 3) 24 ∧ (∀ x, (N x : Int) ≤ n) ∧ n ≤ 1000 ∧ (∀ x, 24 ≤ x → N x = 0)
theorem PAL_0 {v k W : Nat → Int32} (hk : ∀ x, x < 24 → k x = 0) (h1 : v 1 = 0) (h2 : v 2 = 0) (h3 : v 3 = 0) (h4 : v 4 = 0) : PAL v k W (fun _ => 0) 0 := by
  refine ⟨fun x hx => by rw [hk x hx]; rfl, by rw [h1]; rfl, by rw [h2, h3, cntB_z]; rfl, fun i hi => by rw [h3, b_0]; rfl, by rw [h4, h3, msB_z], fun x => by simp, by decide, fun _ _ => rfl⟩
theorem PAL_new {v v2 k k2 W : Nat → Int32} {N : Nat → Nat} {n : Int} {c : Int32} (h : PAL v k W N n) (hc : 0 ≤ c.toInt ∧ c.toInt ≤ 23) (hn : n < 1000) (hk0 : ∀ x, x ≠ c.toInt.toNat → k2 x = k x) (hk : (k2 c.toInt.toNat).toInt = (k c.toInt.toNat).toInt + 1) (h0 : (k2 c.toInt.toNat).toInt = 1) (h1 : (v2 1).toInt = (v 1).toInt + 1) (h2 : (v2 2).toInt = (v 2).toInt + 1) (h3 : v2 3 = v 3 ||| ((1 : Int32) <<< (c &&& 31))) (h4 : v2 4 = v 4 + W c.toInt.toNat) : PAL v2 k2 W (upN N c.toInt.toNat) (n + 1) := by
  obtain ⟨p1, p2, p3, p4, p5, p6, p7, p8⟩ := h
  have q1 := p1 c.toInt.toNat (by omega)
  have hN : N c.toInt.toNat = 0 := by omega
  have b1 : bt (v 3) c.toInt.toNat = false := by rw [p4 _ (by omega), hN]; rfl
  have b2 : ∀ i, i < 32 → bt (v2 3) i = (bt (v 3) i || decide (i = c.toInt.toNat)) := fun i hi => by rw [h3, b_or, b_one (by omega) hi]
  have b3 : bt (v2 3) c.toInt.toNat = true := by rw [b2 _ (by omega), decide_eq_true rfl, Bool.or_true]
  have b4 : ∀ j, j ≠ c.toInt.toNat → bt (v2 3) j = bt (v 3) j := fun j hj => by
    by_cases h9 : j < 32
    · rw [b2 j h9, decide_eq_false hj, Bool.or_false]
    · rw [b_big (by omega), b_big (by omega)]
  refine ⟨fun x hx => ?_, by omega, ?_, fun i hi => ?_, ?_, fun x => ?_, by omega, fun x hx => ?_⟩
  · by_cases e : x = c.toInt.toNat
    · rw [e, upN_s]; omega
    · rw [upN_n e, hk0 x e]; exact p1 x hx
  · rw [cntB_up b1 b3 b4 24, if_pos (by omega)]; omega
  · by_cases e : i = c.toInt.toNat
    · rw [e, upN_s, b3, decide_eq_true (by omega)]
    · rw [upN_n e, b4 i e, p4 i hi]
  · rw [h4, p5, msB_up b1 b3 b4 24, if_pos (by omega)]
  · have := p6 x
    unfold upN; split <;> omega
  · rw [upN_n (by omega)]; exact p8 x hx
theorem PAL_old {v v2 k k2 W : Nat → Int32} {N : Nat → Nat} {n : Int} {c : Int32} (h : PAL v k W N n) (hc : 0 ≤ c.toInt ∧ c.toInt ≤ 23) (hn : n < 1000) (hk0 : ∀ x, x ≠ c.toInt.toNat → k2 x = k x) (hk : (k2 c.toInt.toNat).toInt = (k c.toInt.toNat).toInt + 1) (h0 : ¬ (k2 c.toInt.toNat).toInt = 1) (h1 : (v2 1).toInt = (v 1).toInt + 1) (h2 : v2 2 = v 2) (h3 : v2 3 = v 3) (h4 : v2 4 = v 4) : PAL v2 k2 W (upN N c.toInt.toNat) (n + 1) := by
  obtain ⟨p1, p2, p3, p4, p5, p6, p7, p8⟩ := h
  have q1 := p1 c.toInt.toNat (by omega)
  refine ⟨fun x hx => ?_, by omega, by rw [h2, h3]; exact p3, fun i hi => ?_, by rw [h3, h4]; exact p5, fun x => ?_, by omega, fun x hx => ?_⟩
  · by_cases e : x = c.toInt.toNat
    · rw [e, upN_s]; omega
    · rw [upN_n e, hk0 x e]; exact p1 x hx
  · rw [h3, p4 i hi]
    by_cases e : i = c.toInt.toNat
    · rw [e, upN_s, decide_eq_true (by omega), decide_eq_true (by omega)]
    · rw [upN_n e]
  · have := p6 x
    unfold upN; split <;> omega
  · rw [upN_n (by omega)]; exact p8 x hx
theorem PAL_t1 {v v1 v2 v3 v4 k k1 W : Nat → Int32} {m6 m18 m36 m63 c : Int32} (hc : 0 ≤ c.toInt ∧ c.toInt ≤ 23) (e7 : v1 = upd v 1 m6) (e6 : m6 = v 1 + 1) (e19 : k1 = upd k c.toInt.toNat m18) (e18 : m18 = k c.toInt.toNat + 1) (d : (k1 c.toInt.toNat).toInt = 1) (e37 : v2 = upd v1 2 m36) (e36 : m36 = v1 2 + 1) (e49 : v3 = upd v2 3 (v2 3 ||| ((1 : Int32) <<< (c &&& 31)))) (e64 : v4 = upd v3 4 m63) (e63 : m63 = v3 4 + W c.toInt.toNat) : (∀ N n, PAL v k W N n → n < 1000 → PAL v4 k1 W (upN N c.toInt.toNat) (n + 1)) ∧ (∀ i, i = 0 ∨ 5 ≤ i → v4 i = v i) := by
  have a2 : v1 2 = v 2 := by rw [e7, pk_un (by decide)]
  have a3 : v2 3 = v 3 := by rw [e37, pk_un (by decide), e7, pk_un (by decide)]
  have a4 : v3 4 = v 4 := by rw [e49, pk_un (by decide), e37, pk_un (by decide), e7, pk_un (by decide)]
  refine ⟨fun N n h hn => ?_, fun i hi => by rw [e64, pk_un (by omega), e49, pk_un (by omega), e37, pk_un (by omega), e7, pk_un (by omega)]⟩
  have h1 := h
  obtain ⟨p1, p2, p3, p4, p5, p6, p7, p8⟩ := h1
  have q1 := p1 c.toInt.toNat (by omega)
  have q2 := p6 c.toInt.toNat
  have q3 := cntB_le (v 3) 24
  have q4 := p6 0
  refine PAL_new h hc hn (fun x hx => by rw [e19, pk_un hx]) (by rw [e19, pk_us, e18]; exact pm_addc _ _ 1 rfl (by omega) (by omega)) d ?_ ?_ ?_ ?_
  · rw [e64, pk_un (by decide), e49, pk_un (by decide), e37, pk_un (by decide), e7, pk_us, e6]; exact pm_addc _ _ 1 rfl (by omega) (by omega)
  · rw [e64, pk_un (by decide), e49, pk_un (by decide), e37, pk_us, e36, a2]; exact pm_addc _ _ 1 rfl (by omega) (by omega)
  · rw [e64, pk_un (by decide), e49, pk_us, a3]
  · rw [e64, pk_us, e63, a4]
theorem PAL_t2 {v v1 k k1 W : Nat → Int32} {m6 m18 c : Int32} (hc : 0 ≤ c.toInt ∧ c.toInt ≤ 23) (e7 : v1 = upd v 1 m6) (e6 : m6 = v 1 + 1) (e19 : k1 = upd k c.toInt.toNat m18) (e18 : m18 = k c.toInt.toNat + 1) (d : ¬ (k1 c.toInt.toNat).toInt = 1) : (∀ N n, PAL v k W N n → n < 1000 → PAL v1 k1 W (upN N c.toInt.toNat) (n + 1)) ∧ (∀ i, i = 0 ∨ 5 ≤ i → v1 i = v i) := by
  refine ⟨fun N n h hn => ?_, fun i hi => by rw [e7, pk_un (by omega)]⟩
  have h1 := h
  obtain ⟨p1, p2, p3, p4, p5, p6, p7, p8⟩ := h1
  have q1 := p1 c.toInt.toNat (by omega)
  have q2 := p6 c.toInt.toNat
  have q4 := p6 0
  refine PAL_old h hc hn (fun x hx => by rw [e19, pk_un hx]) (by rw [e19, pk_us, e18]; exact pm_addc _ _ 1 rfl (by omega) (by omega)) d ?_ ?_ ?_ ?_
  · rw [e7, pk_us, e6]; exact pm_addc _ _ 1 rfl (by omega) (by omega)
  · rw [e7, pk_un (by decide)]
  · rw [e7, pk_un (by decide)]
  · rw [e7, pk_un (by decide)]
theorem PAL_set {v k W c : Nat → Int32} {l j : Nat} {n : Int} (hc : ok24 c) (h : PAL v k W (nc c l j) n) : v 3 = setF c l j := b_ext (fun i hi => by rw [h.2.2.2.1 i hi, bt_set hc hi])
theorem PAL_ms {v k W c : Nat → Int32} {l j : Nat} {n : Int} (hc : ok24 c) (h : PAL v k W (nc c l j) n) : v 4 = msB W (setF c l j) 24 := by rw [← PAL_set hc h]; exact h.2.2.2.2.1
def sS (c : Nat → Int32) (l r : Int) : Int32 := setF c l.toNat (r + 1 - l).toNat
theorem sS_eq {c d : Nat → Int32} {n l r : Int} (hc : ∀ j : Nat, (j : Int) < n → c j = d j) (h : 0 ≤ l ∧ r < n) : sS c l r = sS d l r := setF_eq _ (fun j hi hj => hc j (by omega))
def WGT (c W : Nat → Int32) (n l r : Int) : Int32 := if 0 ≤ l ∧ l ≤ r ∧ r < n then msB W (sS c l r) 24 else -1
theorem WGT_y {c W : Nat → Int32} {n l r : Int} (h : 0 ≤ l ∧ l ≤ r ∧ r < n) : WGT c W n l r = msB W (sS c l r) 24 := if_pos h
theorem WGT_n {c W : Nat → Int32} {n l r : Int} (h : ¬ (0 ≤ l ∧ l ≤ r ∧ r < n)) : WGT c W n l r = -1 := if_neg h
theorem WGT_eq {c d W V : Nat → Int32} {n l r : Int} (hc : ∀ j : Nat, (j : Int) < n → c j = d j) (hw : ∀ j, j < 24 → W j = V j) : WGT c W n l r = WGT d V n l r := by
  by_cases h : 0 ≤ l ∧ l ≤ r ∧ r < n
  · rw [WGT_y h, WGT_y h, sS_eq hc ⟨h.1, h.2.2⟩, msB_eq 24 hw]
  · rw [WGT_n h, WGT_n h]