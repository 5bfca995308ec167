section
/-! bits counted; counts of a span's colours; the palette -/
theorem pc_low : ∀ (N m : Nat), m ≤ N → m ≠ 0 → ∃ i, m.testBit i = true ∧ ∀ j, (m.testBit j && (m - 1).testBit j) = (decide (j ≠ i) && m.testBit j) := by
  intro N
  induction N with
  | zero => intro m h1 h2; omega
  | succ N ih =>
    intro m h1 h2
    by_cases ho : m % 2 = 1
    · refine ⟨0, by rw [Nat.testBit_zero]; exact decide_eq_true ho, fun j => ?_⟩
      cases j with
      | zero => rw [Nat.testBit_zero, Nat.testBit_zero, decide_eq_false (show ¬ (m - 1) % 2 = 1 by omega)]; simp
      | succ j => rw [Nat.testBit_succ, Nat.testBit_succ, show (m - 1) / 2 = m / 2 by omega]; simp
    · obtain ⟨i, hi, hj⟩ := ih (m / 2) (by omega) (by omega)
      refine ⟨i + 1, by rw [Nat.testBit_succ]; exact hi, fun j => ?_⟩
      cases j with
      | zero => rw [Nat.testBit_zero, decide_eq_false ho]; simp
      | succ j =>
        rw [Nat.testBit_succ, Nat.testBit_succ, show (m - 1) / 2 = m / 2 - 1 by omega, hj j]
        simp
theorem bt_m1 {x : Int32} (h : ¬ x = 0) : ∃ i, i < 32 ∧ bt x i = true ∧ ∀ j, bt (x &&& (x - 1)) j = (decide (j ≠ i) && bt x j) := by
  have h0 : x.toBitVec ≠ 0 := fun q => h (by
    have : x = ⟨⟨x.toBitVec⟩⟩ := rfl
    rw [this, q]; rfl)
  have h3 : x.toBitVec.toNat ≠ 0 := fun q => h0 (BitVec.eq_of_toNat_eq (by simpa using q))
  have h4 : (x.toBitVec - 1).toNat = x.toBitVec.toNat - 1 := by
    rw [BitVec.toNat_sub]
    have := x.toBitVec.isLt
    have h5 : (1 : BitVec 32).toNat = 1 := rfl
    rw [h5]
    omega
  obtain ⟨i, hi, hj⟩ := pc_low _ x.toBitVec.toNat (Nat.le_refl _) h3
  have hb : ∀ j, bt x j = x.toBitVec.toNat.testBit j := fun j => (BitVec.testBit_toNat _).symm
  have hb1 : ∀ j, bt (x - 1) j = (x.toBitVec.toNat - 1).testBit j := fun j => by
    rw [← h4, BitVec.testBit_toNat]; rfl
  refine ⟨i, ?_, by rw [hb]; exact hi, fun j => ?_⟩
  · by_cases h9 : i < 32
    · exact h9
    · have h8 := hb i
      rw [b_big (by omega), hi] at h8
      exact absurd h8 (by decide)
  · rw [b_and, hb1, hb]; exact hj j
theorem cntB_clr {x y : Int32} {i : Nat} (hx : bt x i = true) (h : ∀ j, bt y j = (decide (j ≠ i) && bt x j)) : ∀ k, cntB y k + (if i < k then 1 else 0) = cntB x k
  | 0 => by rw [if_neg (by omega)]; rfl
  | k + 1 => by
    have ih := cntB_clr hx h k
    rw [cntB, cntB]
    by_cases e : k = i
    · have hy : bt y k = false := by rw [h k, decide_eq_false (fun h9 => h9 e)]; rfl
      rw [hy, show bt x k = true by rw [e]; exact hx, if_neg (by decide), if_pos rfl, if_pos (by omega)]
      rw [if_neg (by omega)] at ih
      omega
    · have hy : bt y k = bt x k := by rw [h k, decide_eq_true e]; rfl
      rw [hy]
      obtain ⟨z, hz⟩ : ∃ z : Nat, z = (if bt x k = true then 1 else 0) := ⟨_, rfl⟩
      rw [← hz]
      by_cases e2 : i < k
      · rw [if_pos e2] at ih; rw [if_pos (by omega)]; omega
      · rw [if_neg e2] at ih; rw [if_neg (by omega)]; omega
theorem pcB {x : Int32} (h : ¬ x = 0) : cntB (x &&& (x - 1)) 32 + 1 = cntB x 32 := by
  obtain ⟨i, hi, h1, h2⟩ := bt_m1 h
  have h3 := cntB_clr h1 h2 32
  rw [if_pos hi] at h3
  exact h3
theorem cntB_z : ∀ k, cntB 0 k = 0
  | 0 => rfl
  | k + 1 => by rw [cntB, cntB_z k, b_0, if_neg (by decide)]
theorem cntB_24 {x : Int32} (h : ∀ i, 24 ≤ i → i < 32 → bt x i = false) : ∀ k, k ≤ 8 → cntB x (24 + k) = cntB x 24
  | 0, _ => rfl
  | k + 1, hk => by
    show cntB x (24 + k + 1) = _
    rw [cntB, cntB_24 h k (by omega), h (24 + k) (by omega) (by omega), if_neg (by decide), Nat.add_zero]
noncomputable def msB (W : Nat → Int32) (x : Int32) : Nat → Int32
  | 0 => 0
  | k + 1 => msB W x k + if bt x k = true then W k else 0
theorem msB_z (W : Nat → Int32) : ∀ k, msB W 0 k = 0
  | 0 => rfl
  | k + 1 => by rw [msB, msB_z W k, b_0, if_neg (by decide)]; rfl
theorem ad_r (a b c : Int32) : a + b + c = a + c + b := by rw [Int32.add_assoc, Int32.add_comm b c, ← Int32.add_assoc]
theorem msB_up {W : Nat → Int32} {x y : Int32} {i : Nat} (hx : bt x i = false) (hy : bt y i = true) (h : ∀ j, j ≠ i → bt y j = bt x j) : ∀ k, msB W y k = msB W x k + (if i < k then W i else 0)
  | 0 => by rw [if_neg (by omega)]; rfl
  | k + 1 => by
    have ih := msB_up (W := W) hx hy h k
    rw [msB, msB, ih]
    by_cases e : k = i
    · rw [e, hy, hx, if_neg (by omega), if_pos rfl, if_neg (by decide), if_pos (by omega), Int32.add_zero]
    · rw [h k e]
      by_cases e2 : i < k
      · rw [if_pos e2, if_pos (show i < k + 1 by omega), ad_r]
      · rw [if_neg e2, if_neg (show ¬ i < k + 1 by omega), ad_r]
theorem cntB_up {x y : Int32} {i : Nat} (hx : bt x i = false) (hy : bt y i = true) (h : ∀ j, j ≠ i → bt y j = bt x j) (k : Nat) : cntB y k = cntB x k + (if i < k then 1 else 0) := by
  refine (cntB_clr (x := y) (y := x) hy (fun j => ?_) k).symm
  by_cases e : j = i
  · rw [e, hx, decide_eq_false (fun h9 => h9 rfl)]; rfl
  · rw [h j e, decide_eq_true e]; rfl
noncomputable def upN (N : Nat → Nat) (c : Nat) : Nat → Nat := fun x => if x = c then N x + 1 else N x
theorem upN_s (N : Nat → Nat) (c : Nat) : upN N c c = N c + 1 := if_pos rfl
theorem upN_n {N : Nat → Nat} {c x : Nat} (h : x ≠ c) : upN N c x = N x := if_neg h
noncomputable def nc (c : Nat → Int32) (l : Nat) : Nat → (Nat → Nat)
  | 0 => fun _ => 0
  | k + 1 => upN (nc c l k) (c (l + k)).toInt.toNat
noncomputable def ok24 (c : Nat → Int32) : Prop := ∀ j, 0 ≤ (c j).toInt ∧ (c j).toInt ≤ 23
theorem nc_hi {c : Nat → Int32} {l x : Nat} (hc : ok24 c) (hx : 24 ≤ x) : ∀ k, nc c l k x = 0
  | 0 => rfl
  | k + 1 => by
    have h0 := hc (l + k)
    rw [nc, upN_n (by omega), nc_hi hc hx k]
theorem setF_eq {c d : Nat → Int32} {l : Nat} : ∀ k, (∀ j, l ≤ j → j < l + k → c j = d j) → setF c l k = setF d l k
  | 0, _ => rfl
  | k + 1, h => by rw [setF, setF, setF_eq k (fun j hi hj => h j hi (by omega)), h (l + k) (by omega) (by omega)]
theorem bt_set {c : Nat → Int32} {l : Nat} (hc : ok24 c) {i : Nat} (hi : i < 32) : ∀ k, bt (setF c l k) i = decide (0 < nc c l k i)
  | 0 => by
    show bt 0 i = _
    rw [b_0]; rfl
  | k + 1 => by
    have ih := bt_set (l := l) hc hi k
    have h0 := hc (l + k)
    rw [setF, b_or, b_one (by omega) hi, ih, nc]
    by_cases e : i = (c (l + k)).toInt.toNat
    · rw [decide_eq_true e, Bool.or_true, ← e, upN_s, decide_eq_true (by omega)]
    · rw [decide_eq_false e, Bool.or_false, upN_n e]
theorem set_24 {c : Nat → Int32} {l : Nat} (hc : ok24 c) (k : Nat) : cntB (setF c l k) 32 = cntB (setF c l k) 24 := cntB_24 (fun i h1 h2 => by rw [bt_set hc h2, nc_hi hc h1]; rfl) 8 (by omega)
noncomputable def PAL (v k W : Nat → Int32) (N : Nat → Nat) (n : Int) : Prop := (∀ x, x < 24 → (k x).toInt = (N x : Int)) ∧ (v 1).toInt = n ∧ (v 2).toInt = (cntB (v 3) 24 : Int) ∧ (∀ i, i < 32 → bt (v 3) i = decide (0 < N i)) ∧ v 4 = msB W (v 3) 24 ∧ (∀ x, (N x : Int) ≤ n) ∧ n ≤ 1000 ∧ (∀ x, 24 ≤ x → N x = 0)
theorem PAL_0 {v k W : Nat → Int32} (hk : ∀ x, x < 24 → k x = 0) (h1 : v 1 = 0) (h2 : v 2 = 0) (h3 : v 3 = 0) (h4 : v 4 = 0) : PAL v k W (fun _ => 0) 0 := by
  refine ⟨fun x hx => by rw [hk x hx]; rfl, by rw [h1]; rfl, by rw [h2, h3, cntB_z]; rfl, fun i hi => by rw [h3, b_0]; rfl, by rw [h4, h3, msB_z], fun x => by simp, by decide, fun _ _ => rfl⟩
theorem PAL_new {v v2 k k2 W : Nat → Int32} {N : Nat → Nat} {n : Int} {c : Int32} (h : PAL v k W N n) (hc : 0 ≤ c.toInt ∧ c.toInt ≤ 23) (hn : n < 1000) (hk0 : ∀ x, x ≠ c.toInt.toNat → k2 x = k x) (hk : (k2 c.toInt.toNat).toInt = (k c.toInt.toNat).toInt + 1) (h0 : (k2 c.toInt.toNat).toInt = 1) (h1 : (v2 1).toInt = (v 1).toInt + 1) (h2 : (v2 2).toInt = (v 2).toInt + 1) (h3 : v2 3 = v 3 ||| ((1 : Int32) <<< (c &&& 31))) (h4 : v2 4 = v 4 + W c.toInt.toNat) : PAL v2 k2 W (upN N c.toInt.toNat) (n + 1) := by
  obtain ⟨p1, p2, p3, p4, p5, p6, p7, p8⟩ := h
  have q1 := p1 c.toInt.toNat (by omega)
  have hN : N c.toInt.toNat = 0 := by omega
  have b1 : bt (v 3) c.toInt.toNat = false := by rw [p4 _ (by omega), hN]; rfl
  have b2 : ∀ i, i < 32 → bt (v2 3) i = (bt (v 3) i || decide (i = c.toInt.toNat)) := fun i hi => by rw [h3, b_or, b_one (by omega) hi]
  have b3 : bt (v2 3) c.toInt.toNat = true := by rw [b2 _ (by omega), decide_eq_true rfl, Bool.or_true]
  have b4 : ∀ j, j ≠ c.toInt.toNat → bt (v2 3) j = bt (v 3) j := fun j hj => by
    by_cases h9 : j < 32
    · rw [b2 j h9, decide_eq_false hj, Bool.or_false]
    · rw [b_big (by omega), b_big (by omega)]
  refine ⟨fun x hx => ?_, by omega, ?_, fun i hi => ?_, ?_, fun x => ?_, by omega, fun x hx => ?_⟩
  · by_cases e : x = c.toInt.toNat
    · rw [e, upN_s]; omega
    · rw [upN_n e, hk0 x e]; exact p1 x hx
  · rw [cntB_up b1 b3 b4 24, if_pos (by omega)]; omega
  · by_cases e : i = c.toInt.toNat
    · rw [e, upN_s, b3, decide_eq_true (by omega)]
    · rw [upN_n e, b4 i e, p4 i hi]
  · rw [h4, p5, msB_up b1 b3 b4 24, if_pos (by omega)]
  · have := p6 x
    unfold upN; split <;> omega
  · rw [upN_n (by omega)]; exact p8 x hx
theorem PAL_old {v v2 k k2 W : Nat → Int32} {N : Nat → Nat} {n : Int} {c : Int32} (h : PAL v k W N n) (hc : 0 ≤ c.toInt ∧ c.toInt ≤ 23) (hn : n < 1000) (hk0 : ∀ x, x ≠ c.toInt.toNat → k2 x = k x) (hk : (k2 c.toInt.toNat).toInt = (k c.toInt.toNat).toInt + 1) (h0 : ¬ (k2 c.toInt.toNat).toInt = 1) (h1 : (v2 1).toInt = (v 1).toInt + 1) (h2 : v2 2 = v 2) (h3 : v2 3 = v 3) (h4 : v2 4 = v 4) : PAL v2 k2 W (upN N c.toInt.toNat) (n + 1) := by
  obtain ⟨p1, p2, p3, p4, p5, p6, p7, p8⟩ := h
  have q1 := p1 c.toInt.toNat (by omega)
  refine ⟨fun x hx => ?_, by omega, by rw [h2, h3]; exact p3, fun i hi => ?_, by rw [h3, h4]; exact p5, fun x => ?_, by omega, fun x hx => ?_⟩
  · by_cases e : x = c.toInt.toNat
    · rw [e, upN_s]; omega
    · rw [upN_n e, hk0 x e]; exact p1 x hx
  · rw [h3, p4 i hi]
    by_cases e : i = c.toInt.toNat
    · rw [e, upN_s, decide_eq_true (by omega), decide_eq_true (by omega)]
    · rw [upN_n e]
  · have := p6 x
    unfold upN; split <;> omega
  · rw [upN_n (by omega)]; exact p8 x hx
theorem PAL_t1 {v v1 v2 v3 v4 k k1 W : Nat → Int32} {m6 m18 m36 m63 c : Int32} (hc : 0 ≤ c.toInt ∧ c.toInt ≤ 23) (e7 : v1 = upd v 1 m6) (e6 : m6 = v 1 + 1) (e19 : k1 = upd k c.toInt.toNat m18) (e18 : m18 = k c.toInt.toNat + 1) (d : (k1 c.toInt.toNat).toInt = 1) (e37 : v2 = upd v1 2 m36) (e36 : m36 = v1 2 + 1) (e49 : v3 = upd v2 3 (v2 3 ||| ((1 : Int32) <<< (c &&& 31)))) (e64 : v4 = upd v3 4 m63) (e63 : m63 = v3 4 + W c.toInt.toNat) : (∀ N n, PAL v k W N n → n < 1000 → PAL v4 k1 W (upN N c.toInt.toNat) (n + 1)) ∧ (∀ i, i = 0 ∨ 5 ≤ i → v4 i = v i) := by
  have a2 : v1 2 = v 2 := by rw [e7, pk_un (by decide)]
  have a3 : v2 3 = v 3 := by rw [e37, pk_un (by decide), e7, pk_un (by decide)]
  have a4 : v3 4 = v 4 := by rw [e49, pk_un (by decide), e37, pk_un (by decide), e7, pk_un (by decide)]
  refine ⟨fun N n h hn => ?_, fun i hi => by rw [e64, pk_un (by omega), e49, pk_un (by omega), e37, pk_un (by omega), e7, pk_un (by omega)]⟩
  have h1 := h
  obtain ⟨p1, p2, p3, p4, p5, p6, p7, p8⟩ := h1
  have q1 := p1 c.toInt.toNat (by omega)
  have q2 := p6 c.toInt.toNat
  have q3 := cntB_le (v 3) 24
  have q4 := p6 0
  refine PAL_new h hc hn (fun x hx => by rw [e19, pk_un hx]) (by rw [e19, pk_us, e18]; exact pm_addc _ _ 1 rfl (by omega) (by omega)) d ?_ ?_ ?_ ?_
  · rw [e64, pk_un (by decide), e49, pk_un (by decide), e37, pk_un (by decide), e7, pk_us, e6]; exact pm_addc _ _ 1 rfl (by omega) (by omega)
  · rw [e64, pk_un (by decide), e49, pk_un (by decide), e37, pk_us, e36, a2]; exact pm_addc _ _ 1 rfl (by omega) (by omega)
  · rw [e64, pk_un (by decide), e49, pk_us, a3]
  · rw [e64, pk_us, e63, a4]
theorem PAL_t2 {v v1 k k1 W : Nat → Int32} {m6 m18 c : Int32} (hc : 0 ≤ c.toInt ∧ c.toInt ≤ 23) (e7 : v1 = upd v 1 m6) (e6 : m6 = v 1 + 1) (e19 : k1 = upd k c.toInt.toNat m18) (e18 : m18 = k c.toInt.toNat + 1) (d : ¬ (k1 c.toInt.toNat).toInt = 1) : (∀ N n, PAL v k W N n → n < 1000 → PAL v1 k1 W (upN N c.toInt.toNat) (n + 1)) ∧ (∀ i, i = 0 ∨ 5 ≤ i → v1 i = v i) := by
  refine ⟨fun N n h hn => ?_, fun i hi => by rw [e7, pk_un (by omega)]⟩
  have h1 := h
  obtain ⟨p1, p2, p3, p4, p5, p6, p7, p8⟩ := h1
  have q1 := p1 c.toInt.toNat (by omega)
  have q2 := p6 c.toInt.toNat
  have q4 := p6 0
  refine PAL_old h hc hn (fun x hx => by rw [e19, pk_un hx]) (by rw [e19, pk_us, e18]; exact pm_addc _ _ 1 rfl (by omega) (by omega)) d ?_ ?_ ?_ ?_
  · rw [e7, pk_us, e6]; exact pm_addc _ _ 1 rfl (by omega) (by omega)
  · rw [e7, pk_un (by decide)]
  · rw [e7, pk_un (by decide)]
  · rw [e7, pk_un (by decide)]
theorem PAL_set {v k W c : Nat → Int32} {l j : Nat} {n : Int} (hc : ok24 c) (h : PAL v k W (nc c l j) n) : v 3 = setF c l j := b_ext (fun i hi => by rw [h.2.2.2.1 i hi, bt_set hc hi])
theorem PAL_kd {v k W c : Nat → Int32} {l j : Nat} {n : Int} (hc : ok24 c) (h : PAL v k W (nc c l j) n) : (v 2).toInt = (cntB (setF c l j) 24 : Int) := by rw [← PAL_set hc h]; exact h.2.2.1
noncomputable def sS (c : Nat → Int32) (l r : Int) : Int32 := setF c l.toNat (r + 1 - l).toNat
theorem sS_eq {c d : Nat → Int32} {n l r : Int} (hc : ∀ j : Nat, (j : Int) < n → c j = d j) (h : 0 ≤ l ∧ r < n) : sS c l r = sS d l r := setF_eq _ (fun j hi hj => hc j (by omega))
end
section
/-! colours by their bits: the k-th, those with more than a part -/
noncomputable def bf (s : Int32) (j : Nat) : Int32 := if bt s j = true then 1 else 0
theorem bf_1 {s : Int32} {j : Nat} : bf s j = 1 ↔ bt s j = true := by
  unfold bf
  by_cases h : bt s j = true
  · rw [if_pos h]; exact ⟨fun _ => h, fun _ => rfl⟩
  · rw [if_neg h]; exact ⟨fun e => absurd e (by decide), fun e => absurd e h⟩
theorem an_1 {s c : Int32} (h : 0 ≤ c.toInt ∧ c.toInt ≤ 31) : s &&& ((1 : Int32) <<< (c &&& 31)) = 0 ↔ bt s c.toInt.toNat = false := by
  constructor
  · intro e
    have h1 := b_and s ((1 : Int32) <<< (c &&& 31)) c.toInt.toNat
    rw [e, b_0, b_one h (by omega), decide_eq_true rfl, Bool.and_true] at h1
    exact h1.symm
  · intro e
    refine b_ext (fun i hi => ?_)
    rw [b_and, b_one h hi, b_0]
    by_cases q : i = c.toInt.toNat
    · rw [q, e]; rfl
    · rw [decide_eq_false q, Bool.and_false]
theorem by1 {s c : Int32} (h : 0 ≤ c.toInt ∧ c.toInt ≤ 31) (e : ¬ s &&& ((1 : Int32) <<< (c &&& 31)) = 0) : bf s c.toInt.toNat = 1 := by
  refine bf_1.mpr ?_
  cases q : bt s c.toInt.toNat with
  | true => rfl
  | false => exact absurd ((an_1 h).mpr q) e
end
section
section
variable {l : Launch} {g : pm_G} {A0 : pm_H} {K nn dn : Nat} {q : Nat → Nat} {w : Nat → Int32} {e : Nat → Nat → Int32} {v : Nat → Int32} {f : Nat → Nat → Int32}
set_option maxRecDepth 100000 in
set_option maxHeartbeats 2000000 in
theorem F_X2_clear (hI : cw_I K nn dn q w e) (hs : cw_S v f)   : pm_Mt l g 56 1 0 0 [.ref (q 2)] (cw A0 g K nn dn q w e v f) (cw_Qs A0 g K nn dn q w e (fun r v2 f2 => r = none ∧ ((True) ∧ (PAL v2 (f2 14) (e 15) (fun _ => 0) 0 ∧ (∀ i, i ≠ 14 → f2 i = f i) ∧ (∀ i, i = 0 ∨ 5 ≤ i → v2 i = v i))))) := by
  refine mt_X2_clear rfl (fun J hC => ?_)
  have ro_nn : cw_ro K nn := hI.2.1.2.1
  have ro_dn : cw_ro K dn := hI.2.1.2.2.1
  have hu1 := hI.2.1
  unfold cw_W at hu1
  refine hC.1 0 0 _ _ rfl _ _ _ _ _ ?_
  refine Exists.intro _ (And.intro (cw_o2 hI.1) ?_)
  have k0 : (0 : Int32).toInt = 0 := rfl
  refine Exists.intro _ (Exists.intro _ (Exists.intro _ (Exists.intro _ (And.intro (c_fill (cw_a14 hI.1) (by decide) (0 : Int32)) (And.intro rfl (fun r9 A9 h9 => ?_))))))
  obtain ⟨rfl, rfl⟩ := h9
  rw [cw_s14 hI.1]
  obtain ⟨f2, ef2⟩ : ∃ z9, z9 = va_up f 14 (fun j => if j < 24 then (0 : Int32) else f 14 j) := ⟨_, rfl⟩
  rw [← ef2]
  have hs2 : cw_S v f2 := by rw [ef2]; exact cw_S_fr hs _ _ (by decide) (by decide)
  have pf_5 := ef2
  refine Exists.intro _ (And.intro (cw_o2 hI.1) (And.intro rfl ?_))
  rw [cw_p_length hI.1]
  obtain ⟨v3, ev3⟩ : ∃ z9, z9 = upd v 1 (0 : Int32) := ⟨_, rfl⟩
  rw [← ev3]
  have hs3 : cw_S v3 f2 := by rw [ev3]; exact cw_S_v hs2 1 _ (by decide)
  have ev3_0 : (v3 0).toInt = (v 0).toInt := by rw [ev3]; rfl
  have pv_10 := ev3
  refine Exists.intro _ (And.intro (cw_o2 hI.1) (And.intro rfl ?_))
  rw [cw_p_kinds hI.1]
  obtain ⟨v4, ev4⟩ : ∃ z9, z9 = upd v3 2 (0 : Int32) := ⟨_, rfl⟩
  rw [← ev4]
  have hs4 : cw_S v4 f2 := by rw [ev4]; exact cw_S_v hs3 2 _ (by decide)
  have ev4_0 : (v4 0).toInt = (v3 0).toInt := by rw [ev4]; rfl
  have pv_15 := ev4
  refine Exists.intro _ (And.intro (cw_o2 hI.1) (And.intro rfl ?_))
  rw [cw_p_bits hI.1]
  obtain ⟨v5, ev5⟩ : ∃ z9, z9 = upd v4 3 (0 : Int32) := ⟨_, rfl⟩
  rw [← ev5]
  have hs5 : cw_S v5 f2 := by rw [ev5]; exact cw_S_v hs4 3 _ (by decide)
  have ev5_0 : (v5 0).toInt = (v4 0).toInt := by rw [ev5]; rfl
  have pv_20 := ev5
  refine Exists.intro _ (And.intro (cw_o2 hI.1) (And.intro rfl ?_))
  rw [cw_p_mass hI.1]
  obtain ⟨v6, ev6⟩ : ∃ z9, z9 = upd v5 4 (0 : Int32) := ⟨_, rfl⟩
  rw [← ev6]
  have hs6 : cw_S v6 f2 := by rw [ev6]; exact cw_S_v hs5 4 _ (by decide)
  have ev6_0 : (v6 0).toInt = (v5 0).toInt := by rw [ev6]; rfl
  have pv_25 := ev6
  exact ⟨rfl, rfl, v6, f2, rfl, hs6, rfl, by exact True.intro, by exact ⟨PAL_0 (fun x9 h9 => (by rw [pf_5, va_us, if_pos h9])) (by rw [pv_25, pk_un (by decide), pv_20, pk_un (by decide), pv_15, pk_un (by decide), pv_10, pk_us]) (by rw [pv_25, pk_un (by decide), pv_20, pk_un (by decide), pv_15, pk_us]) (by rw [pv_25, pk_un (by decide), pv_20, pk_us]) (by rw [pv_25, pk_us]), fun i9 h9 => (by rw [pf_5, va_un h9]), fun i9 h9 => (by rw [pv_25, pk_un (by omega), pv_20, pk_un (by omega), pv_15, pk_un (by omega), pv_10, pk_un (by omega)])⟩⟩

set_option maxRecDepth 100000 in
set_option maxHeartbeats 2000000 in
theorem F_X2_take (hI : cw_I K nn dn q w e) (hs : cw_S v f) (x1 : Int32) (p0 : 0 ≤ x1.toInt ∧ x1.toInt ≤ 23) : pm_Mt l g 57 0 0 0 [.ref (q 2), .int x1] (cw A0 g K nn dn q w e v f) (cw_Qs A0 g K nn dn q w e (fun r v2 f2 => r = none ∧ ((True) ∧ ((∀ N n, PAL v (f 14) (e 15) N n → n < 1000 → PAL v2 (f2 14) (e 15) (upN N x1.toInt.toNat) (n + 1)) ∧ (∀ i, i ≠ 14 → f2 i = f i) ∧ (∀ i, i = 0 ∨ 5 ≤ i → v2 i = v i))))) := by
  refine mt_X2_take rfl (fun J hC => ?_)
  have ro_nn : cw_ro K nn := hI.2.1.2.1
  have ro_dn : cw_ro K dn := hI.2.1.2.2.1
  have hu1 := hI.2.1
  unfold cw_W at hu1
  have rg_x1 := pm_rng x1
  refine hC.1 0 0 _ _ rfl _ _ _ _ _ ?_
  refine Exists.intro _ (And.intro (cw_o2 hI.1) ?_)
  have k1 : (1 : Int32).toInt = 1 := rfl
  intro m2 em_6
  refine Exists.intro _ (And.intro (cw_o2 hI.1) (And.intro rfl ?_))
  rw [cw_p_length hI.1]
  obtain ⟨v3, ev3⟩ : ∃ z9, z9 = upd v 1 m2 := ⟨_, rfl⟩
  rw [← ev3]
  have hs3 : cw_S v3 f := by rw [ev3]; exact cw_S_v hs 1 _ (by decide)
  have ev3_0 : (v3 0).toInt = (v 0).toInt := by rw [ev3]; rfl
  have pv_7 := ev3
  refine Exists.intro _ (And.intro (cw_o2 hI.1) ?_)
  refine Exists.intro _ (Exists.intro _ (And.intro (Or.inl (cw_a14 hI.1)) (And.intro (by omega) ?_)))
  intro m4 em_18
  refine Exists.intro _ (Exists.intro _ (And.intro (cw_a14 hI.1) (And.intro (by omega) ?_)))
  rw [cw_s14 hI.1]
  obtain ⟨f5, ef5⟩ : ∃ z9, z9 = va_up f 14 (upd (f 14) (x1).toInt.toNat m4) := ⟨_, rfl⟩
  rw [← ef5]
  have hs5 : cw_S v3 f5 := by rw [ef5]; exact cw_S_fr hs3 _ _ (by decide) (by decide)
  have pf_19 := ef5
  refine Exists.intro _ (And.intro (cw_o2 hI.1) ?_)
  refine Exists.intro _ (Exists.intro _ (And.intro (Or.inl (cw_a14 hI.1)) (And.intro (by omega) ?_)))
  refine And.intro (fun c6 => ?_) (fun c6 => ?_)
  · skip
    have dc6 := pm_neI c6
    refine hC.1 1 67 _ _ rfl _ _ _ _ _ ?_
    exact ⟨rfl, rfl, v3, f5, rfl, hs5, rfl, by exact True.intro, by first | (have t9 := PAL_t1 (W := e 15) (k := f 14) (k1 := f5 14) p0 pv_7 em_6 (by rw [pf_19, va_us]) em_18 (by omega) pv_37 em_36 pv_49 pv_64 em_63; exact ⟨t9.1, fun i9 h9 => (by rw [pf_19, va_un h9]), t9.2⟩) | (have t9 := PAL_t2 (W := e 15) (k := f 14) (k1 := f5 14) p0 pv_7 em_6 (by rw [pf_19, va_us]) em_18 (by omega); exact ⟨t9.1, fun i9 h9 => (by rw [pf_19, va_un h9]), t9.2⟩)⟩
  · skip
    have dc6 : ((f5 14 (x1).toInt.toNat)).toInt = ((1 : Int32) : Int32).toInt := congrArg Int32.toInt c6
    refine Exists.intro _ (And.intro (cw_o2 hI.1) ?_)
    intro m7 em_36
    refine Exists.intro _ (And.intro (cw_o2 hI.1) (And.intro rfl ?_))
    rw [cw_p_kinds hI.1]
    obtain ⟨v8, ev8⟩ : ∃ z9, z9 = upd v3 2 m7 := ⟨_, rfl⟩
    rw [← ev8]
    have hs8 : cw_S v8 f5 := by rw [ev8]; exact cw_S_v hs5 2 _ (by decide)
    have ev8_0 : (v8 0).toInt = (v3 0).toInt := by rw [ev8]; rfl
    have pv_37 := ev8
    refine Exists.intro _ (And.intro (cw_o2 hI.1) ?_)
    refine Exists.intro _ (And.intro (cw_o2 hI.1) (And.intro rfl ?_))
    rw [cw_p_bits hI.1]
    obtain ⟨v9, ev9⟩ : ∃ z9, z9 = upd v8 3 ((v8 3) ||| ((1 : Int32) <<< (x1 &&& 31))) := ⟨_, rfl⟩
    rw [← ev9]
    have hs9 : cw_S v9 f5 := by rw [ev9]; exact cw_S_v hs8 3 _ (by decide)
    have ev9_0 : (v9 0).toInt = (v8 0).toInt := by rw [ev9]; rfl
    have pv_49 := ev9
    refine Exists.intro _ (And.intro (cw_o2 hI.1) ?_)
    refine Exists.intro _ (And.intro (cw_o2 hI.1) ?_)
    refine Exists.intro _ (Exists.intro _ (And.intro (Or.inl (cw_a15 hI.1)) (And.intro (by omega) ?_)))
    intro m10 em_63
    refine Exists.intro _ (And.intro (cw_o2 hI.1) (And.intro rfl ?_))
    rw [cw_p_mass hI.1]
    obtain ⟨v11, ev11⟩ : ∃ z9, z9 = upd v9 4 m10 := ⟨_, rfl⟩
    rw [← ev11]
    have hs11 : cw_S v11 f5 := by rw [ev11]; exact cw_S_v hs9 4 _ (by decide)
    have ev11_0 : (v11 0).toInt = (v9 0).toInt := by rw [ev11]; rfl
    have pv_64 := ev11
    refine hC.1 1 67 _ _ rfl _ _ _ _ _ ?_
    exact ⟨rfl, rfl, v11, f5, rfl, hs11, rfl, by exact True.intro, by first | (have t9 := PAL_t1 (W := e 15) (k := f 14) (k1 := f5 14) p0 pv_7 em_6 (by rw [pf_19, va_us]) em_18 (by omega) pv_37 em_36 pv_49 pv_64 em_63; exact ⟨t9.1, fun i9 h9 => (by rw [pf_19, va_un h9]), t9.2⟩) | (have t9 := PAL_t2 (W := e 15) (k := f 14) (k1 := f5 14) p0 pv_7 em_6 (by rw [pf_19, va_us]) em_18 (by omega); exact ⟨t9.1, fun i9 h9 => (by rw [pf_19, va_un h9]), t9.2⟩)⟩

end
end
section
section
variable {l : Launch} {g : pm_G} {A0 : pm_H} {h : Nat} {q : Nat → Nat}
set_option maxRecDepth 100000 in
set_option maxHeartbeats 2000000 in
theorem F_X11_bits (A : pm_H) (x0 : Int32)  : pm_Mt l g 207 0 0 0 [.int x0] A (md_Qp A (fun r => r.toInt = (cntB x0 32 : Int))) := by
  refine mt_X11_bits rfl (fun J hC => ?_)
  have rg_x0 := pm_rng x0
  have cl9 := cntB_le x0 32
  refine hC.1 0 0 _ _ rfl _ _ _ _ _ ?_
  have k0 : (0 : Int32).toInt = 0 := rfl
  have lp1 : ∀ (n : Nat) (z1_4 : Int32) (z2_4 : Int32), (0 ≤ z1_4.toInt) → (z1_4.toInt + (cntB z2_4 32 : Int) = (cntB x0 32 : Int)) → (z2_4.toBitVec.toNat : Int) < (n : Int) → J 4 [some (.int x0), some (.int z1_4), some (.int z2_4)] [] A 0 0 := by
    intro n
    induction n with
    | zero =>
      intro z1_4 z2_4 j0_4 j1_4 j2_4
      omega
    | succ n ih2 =>
      intro z1_4 z2_4 j0_4 j1_4 j2_4
      refine hC.1 1 4 _ _ rfl _ _ _ _ _ ?_
      refine And.intro (fun c3 => ?_) (fun c3 => ?_)
      · skip
        have dc3 : (z2_4).toInt = (0 : Int32).toInt := congrArg Int32.toInt c3
        refine hC.1 2 20 _ _ rfl _ _ _ _ _ ?_
        exact ⟨rfl, fun e9 => absurd e9 (by decide), rfl, z1_4, rfl, rfl, by have h8 : cntB z2_4 32 = 0 := (by rw [show z2_4 = 0 by assumption]; exact cntB_z 32); omega⟩
      · skip
        have dc3 := pm_neI c3
        have k1 : (1 : Int32).toInt = 1 := rfl
        intro m4 em_8
        try have e4 : m4.toInt = (z1_4).toInt + (1) := by rw [em_8]; exact pm_addc _ _ (1) rfl (by omega) (by omega)
        intro m5 em_14
        exact ih2 m4 (z2_4 &&& m5) (by omega) (by have h8 := pcB (x := z2_4) (by assumption); rw [← em_14] at h8; omega) (by have h1 := pm_bits_lt (x := z2_4) (by assumption); rw [em_14]; omega)
  exact lp1 ((x0.toBitVec.toNat : Int)).toNat.succ (0 : Int32) x0 (by omega) (by omega) (by omega)

end
end
section
/-! how many colours from l to r: what grows with the span -/
noncomputable def Kc (c : Nat → Int32) (l r : Int) : Int := (cntB (sS c l r) 24 : Int)
theorem Kc_0 (c : Nat → Int32) (l r : Int) : 0 ≤ Kc c l r ∧ Kc c l r ≤ 24 := by
  have := cntB_le (sS c l r) 24
  unfold Kc; omega
theorem Kc_eq {c d : Nat → Int32} {n l r : Int} (hc : ∀ j : Nat, (j : Int) < n → c j = d j) (h : 0 ≤ l ∧ r < n) : Kc c l r = Kc d l r := by
  unfold Kc; rw [sS_eq hc h]
theorem setF_p {c : Nat → Int32} {l p : Int} (h : 0 ≤ l ∧ l ≤ p) : setF c l.toNat (p - l).toNat ||| ((1 : Int32) <<< (c p.toNat &&& 31)) = setF c l.toNat (p + 1 - l).toNat := by
  rw [show (p + 1 - l).toNat = (p - l).toNat + 1 by omega, setF, show l.toNat + (p - l).toNat = p.toNat by omega]
theorem PAL_tk {v v1 k k1 W c : Nat → Int32} {l n : Int} {x : Nat} (h : PAL v k W (nc c l.toNat n.toNat) n) (h0 : 0 ≤ l ∧ 0 ≤ n ∧ n < 1000) (ht : ∀ N m, PAL v k W N m → m < 1000 → PAL v1 k1 W (upN N x) (m + 1)) (hx : x = (c (l + n).toNat).toInt.toNat) : PAL v1 k1 W (nc c l.toNat (n + 1).toNat) (n + 1) := by
  subst hx
  have b := ht _ _ h h0.2.2
  have e : nc c l.toNat (n + 1).toNat = upN (nc c l.toNat n.toNat) (c (l + n).toNat).toInt.toNat := by
    rw [show (n + 1).toNat = n.toNat + 1 by omega, nc, show l.toNat + n.toNat = (l + n).toNat by omega]
  rw [e]
  exact b
theorem PAL_K {v k W c : Nat → Int32} {l r n : Int} (hc : ok24 c) (h : PAL v k W (nc c l.toNat n.toNat) n) (hn : n = r + 1 - l) : (v 2).toInt = Kc c l r := by
  subst hn
  exact PAL_kd hc h
/-! the longest span of which something holds -/
end
section
/-! bitCount: byte by byte -/
noncomputable def by4 (n a b c d : Nat) : Prop := n = a + 256 * b + 65536 * c + 16777216 * d ∧ a < 256 ∧ b < 256 ∧ c < 256 ∧ d < 256
end
section
/-! the shelf: which colour goes, what is on it, how many misses -/
noncomputable def b1 (x : Int32) : Int32 := (1 : Int32) <<< (x &&& 31)
end
section
/-! changed: how many names are otherwise now than behind an edit -/
noncomputable def qn (k : Nat → Int32) (n : Int) (x : Int32) : Int := nextEq k x 0 n.toNat
end
section
/-! report: the k-th by its bond, those without ahead of all -/
noncomputable def la (c : Nat → Int32) (i : Nat) : Int := lastEq c (c i) i
noncomputable def kR (c : Nat → Int32) (i : Nat) : Int := if la c i < 0 then (i : Int) - 160 else la c i
end
section
/-! the questions: an answer by its row, all of them, one more -/
noncomputable def cro (i : Int) : Nat := (40 + 4 * (i % 41)).toNat
noncomputable def cC (e : Nat → Nat → Int32) (i : Int) : Nat → Int32 := e (cro i + 1)
noncomputable def cM (e : Nat → Nat → Int32) (i : Int) : Nat → Int32 := e (cro i + 2)
end
section
/-! the best parting: what parts from a place on are worth, how the first of them ends -/
noncomputable def KD (c : Nat → Int32) (n l r : Int) : Int := if 0 ≤ l ∧ r < n then Kc c l r else 0
theorem KD_eq {c d : Nat → Int32} {n : Int} (hc : ∀ j : Nat, (j : Int) < n → c j = d j) : KD c n = KD d n := funext (fun l => funext (fun r => by
  unfold KD
  by_cases h : 0 ≤ l ∧ r < n
  · rw [if_pos h, if_pos h, Kc_eq hc h]
  · rw [if_neg h, if_neg h]))
theorem KD_b (c : Nat → Int32) (n l r : Int) : 0 ≤ KD c n l r ∧ KD c n l r ≤ 24 := by
  unfold KD
  have h := Kc_0 c l r
  split <;> omega
theorem KD_y {c : Nat → Int32} {n l r : Int} (h : 0 ≤ l ∧ r < n) : KD c n l r = Kc c l r := if_pos h
noncomputable def ITS (K : Int → Int → Int) (g : Int → Int) (l r : Int) : Int := if g (r + 1) = -1 then -1 else K l r + g (r + 1)
noncomputable def bmx (K : Int → Int → Int) (g : Int → Int) (l : Int) : Nat → Int
  | 0 => -1
  | j + 1 => if bmx K g l j < ITS K g l (l + j) then ITS K g l (l + j) else bmx K g l j
noncomputable def bfe (K : Int → Int → Int) (g : Int → Int) (l : Int) : Nat → Int
  | 0 => -1
  | j + 1 => if bmx K g l j < ITS K g l (l + j) then l + j else bfe K g l j
noncomputable def BW (K : Int → Int → Int) (n : Int) : Nat → Int → Int
  | 0, l => if l = n then 0 else -1
  | k + 1, l => bmx K (BW K n k) l (n - l).toNat
noncomputable def BE (K : Int → Int → Int) (n : Int) : Nat → Int → Int
  | 0, _ => -1
  | k + 1, l => bfe K (BW K n k) l (n - l).toNat
noncomputable def bst (K : Int → Int → Int) (n : Int) (m : Nat) : Nat → Int
  | 0 => 0
  | p + 1 => BE K n (m - p) (bst K n m p) + 1
noncomputable def KB (K : Int → Int → Int) : Prop := ∀ l r, 0 ≤ K l r ∧ K l r ≤ 24
theorem bmx_ge {K : Int → Int → Int} {g : Int → Int} {l : Int} : ∀ j, -1 ≤ bmx K g l j
  | 0 => Int.le_refl _
  | j + 1 => by
    have ih := bmx_ge (K := K) (g := g) (l := l) j
    rw [bmx]
    split <;> omega
theorem ITS_b {K : Int → Int → Int} {g : Int → Int} {B : Int} (hK : KB K) (hg : ∀ x, -1 ≤ g x ∧ g x ≤ B) (hB : 0 ≤ B) (l r : Int) : -1 ≤ ITS K g l r ∧ ITS K g l r ≤ B + 24 := by
  unfold ITS
  have h1 := hK l r
  have h2 := hg (r + 1)
  split <;> omega
theorem bmx_b {K : Int → Int → Int} {g : Int → Int} {B l : Int} (hK : KB K) (hg : ∀ x, -1 ≤ g x ∧ g x ≤ B) (hB : 0 ≤ B) : ∀ j, -1 ≤ bmx K g l j ∧ bmx K g l j ≤ B + 24
  | 0 => by show -1 ≤ (-1 : Int) ∧ (-1 : Int) ≤ B + 24; omega
  | j + 1 => by
    have ih := bmx_b (l := l) hK hg hB j
    have h := ITS_b hK hg hB l (l + j)
    rw [bmx]
    split <;> omega
theorem bmx_le {K : Int → Int → Int} {g : Int → Int} {l : Int} : ∀ (j : Nat) (r : Int), l ≤ r → r < l + j → ITS K g l r ≤ bmx K g l j
  | 0, r, h1, h2 => by omega
  | j + 1, r, h1, h2 => by
    rw [bmx]
    by_cases e : r = l + j
    · subst e; split <;> omega
    · have ih := bmx_le (K := K) (g := g) (l := l) j r h1 (by omega)
      split <;> omega
theorem bfe_sp {K : Int → Int → Int} {g : Int → Int} {l : Int} : ∀ j : Nat, ¬ bmx K g l j = -1 → (l ≤ bfe K g l j ∧ bfe K g l j < l + j) ∧ ITS K g l (bfe K g l j) = bmx K g l j ∧ ∀ r, l ≤ r → r < bfe K g l j → ITS K g l r < bmx K g l j
  | 0, h => absurd rfl h
  | j + 1, h => by
    by_cases c : bmx K g l j < ITS K g l (l + j)
    · rw [bmx, bfe, if_pos c, if_pos c]
      refine ⟨by omega, rfl, fun r h1 h2 => ?_⟩
      have q := bmx_le (K := K) (g := g) (l := l) j r h1 h2
      omega
    · rw [bmx, if_neg c] at h
      obtain ⟨a1, a2, a3⟩ := bfe_sp j h
      rw [bmx, bfe, if_neg c, if_neg c]
      exact ⟨by omega, a2, a3⟩
theorem BW_b {K : Int → Int → Int} (hK : KB K) (n : Int) : ∀ (k : Nat) (l : Int), -1 ≤ BW K n k l ∧ BW K n k l ≤ 24 * k
  | 0, l => by
    show -1 ≤ (if l = n then (0 : Int) else -1) ∧ (if l = n then (0 : Int) else -1) ≤ 24 * ((0 : Nat) : Int)
    split <;> omega
  | k + 1, l => by
    have h := bmx_b (K := K) (g := BW K n k) (B := 24 * (k : Int)) (l := l) hK (fun x => BW_b hK n k x) (by omega) (n - l).toNat
    show -1 ≤ bmx K (BW K n k) l (n - l).toNat ∧ bmx K (BW K n k) l (n - l).toNat ≤ 24 * ((k + 1 : Nat) : Int)
    omega
theorem BW_ok {K : Int → Int → Int} (hK : KB K) {n : Int} : ∀ (k : Nat) (l : Int), l + (k + 1) ≤ n → 0 ≤ BW K n (k + 1) l
  | 0, l, h => by
    have q := bmx_le (K := K) (g := BW K n 0) (l := l) (n - l).toNat (n - 1) (by omega) (by omega)
    have e : ITS K (BW K n 0) l (n - 1) = K l (n - 1) := by
      unfold ITS
      rw [show n - 1 + 1 = n by omega, show BW K n 0 n = 0 from if_pos rfl, if_neg (by decide), Int.add_zero]
    have hk := hK l (n - 1)
    show 0 ≤ bmx K (BW K n 0) l (n - l).toNat
    omega
  | k + 1, l, h => by
    have ih := BW_ok hK (n := n) k (l + 1) (by omega)
    have q := bmx_le (K := K) (g := BW K n (k + 1)) (l := l) (n - l).toNat l (by omega) (by omega)
    have e : ITS K (BW K n (k + 1)) l l = K l l + BW K n (k + 1) (l + 1) := if_neg (by omega)
    have hk := hK l l
    show 0 ≤ bmx K (BW K n (k + 1)) l (n - l).toNat
    omega
theorem BE_sp {K : Int → Int → Int} {n : Int} {k : Nat} {l : Int} (h : ¬ BW K n (k + 1) l = -1) (hl : l ≤ n) : (l ≤ BE K n (k + 1) l ∧ BE K n (k + 1) l < n) ∧ ITS K (BW K n k) l (BE K n (k + 1) l) = BW K n (k + 1) l ∧ ∀ r, l ≤ r → r < BE K n (k + 1) l → ITS K (BW K n k) l r < BW K n (k + 1) l := by
  have q := bfe_sp (K := K) (g := BW K n k) (l := l) (n - l).toNat h
  refine ⟨?_, q.2⟩
  have q1 := q.1
  show l ≤ bfe K (BW K n k) l (n - l).toNat ∧ bfe K (BW K n k) l (n - l).toNat < n
  omega
theorem bst_ok {K : Int → Int → Int} (hK : KB K) {n : Int} {m : Nat} (hm : 1 ≤ m) (hn : (m : Int) ≤ n) : ∀ p : Nat, p < m → (0 ≤ bst K n m p ∧ bst K n m p < n) ∧ ¬ BW K n (m - p) (bst K n m p) = -1
  | 0, _ => by
    have h := BW_ok hK (n := n) (m - 1) 0 (by omega)
    rw [show m - 1 + 1 = m by omega] at h
    show (0 ≤ (0 : Int) ∧ (0 : Int) < n) ∧ ¬ BW K n m 0 = -1
    omega
  | p + 1, hp => by
    obtain ⟨a1, a2⟩ := bst_ok hK hm hn p (by omega)
    rw [show m - p = (m - (p + 1)) + 1 by omega] at a2
    obtain ⟨b1, b2, _⟩ := BE_sp a2 (by omega)
    have e : bst K n m (p + 1) = BE K n ((m - (p + 1)) + 1) (bst K n m p) + 1 := by
      show BE K n (m - p) (bst K n m p) + 1 = _
      rw [show m - p = (m - (p + 1)) + 1 by omega]
    have c1 : ¬ BW K n (m - (p + 1)) (BE K n ((m - (p + 1)) + 1) (bst K n m p) + 1) = -1 := fun q => by
      unfold ITS at b2
      rw [if_pos q] at b2
      exact a2 b2.symm
    rw [e]
    refine ⟨?_, c1⟩
    have c2 : BE K n ((m - (p + 1)) + 1) (bst K n m p) + 1 ≠ n := fun q => by
      rw [q] at c1
      obtain ⟨u, hu⟩ : ∃ u, m - (p + 1) = u + 1 := ⟨m - (p + 1) - 1, by omega⟩
      rw [hu] at c1
      apply c1
      show bmx K (BW K n u) n (n - n).toNat = -1
      rw [Int.sub_self]; rfl
    omega
noncomputable def BST (c : Nat → Int32) (n m i r : Int) : Prop := (¬ ((1 ≤ m ∧ m ≤ 8 ∧ m ≤ n) ∧ -1 ≤ i ∧ i < m) ∧ r = -1) ∨ (((1 ≤ m ∧ m ≤ 8 ∧ m ≤ n) ∧ -1 ≤ i ∧ i < m) ∧ ((i = -1 ∧ r = BW (KD c n) n m.toNat 0) ∨ (0 ≤ i ∧ r = bst (KD c n) n m.toNat (i.toNat + 1) - 1)))
theorem BST_u {c d : Nat → Int32} {n m i r s : Int} (hc : ∀ j : Nat, (j : Int) < n → c j = d j) (a : BST c n m i r) (b : BST d n m i s) : r = s := by
  unfold BST at a
  rw [KD_eq hc] at a
  rcases a with ⟨a1, a2⟩ | ⟨a1, a2⟩
  · rcases b with ⟨b1, b2⟩ | ⟨b1, b2⟩
    · omega
    · exact absurd b1 a1
  · rcases b with ⟨b1, b2⟩ | ⟨b1, b2⟩
    · exact absurd a1 b1
    · rcases a2 with ⟨p1, p2⟩ | ⟨p1, p2⟩
      · rcases b2 with ⟨q1, q2⟩ | ⟨q1, q2⟩
        · rw [p2, q2]
        · omega
      · rcases b2 with ⟨q1, q2⟩ | ⟨q1, q2⟩
        · omega
        · rw [p2, q2]
noncomputable def wv (x : Int) : Int := if x = -1 then -268435456 else x
theorem wv_n {x : Int} (h : x = -1) : wv x = -268435456 := if_pos h
theorem wv_y {x : Int} (h : ¬ x = -1) : wv x = x := if_neg h
noncomputable def BSP (K : Int → Int → Int) (g : Int → Int) (l : Int) (j : Nat) (t z : Int) : Prop := ((t ≤ z ∨ t < 0) → bmx K g l (j + 1) = bmx K g l j ∧ bfe K g l (j + 1) = bfe K g l j) ∧ (¬ (t ≤ z ∨ t < 0) → bmx K g l (j + 1) = t ∧ bfe K g l (j + 1) = l + j ∧ ¬ t = -1)
theorem bstep {K : Int → Int → Int} {g : Int → Int} {l : Int} {j : Nat} {t z : Int} (hg : ∀ x, -1 ≤ g x) (hK : KB K) (ht : t = K l (l + j) + wv (g (l + j + 1))) (hz : z = wv (bmx K g l j)) : BSP K g l j t z := by
  unfold BSP
  have h1 := hK l (l + j)
  have h2 := hg (l + j + 1)
  have h3 := bmx_ge (K := K) (g := g) (l := l) j
  rw [bmx, bfe]
  by_cases e : g (l + j + 1) = -1
  · rw [wv_n e] at ht
    have i1 : ITS K g l (l + j) = -1 := if_pos e
    rw [i1]
    refine ⟨fun _ => ?_, fun c => by omega⟩
    rw [if_neg (by omega), if_neg (by omega)]
    exact ⟨rfl, rfl⟩
  · rw [wv_y e] at ht
    have i1 : ITS K g l (l + j) = t := by rw [ht]; exact if_neg e
    rw [i1]
    by_cases u : bmx K g l j = -1
    · rw [wv_n u] at hz
      refine ⟨fun c => by omega, fun c => ?_⟩
      rw [if_pos (by omega), if_pos (by omega)]
      exact ⟨rfl, rfl, by omega⟩
    · rw [wv_y u] at hz
      refine ⟨fun c => ?_, fun c => ?_⟩
      · rw [if_neg (by omega), if_neg (by omega)]; exact ⟨rfl, rfl⟩
      · rw [if_pos (by omega), if_pos (by omega)]; exact ⟨rfl, rfl, by omega⟩
theorem cstep {K : Int → Int → Int} {g : Int → Int} {l : Int} {j : Nat} : bmx K g l (j + 1) = max (bmx K g l j) (ITS K g l (l + j)) := by
  rw [bmx]
  split <;> omega
theorem ITS_n {K : Int → Int → Int} {g : Int → Int} {l r : Int} (h : g (r + 1) = -1) : ITS K g l r = -1 := if_pos h
theorem ITS_y {K : Int → Int → Int} {g : Int → Int} {l r : Int} (h : ¬ g (r + 1) = -1) : ITS K g l r = K l r + g (r + 1) := if_neg h
theorem wv_b {x : Int} (h : -1 ≤ x ∧ x ≤ 192) : -268435456 ≤ wv x ∧ wv x ≤ 192 := by
  unfold wv
  split <;> omega
noncomputable def LBK (K : Int → Int → Int) (n : Int) (F G : Nat → Int32) (k l : Nat) : Prop := (F (161 * k + l)).toInt = wv (BW K n k l) ∧ (1 ≤ k → ¬ BW K n k l = -1 → (G (161 * k + l)).toInt = BE K n k l)
theorem LBK_fr {K : Int → Int → Int} {n : Int} {F G F2 G2 : Nat → Int32} {k l : Nat} (h : LBK K n F G k l) (hF : F2 (161 * k + l) = F (161 * k + l)) (hG : G2 (161 * k + l) = G (161 * k + l)) : LBK K n F2 G2 k l := by
  unfold LBK
  rw [hF, hG]; exact h
theorem LBK_0 {K : Int → Int → Int} {n z : Int} {F G : Nat → Int32} {k l : Nat} (hz : z = (l : Int)) (hk : k = 0) (hF : (F (161 * k + l)).toInt = wv (if z = n then 0 else -1)) : LBK K n F G k l := by
  subst hz; subst hk
  exact ⟨hF, fun h => by omega⟩
theorem LBK_n {K : Int → Int → Int} {n : Int} {F G : Nat → Int32} {k l : Nat} (hk : 1 ≤ k) (hl : (l : Int) = n) (hF : (F (161 * k + l)).toInt = -268435456) : LBK K n F G k l := by
  obtain ⟨u, rfl⟩ : ∃ u, k = u + 1 := ⟨k - 1, by omega⟩
  have e : BW K n (u + 1) l = -1 := by
    show bmx K (BW K n u) l (n - l).toNat = -1
    rw [← hl, Int.sub_self]; rfl
  exact ⟨by rw [e, wv_n rfl]; exact hF, fun _ h => absurd e h⟩
theorem BW_bm {K : Int → Int → Int} {n l : Int} {p : Nat} (h : 1 ≤ p) : BW K n p l = bmx K (BW K n (p - 1)) l (n - l).toNat := by
  obtain ⟨u, rfl⟩ : ∃ u, p = u + 1 := ⟨p - 1, by omega⟩
  rfl
theorem BW_e {K : Int → Int → Int} {n l : Int} {p : Nat} (h : 1 ≤ p) (hl : l = n) : BW K n p l = -1 := by
  rw [BW_bm h, hl, Int.sub_self]; rfl
theorem BE_u {K : Int → Int → Int} {n l r : Int} {k : Nat} (hk : 1 ≤ k) (h : ¬ BW K n k l = -1) (hl : l ≤ n) (hr : l ≤ r ∧ r < n) (h1 : ITS K (BW K n (k - 1)) l r = BW K n k l) (h2 : ∀ r9, l ≤ r9 → r9 < r → ¬ ITS K (BW K n (k - 1)) l r9 = BW K n k l) : r = BE K n k l := by
  obtain ⟨u, rfl⟩ : ∃ u, k = u + 1 := ⟨k - 1, by omega⟩
  obtain ⟨a1, a2, a3⟩ := BE_sp h hl
  by_cases c : r < BE K n (u + 1) l
  · have q := a3 r hr.1 c
    have h3 : ITS K (BW K n u) l r = BW K n (u + 1) l := h1
    omega
  · by_cases d : BE K n (u + 1) l < r
    · exact absurd a2 (h2 _ a1.1 d)
    · omega
theorem BE_no {K : Int → Int → Int} {n l : Int} {k : Nat} (hk : 1 ≤ k) (h : ¬ BW K n k l = -1) (hl : l ≤ n) (h2 : ∀ r9, l ≤ r9 → r9 < n → ¬ ITS K (BW K n (k - 1)) l r9 = BW K n k l) : False := by
  obtain ⟨u, rfl⟩ : ∃ u, k = u + 1 := ⟨k - 1, by omega⟩
  obtain ⟨a1, a2, a3⟩ := BE_sp h hl
  exact h2 _ a1.1 a1.2 a2
end
section
section
variable {l : Launch} {g : pm_G} {A0 : pm_H} {K nn dn : Nat} {q : Nat → Nat} {w : Nat → Int32} {e : Nat → Nat → Int32} {v : Nat → Int32} {f : Nat → Nat → Int32}
set_option maxRecDepth 100000 in
set_option maxHeartbeats 2000000 in
theorem F_X3_worthOf (hI : cw_I K nn dn q w e) (hs : cw_S v f) (x1 : Int32) (x2 : Int32)  : pm_Mt l g 145 0 0 0 [.ref (q 8), .int x1, .int x2] (cw A0 g K nn dn q w e v f) (md_Qp (cw A0 g K nn dn q w e v f) (fun r => (0 ≤ x1.toInt ∧ x1.toInt ≤ 8) → (0 ≤ x2.toInt ∧ x2.toInt ≤ 160) → r = f (26 + x1.toInt.toNat) x2.toInt.toNat)) := by
  refine mt_X3_worthOf rfl (fun J hC => ?_)
  have ro_nn : cw_ro K nn := hI.2.1.2.1
  have ro_dn : cw_ro K dn := hI.2.1.2.2.1
  have hu1 := hI.2.1
  unfold cw_W at hu1
  have rg_x1 := pm_rng x1
  have rg_x2 := pm_rng x2
  refine hC.1 0 0 _ _ rfl _ _ _ _ _ ?_
  refine And.intro (fun c2 => ?_) (fun c2 => ?_)
  · skip
    refine hC.1 1 25 _ _ rfl _ _ _ _ _ ?_
    have k0 : (0 : Int32).toInt = 0 := rfl
    refine hC.1 2 26 _ _ rfl _ _ _ _ _ ?_
    refine And.intro (fun _ => ?_) (fun c9 => absurd c9 (by decide))
    refine hC.1 3 42 _ _ rfl _ _ _ _ _ ?_
    have km1 : (-1 : Int32).toInt = -1 := rfl
    refine hC.1 4 43 _ _ rfl _ _ _ _ _ ?_
    exact ⟨rfl, fun e9 => absurd e9 (by decide), rfl, (-1 : Int32), rfl, rfl, by first | (exact fun _ _ => rfl) | (intro h9 h8; exfalso; omega)⟩
  · skip
    have k8 : (8 : Int32).toInt = 8 := rfl
    refine And.intro (fun c3 => ?_) (fun c3 => ?_)
    · skip
      refine hC.1 1 25 _ _ rfl _ _ _ _ _ ?_
      have k0 : (0 : Int32).toInt = 0 := rfl
      refine hC.1 2 26 _ _ rfl _ _ _ _ _ ?_
      refine And.intro (fun _ => ?_) (fun c9 => absurd c9 (by decide))
      refine hC.1 3 42 _ _ rfl _ _ _ _ _ ?_
      have km1 : (-1 : Int32).toInt = -1 := rfl
      refine hC.1 4 43 _ _ rfl _ _ _ _ _ ?_
      exact ⟨rfl, fun e9 => absurd e9 (by decide), rfl, (-1 : Int32), rfl, rfl, by first | (exact fun _ _ => rfl) | (intro h9 h8; exfalso; omega)⟩
    · skip
      refine And.intro (fun c4 => ?_) (fun c4 => ?_)
      · skip
        refine hC.1 1 25 _ _ rfl _ _ _ _ _ ?_
        have k0 : (0 : Int32).toInt = 0 := rfl
        refine hC.1 2 26 _ _ rfl _ _ _ _ _ ?_
        refine And.intro (fun _ => ?_) (fun c9 => absurd c9 (by decide))
        refine hC.1 3 42 _ _ rfl _ _ _ _ _ ?_
        have km1 : (-1 : Int32).toInt = -1 := rfl
        refine hC.1 4 43 _ _ rfl _ _ _ _ _ ?_
        exact ⟨rfl, fun e9 => absurd e9 (by decide), rfl, (-1 : Int32), rfl, rfl, by first | (exact fun _ _ => rfl) | (intro h9 h8; exfalso; omega)⟩
      · skip
        have k160 : (160 : Int32).toInt = 160 := rfl
        refine And.intro (fun c5 => ?_) (fun c5 => ?_)
        · skip
          refine hC.1 1 25 _ _ rfl _ _ _ _ _ ?_
          have k0 : (0 : Int32).toInt = 0 := rfl
          refine hC.1 2 26 _ _ rfl _ _ _ _ _ ?_
          refine And.intro (fun _ => ?_) (fun c9 => absurd c9 (by decide))
          refine hC.1 3 42 _ _ rfl _ _ _ _ _ ?_
          have km1 : (-1 : Int32).toInt = -1 := rfl
          refine hC.1 4 43 _ _ rfl _ _ _ _ _ ?_
          exact ⟨rfl, fun e9 => absurd e9 (by decide), rfl, (-1 : Int32), rfl, rfl, by first | (exact fun _ _ => rfl) | (intro h9 h8; exfalso; omega)⟩
        · skip
          have k1 : (1 : Int32).toInt = 1 := rfl
          refine hC.1 2 26 _ _ rfl _ _ _ _ _ ?_
          refine And.intro (fun c9 => absurd c9 (by decide)) (fun _ => ?_)
          refine Exists.intro _ (And.intro (cw_o8 hI.1) ?_)
          refine Exists.intro _ (Exists.intro _ (And.intro (Or.inr (cw_worths hI.1)) (And.intro (by omega) ?_)))
          have hw6 : (x1).toInt.toNat < 9 := by omega
          rw [cw_ww_lt hw6]
          refine Exists.intro _ (Exists.intro _ (And.intro (Or.inl (cw_wr hI.1 hw6)) (And.intro (by omega) ?_)))
          refine hC.1 4 43 _ _ rfl _ _ _ _ _ ?_
          exact ⟨rfl, fun e9 => absurd e9 (by decide), rfl, (f (26 + (x1).toInt.toNat) (x2).toInt.toNat), rfl, rfl, by first | (exact fun _ _ => rfl) | (intro h9 h8; exfalso; omega)⟩

set_option maxRecDepth 100000 in
set_option maxHeartbeats 2000000 in
theorem F_X3_weighUp (hI : cw_I K nn dn q w e) (hs : cw_S v f) {o1 : Nat} (ho1 : cw_ro K o1) (x3 : Int32) (p0 : 1 ≤ x3.toInt ∧ x3.toInt ≤ 8) : pm_Mt l g 144 2 0 0 [.ref (q 8), .ref (q o1), .ref (q 2), .int x3] (cw A0 g K nn dn q w e v f) (cw_Qs A0 g K nn dn q w e (fun r v2 f2 => r = none ∧ ((True) ∧ (∀ p9 l9 : Nat, (p9 : Int) ≤ x3.toInt → (l9 : Int) ≤ (w o1).toInt → (f2 (26 + p9) l9).toInt = BW (KD (e (o1 + 1)) (w o1).toInt) (w o1).toInt p9 l9)))) := by
  refine mt_X3_weighUp rfl (fun J hC => ?_)
  have ro_nn : cw_ro K nn := hI.2.1.2.1
  have ro_dn : cw_ro K dn := hI.2.1.2.2.1
  have hu1 := hI.2.1
  unfold cw_W at hu1
  have rg_x3 := pm_rng x3
  have zz0 := cw_sz hI ho1
  refine hC.1 0 0 _ _ rfl _ _ _ _ _ ?_
  have k0 : (0 : Int32).toInt = 0 := rfl
  have lp3 : ∀ (n : Nat) (z4_3 : Int32) (v2 : Nat → Int32) (f2 : Nat → Nat → Int32), cw_S v2 f2 → (0 ≤ z4_3.toInt ∧ z4_3.toInt ≤ x3.toInt + 1) → (∀ p9 l9 : Nat, (p9 : Int) < z4_3.toInt → l9 < 161 → (f2 (26 + p9) l9).toInt = -1) → 200 - z4_3.toInt < (n : Int) → J 3 [some (.ref (q 8)), some (.ref (q o1)), some (.ref (q 2)), some (.int x3), some (.int z4_3), none, none, none] [] (cw A0 g K nn dn q w e v2 f2) 0 0 := by
    intro n
    induction n with
    | zero =>
      intro z4_3 v2 f2 hs2 j0_3 j1_3 j2_3
      omega
    | succ n ih4 =>
      intro z4_3 v2 f2 hs2 j0_3 j1_3 j2_3
      refine hC.1 1 3 _ _ rfl _ _ _ _ _ ?_
      refine And.intro (fun c5 => ?_) (fun c5 => ?_)
      · skip
        refine hC.1 2 26 _ _ rfl _ _ _ _ _ ?_
        refine Exists.intro _ (And.intro (cw_o8 hI.1) ?_)
        refine Exists.intro _ (Exists.intro _ (And.intro (Or.inr (cw_worths hI.1)) (And.intro (by omega) ?_)))
        have hw6 : ((0 : Int32)).toInt.toNat < 9 := by omega
        rw [cw_ww_lt hw6]
        refine Exists.intro _ (And.intro (cw_ro_o hI.1 ho1) ?_)
        have z7 := cw_sz hI ho1
        refine Exists.intro _ (Exists.intro _ (And.intro (cw_wr hI.1 hw6) (And.intro (by omega) ?_)))
        rw [cw_swr hI.1 hw6]
        obtain ⟨f8, ef8⟩ : ∃ z9, z9 = va_up f2 (26 + ((0 : Int32)).toInt.toNat) (upd (f2 (26 + ((0 : Int32)).toInt.toNat)) ((w o1)).toInt.toNat (0 : Int32)) := ⟨_, rfl⟩
        rw [← ef8]
        have hs8 : cw_S v2 f8 := by rw [ef8]; exact cw_S_fr hs2 _ _ (by omega) (by omega)
        have pf_37 := ef8
        refine Exists.intro _ (And.intro (cw_ro_o hI.1 ho1) ?_)
        have z9 := cw_sz hI ho1
        have k1 : (1 : Int32).toInt = 1 := rfl
        intro m10 em_43
        try have e10 : m10.toInt = ((w o1)).toInt - (1) := by rw [em_43]; exact pm_subc _ _ (1) rfl (by omega) (by omega)
        have lp12 : ∀ (n : Nat) (z4_46 : Int32) (v11 : Nat → Int32) (f11 : Nat → Nat → Int32), cw_S v11 f11 → (-1 ≤ z4_46.toInt ∧ z4_46.toInt ≤ (w o1).toInt - 1) → (∀ l9 : Nat, (l9 : Int) ≤ (w o1).toInt → (f11 26 l9).toInt = BW (KD (e (o1 + 1)) (w o1).toInt) (w o1).toInt 0 l9) → (∀ p9 l9 : Nat, (p9 : Int) ≤ x3.toInt → z4_46.toInt < (l9 : Int) → (l9 : Int) ≤ (w o1).toInt → (f11 (26 + p9) l9).toInt = BW (KD (e (o1 + 1)) (w o1).toInt) (w o1).toInt p9 l9) → (∀ p9 l9 : Nat, 1 ≤ p9 → (p9 : Int) ≤ x3.toInt → (l9 : Int) ≤ z4_46.toInt → (f11 (26 + p9) l9).toInt = -1) → z4_46.toInt + 1 < (n : Int) → J 46 [some (.ref (q 8)), some (.ref (q o1)), some (.ref (q 2)), some (.int x3), some (.int z4_46), none, none, none] [] (cw A0 g K nn dn q w e v11 f11) 0 0 := by
          intro n
          induction n with
          | zero =>
            intro z4_46 v11 f11 hs11 j0_46 j1_46 j2_46 j3_46 j4_46
            omega
          | succ n ih13 =>
            intro z4_46 v11 f11 hs11 j0_46 j1_46 j2_46 j3_46 j4_46
            refine hC.1 3 46 _ _ rfl _ _ _ _ _ ?_
            refine And.intro (fun c14 => ?_) (fun c14 => ?_)
            · skip
              refine hC.1 9 158 _ _ rfl _ _ _ _ _ ?_
              exact ⟨rfl, rfl, v11, f11, rfl, hs11, rfl, by exact True.intro, by exact fun p9 l9 h9 h8 => j2_46 p9 l9 h9 (by omega) h8⟩
            · skip
              refine And.intro (Exists.intro _ (cw_o2 hI.1)) (Exists.intro _ (Exists.intro _ (Exists.intro _ (Exists.intro _ (And.intro (F_X2_clear hI hs11  ) (And.intro rfl (fun r9 A9 h9 => ?_)))))))
              rcases h9 with ⟨v16, f16, rfl, hs16, rfl, by15⟩
              have yp_9 := by15.2
              have lp18 : ∀ (n : Nat) (z5_59 : Int32) (v17 : Nat → Int32) (f17 : Nat → Nat → Int32), cw_S v17 f17 → (z4_46.toInt ≤ z5_59.toInt ∧ z5_59.toInt ≤ (w o1).toInt) → (∀ l9 : Nat, (l9 : Int) ≤ (w o1).toInt → (f17 26 l9).toInt = BW (KD (e (o1 + 1)) (w o1).toInt) (w o1).toInt 0 l9) → (∀ p9 l9 : Nat, (p9 : Int) ≤ x3.toInt → z4_46.toInt < (l9 : Int) → (l9 : Int) ≤ (w o1).toInt → (f17 (26 + p9) l9).toInt = BW (KD (e (o1 + 1)) (w o1).toInt) (w o1).toInt p9 l9) → (∀ p9 l9 : Nat, 1 ≤ p9 → (p9 : Int) ≤ x3.toInt → (l9 : Int) < z4_46.toInt → (f17 (26 + p9) l9).toInt = -1) → (∀ p9 : Nat, 1 ≤ p9 → (p9 : Int) ≤ x3.toInt → (f17 (26 + p9) z4_46.toInt.toNat).toInt = bmx (KD (e (o1 + 1)) (w o1).toInt) (BW (KD (e (o1 + 1)) (w o1).toInt) (w o1).toInt (p9 - 1)) z4_46.toInt (z5_59.toInt - z4_46.toInt).toNat) → (PAL v17 (f17 14) (e 15) (nc (e (o1 + 1)) z4_46.toInt.toNat (z5_59.toInt - z4_46.toInt).toNat) (z5_59.toInt - z4_46.toInt)) → 200 - z5_59.toInt < (n : Int) → J 59 [some (.ref (q 8)), some (.ref (q o1)), some (.ref (q 2)), some (.int x3), some (.int z4_46), some (.int z5_59), none, none] [] (cw A0 g K nn dn q w e v17 f17) 0 0 := by
                intro n
                induction n with
                | zero =>
                  intro z5_59 v17 f17 hs17 j0_59 j1_59 j2_59 j3_59 j4_59 j5_59 j6_59
                  omega
                | succ n ih19 =>
                  intro z5_59 v17 f17 hs17 j0_59 j1_59 j2_59 j3_59 j4_59 j5_59 j6_59
                  refine hC.1 4 59 _ _ rfl _ _ _ _ _ ?_
                  refine Exists.intro _ (And.intro (cw_ro_o hI.1 ho1) ?_)
                  have z20 := cw_sz hI ho1
                  refine And.intro (fun c21 => ?_) (fun c21 => ?_)
                  · skip
                    refine hC.1 8 152 _ _ rfl _ _ _ _ _ ?_
                    have km1 : (-1 : Int32).toInt = -1 := rfl
                    intro m22 em_152
                    try have e22 : m22.toInt = (z4_46).toInt + (-1) := by rw [em_152]; exact pm_addc _ _ (-1) rfl (by omega) (by omega)
                    exact hC.2 [false, false, false, false, false, true, false, false] _ _ _ _ _ _ (ih13 m22 v17 f17 hs17 (by omega) (by exact j1_59) (by intro p9 l9 h9 h8 h7; by_cases h6 : (l9 : Int) = z4_46.toInt; (by_cases h5 : p9 = 0; (rw [h5]; exact j1_59 l9 h7); (have h4 := j4_59 p9 (by omega) h9; rw [BW_bm (by omega), h6, show l9 = z4_46.toInt.toNat by omega, h4, show z5_59.toInt = (w o1).toInt by omega])); (exact j2_59 p9 l9 h9 (by omega) h7)) (by intro p9 l9 h9 h8 h7; exact j3_59 p9 l9 h9 h8 (by omega)) (by omega))
                  · skip
                    refine Exists.intro _ (And.intro (cw_ro_o hI.1 ho1) ?_)
                    refine Exists.intro _ (Exists.intro _ (And.intro (Or.inl (cw_ro_1 hI.1 ho1)) (And.intro (by omega) ?_)))
                    have w23 := cw_col hI ho1 (z5_59).toInt.toNat
                    refine And.intro (Exists.intro _ (cw_o2 hI.1)) (Exists.intro _ (Exists.intro _ (Exists.intro _ (Exists.intro _ (And.intro (F_X2_take hI hs17 (e (o1 + 1) (z5_59).toInt.toNat) (by omega)) (And.intro rfl (fun r9 A9 h9 => ?_)))))))
                    rcases h9 with ⟨v25, f25, rfl, hs25, rfl, by24⟩
                    have yt_9 := by24.2
                    have lp27 : ∀ (n : Nat) (z6_82 : Int32) (v26 : Nat → Int32) (f26 : Nat → Nat → Int32), cw_S v26 f26 → (1 ≤ z6_82.toInt ∧ z6_82.toInt ≤ x3.toInt + 1) → (∀ l9 : Nat, (l9 : Int) ≤ (w o1).toInt → (f26 26 l9).toInt = BW (KD (e (o1 + 1)) (w o1).toInt) (w o1).toInt 0 l9) → (∀ p9 l9 : Nat, (p9 : Int) ≤ x3.toInt → z4_46.toInt < (l9 : Int) → (l9 : Int) ≤ (w o1).toInt → (f26 (26 + p9) l9).toInt = BW (KD (e (o1 + 1)) (w o1).toInt) (w o1).toInt p9 l9) → (∀ p9 l9 : Nat, 1 ≤ p9 → (p9 : Int) ≤ x3.toInt → (l9 : Int) < z4_46.toInt → (f26 (26 + p9) l9).toInt = -1) → (∀ p9 : Nat, 1 ≤ p9 → (p9 : Int) < z6_82.toInt → (f26 (26 + p9) z4_46.toInt.toNat).toInt = bmx (KD (e (o1 + 1)) (w o1).toInt) (BW (KD (e (o1 + 1)) (w o1).toInt) (w o1).toInt (p9 - 1)) z4_46.toInt ((z5_59.toInt - z4_46.toInt).toNat + 1)) → (∀ p9 : Nat, z6_82.toInt ≤ (p9 : Int) → (p9 : Int) ≤ x3.toInt → (f26 (26 + p9) z4_46.toInt.toNat).toInt = bmx (KD (e (o1 + 1)) (w o1).toInt) (BW (KD (e (o1 + 1)) (w o1).toInt) (w o1).toInt (p9 - 1)) z4_46.toInt (z5_59.toInt - z4_46.toInt).toNat) → (PAL v26 (f26 14) (e 15) (nc (e (o1 + 1)) z4_46.toInt.toNat (z5_59.toInt + 1 - z4_46.toInt).toNat) (z5_59.toInt + 1 - z4_46.toInt)) → 200 - z6_82.toInt < (n : Int) → J 82 [some (.ref (q 8)), some (.ref (q o1)), some (.ref (q 2)), some (.int x3), some (.int z4_46), some (.int z5_59), some (.int z6_82), none] [] (cw A0 g K nn dn q w e v26 f26) 0 0 := by
                      intro n
                      induction n with
                      | zero =>
                        intro z6_82 v26 f26 hs26 j0_82 j1_82 j2_82 j3_82 j4_82 j5_82 j6_82 j7_82
                        omega
                      | succ n ih28 =>
                        intro z6_82 v26 f26 hs26 j0_82 j1_82 j2_82 j3_82 j4_82 j5_82 j6_82 j7_82
                        refine hC.1 5 82 _ _ rfl _ _ _ _ _ ?_
                        refine And.intro (fun c29 => ?_) (fun c29 => ?_)
                        · skip
                          refine hC.1 7 146 _ _ rfl _ _ _ _ _ ?_
                          intro m30 em_146
                          try have e30 : m30.toInt = (z5_59).toInt + (1) := by rw [em_146]; exact pm_addc _ _ (1) rfl (by omega) (by omega)
                          exact hC.2 [false, false, false, false, false, false, true, false] _ _ _ _ _ _ (ih19 m30 v26 f26 hs26 (by omega) (by exact j1_82) (by exact j2_82) (by exact j3_82) (by intro p9 h9 h8; rw [show (m30.toInt - z4_46.toInt).toNat = (z5_59.toInt - z4_46.toInt).toNat + 1 by omega]; exact j4_82 p9 h9 (by omega)) (by rw [show m30.toInt - z4_46.toInt = z5_59.toInt + 1 - z4_46.toInt by omega]; exact j6_82) (by omega))
                        · skip
                          refine Exists.intro _ (And.intro (cw_o8 hI.1) ?_)
                          intro m31 em_95
                          try have e31 : m31.toInt = (z6_82).toInt - (1) := by rw [em_95]; exact pm_subc _ _ (1) rfl (by omega) (by omega)
                          have ya_9 : (m31).toInt.toNat = z6_82.toInt.toNat - 1 := (by omega)
                          refine Exists.intro _ (Exists.intro _ (And.intro (Or.inr (cw_worths hI.1)) (And.intro (by omega) ?_)))
                          have hw32 : (m31).toInt.toNat < 9 := by omega
                          rw [cw_ww_lt hw32]
                          intro m33 em_100
                          try have e33 : m33.toInt = (z5_59).toInt + (1) := by rw [em_100]; exact pm_addc _ _ (1) rfl (by omega) (by omega)
                          have yb_9 : (m33).toInt.toNat = z5_59.toInt.toNat + 1 := (by omega)
                          refine Exists.intro _ (Exists.intro _ (And.intro (Or.inl (cw_wr hI.1 hw32)) (And.intro (by omega) ?_)))
                          have yr_9 : ((f26 (26 + (m31).toInt.toNat) (m33).toInt.toNat)).toInt = BW (KD (e (o1 + 1)) (w o1).toInt) (w o1).toInt (z6_82.toInt.toNat - 1) (z5_59.toInt + 1) := (by rw [ya_9, yb_9, j2_82 (z6_82.toInt.toNat - 1) (z5_59.toInt.toNat + 1) (by omega) (by omega) (by omega), show (((z5_59.toInt.toNat + 1 : Nat)) : Int) = z5_59.toInt + 1 by omega])
                          have yw_9 := BW_b (KD_b (e (o1 + 1)) (w o1).toInt) (w o1).toInt (z6_82.toInt.toNat - 1) (z5_59.toInt + 1)
                          have km1 : (-1 : Int32).toInt = -1 := rfl
                          refine And.intro (fun c34 => ?_) (fun c34 => ?_)
                          · skip
                            have dc34 : ((f26 (26 + (m31).toInt.toNat) (m33).toInt.toNat)).toInt = ((-1 : Int32) : Int32).toInt := congrArg Int32.toInt c34
                            refine hC.1 6 140 _ _ rfl _ _ _ _ _ ?_
                            intro m35 em_140
                            try have e35 : m35.toInt = (z6_82).toInt + (1) := by rw [em_140]; exact pm_addc _ _ (1) rfl (by omega) (by omega)
                            exact hC.2 [false, false, false, false, false, false, false, true] _ _ _ _ _ _ (ih28 m35 v26 f26 hs26 (by omega) (by intro l9 h9; first | (exact j1_82 l9 h9) | (rw [pf_139, va_un (by omega)]; exact j1_82 l9 h9)) (by intro p9 l9 h9 h8 h7; first | (exact j2_82 p9 l9 h9 h8 h7) | (by_cases h5 : p9 = z6_82.toInt.toNat; (rw [h5, pf_139, va_us, pk_un (by omega)]; rw [← h5]; exact j2_82 p9 l9 h9 h8 h7); (rw [pf_139, va_un (by omega)]; exact j2_82 p9 l9 h9 h8 h7))) (by intro p9 l9 h9 h8 h7; first | (exact j3_82 p9 l9 h9 h8 h7) | (by_cases h5 : p9 = z6_82.toInt.toNat; (rw [h5, pf_139, va_us, pk_un (by omega)]; rw [← h5]; exact j3_82 p9 l9 h9 h8 h7); (rw [pf_139, va_un (by omega)]; exact j3_82 p9 l9 h9 h8 h7))) (by intro p9 h9 h8; by_cases h7 : p9 = z6_82.toInt.toNat; (subst h7; rw [cstep, show z4_46.toInt + ((z5_59.toInt - z4_46.toInt).toNat : Int) = z5_59.toInt by omega]; first | (rw [ITS_n (by omega)]; have h6 := j5_82 z6_82.toInt.toNat (by omega) (by omega); have h5 := bmx_ge (K := (KD (e (o1 + 1)) (w o1).toInt)) (g := BW (KD (e (o1 + 1)) (w o1).toInt) (w o1).toInt (z6_82.toInt.toNat - 1)) (l := z4_46.toInt) (z5_59.toInt - z4_46.toInt).toNat; omega) | (rw [ITS_y (by omega), pf_139, va_us, pk_us]; omega)); (first | (exact j4_82 p9 h9 (by omega)) | (rw [pf_139, va_un (by omega)]; exact j4_82 p9 h9 (by omega)))) (by intro p9 h9 h8; first | (exact j5_82 p9 (by omega) h8) | (rw [pf_139, va_un (by omega)]; exact j5_82 p9 (by omega) h8)) (by first | (exact j6_82) | (rw [show f26 14 = _ from (by rw [pf_139, va_un (by omega)])]; exact j6_82)) (by omega))
                          · skip
                            have dc34 := pm_neI c34
                            refine Exists.intro _ (And.intro (cw_o8 hI.1) ?_)
                            refine Exists.intro _ (Exists.intro _ (And.intro (Or.inr (cw_worths hI.1)) (And.intro (by omega) ?_)))
                            have hw36 : (z6_82).toInt.toNat < 9 := by omega
                            rw [cw_ww_lt hw36]
                            refine Exists.intro _ (And.intro (cw_o8 hI.1) ?_)
                            refine Exists.intro _ (Exists.intro _ (And.intro (Or.inr (cw_worths hI.1)) (And.intro (by omega) ?_)))
                            have hw37 : (z6_82).toInt.toNat < 9 := by omega
                            rw [cw_ww_lt hw37]
                            refine Exists.intro _ (Exists.intro _ (And.intro (Or.inl (cw_wr hI.1 hw37)) (And.intro (by omega) ?_)))
                            have yc_9 : ((f26 (26 + (z6_82).toInt.toNat) (z4_46).toInt.toNat)).toInt = bmx (KD (e (o1 + 1)) (w o1).toInt) (BW (KD (e (o1 + 1)) (w o1).toInt) (w o1).toInt (z6_82.toInt.toNat - 1)) z4_46.toInt (z5_59.toInt - z4_46.toInt).toNat := j5_82 z6_82.toInt.toNat (by omega) (by omega)
                            refine Exists.intro _ (And.intro (cw_o2 hI.1) ?_)
                            have yk_9 : (v26 2).toInt = (KD (e (o1 + 1)) (w o1).toInt) z4_46.toInt z5_59.toInt := (PAL_K (fun j9 => cw_col hI ho1 j9) j6_82 rfl).trans (KD_y (by omega)).symm
                            have yd_9 := (KD_b (e (o1 + 1)) (w o1).toInt) z4_46.toInt z5_59.toInt
                            intro m38 em_135
                            try have e38 : m38.toInt = ((v26 2)).toInt + ((f26 (26 + (m31).toInt.toNat) (m33).toInt.toNat)).toInt := by rw [em_135]; exact pm_add _ _ (by omega) (by omega)
                            refine Exists.intro _ (Exists.intro _ (Exists.intro _ (Exists.intro _ (And.intro (c_J9_max_7cf53 (cw A0 g K nn dn q w e v26 f26) (f26 (26 + (z6_82).toInt.toNat) (z4_46).toInt.toNat) m38 ) (And.intro rfl (fun r9 A9 h9 => ?_))))))
                            obtain ⟨y39, rfl, rfl, by39⟩ := h9
                            have ym_9 := by39
                            refine Exists.intro _ (Exists.intro _ (And.intro (cw_wr hI.1 hw36) (And.intro (by omega) ?_)))
                            rw [cw_swr hI.1 hw36]
                            obtain ⟨f41, ef41⟩ : ∃ z9, z9 = va_up f26 (26 + (z6_82).toInt.toNat) (upd (f26 (26 + (z6_82).toInt.toNat)) (z4_46).toInt.toNat y39) := ⟨_, rfl⟩
                            rw [← ef41]
                            have hs41 : cw_S v26 f41 := by rw [ef41]; exact cw_S_fr hs26 _ _ (by omega) (by omega)
                            have pf_139 := ef41
                            refine hC.1 6 140 _ _ rfl _ _ _ _ _ ?_
                            intro m42 em_140
                            try have e42 : m42.toInt = (z6_82).toInt + (1) := by rw [em_140]; exact pm_addc _ _ (1) rfl (by omega) (by omega)
                            exact hC.2 [false, false, false, false, false, false, false, true] _ _ _ _ _ _ (ih28 m42 v26 f41 hs41 (by omega) (by intro l9 h9; first | (exact j1_82 l9 h9) | (rw [pf_139, va_un (by omega)]; exact j1_82 l9 h9)) (by intro p9 l9 h9 h8 h7; first | (exact j2_82 p9 l9 h9 h8 h7) | (by_cases h5 : p9 = z6_82.toInt.toNat; (rw [h5, pf_139, va_us, pk_un (by omega)]; rw [← h5]; exact j2_82 p9 l9 h9 h8 h7); (rw [pf_139, va_un (by omega)]; exact j2_82 p9 l9 h9 h8 h7))) (by intro p9 l9 h9 h8 h7; first | (exact j3_82 p9 l9 h9 h8 h7) | (by_cases h5 : p9 = z6_82.toInt.toNat; (rw [h5, pf_139, va_us, pk_un (by omega)]; rw [← h5]; exact j3_82 p9 l9 h9 h8 h7); (rw [pf_139, va_un (by omega)]; exact j3_82 p9 l9 h9 h8 h7))) (by intro p9 h9 h8; by_cases h7 : p9 = z6_82.toInt.toNat; (subst h7; rw [cstep, show z4_46.toInt + ((z5_59.toInt - z4_46.toInt).toNat : Int) = z5_59.toInt by omega]; first | (rw [ITS_n (by omega)]; have h6 := j5_82 z6_82.toInt.toNat (by omega) (by omega); have h5 := bmx_ge (K := (KD (e (o1 + 1)) (w o1).toInt)) (g := BW (KD (e (o1 + 1)) (w o1).toInt) (w o1).toInt (z6_82.toInt.toNat - 1)) (l := z4_46.toInt) (z5_59.toInt - z4_46.toInt).toNat; omega) | (rw [ITS_y (by omega), pf_139, va_us, pk_us]; omega)); (first | (exact j4_82 p9 h9 (by omega)) | (rw [pf_139, va_un (by omega)]; exact j4_82 p9 h9 (by omega)))) (by intro p9 h9 h8; first | (exact j5_82 p9 (by omega) h8) | (rw [pf_139, va_un (by omega)]; exact j5_82 p9 (by omega) h8)) (by first | (exact j6_82) | (rw [show f41 14 = _ from (by rw [pf_139, va_un (by omega)])]; exact j6_82)) (by omega))
                    exact lp27 (200 - (1 : Int32).toInt).toNat.succ (1 : Int32) v25 f25 hs25 (by omega) (by intro l9 h9; rw [yt_9.2.1 26 (by decide)]; exact j1_59 l9 h9) (by intro p9 l9 h9 h8 h7; rw [yt_9.2.1 (26 + p9) (by omega)]; exact j2_59 p9 l9 h9 h8 h7) (by intro p9 l9 h9 h8 h7; rw [yt_9.2.1 (26 + p9) (by omega)]; exact j3_59 p9 l9 h9 h8 h7) (by intro p9 h9 h8; omega) (by intro p9 h9 h8; rw [yt_9.2.1 (26 + p9) (by omega)]; exact j4_59 p9 (by omega) h8) (by have h9 := PAL_tk j5_59 (by omega) yt_9.1 (by rw [show z4_46.toInt + (z5_59.toInt - z4_46.toInt) = z5_59.toInt by omega]); rw [show z5_59.toInt - z4_46.toInt + 1 = z5_59.toInt + 1 - z4_46.toInt by omega] at h9; exact h9) (by omega)
              exact lp18 (200 - z4_46.toInt).toNat.succ z4_46 v16 f16 hs16 (by omega) (by intro l9 h9; rw [yp_9.2.1 26 (by decide)]; exact j1_46 l9 h9) (by intro p9 l9 h9 h8 h7; rw [yp_9.2.1 (26 + p9) (by omega)]; exact j2_46 p9 l9 h9 h8 h7) (by intro p9 l9 h9 h8 h7; rw [yp_9.2.1 (26 + p9) (by omega)]; exact j3_46 p9 l9 h9 h8 (by omega)) (by intro p9 h9 h8; rw [yp_9.2.1 (26 + p9) (by omega), Int.sub_self]; exact j3_46 p9 _ h9 h8 (by omega)) (by rw [Int.sub_self]; exact yp_9.1) (by omega)
        exact lp12 (m10.toInt + 1).toNat.succ m10 v2 f8 hs8 (by omega) (by intro l9 h9; rw [pf_37, show 26 + (0 : Int32).toInt.toNat = 26 from rfl, va_us]; show _ = if (l9 : Int) = (w o1).toInt then (0 : Int) else -1; by_cases h8 : l9 = (w o1).toInt.toNat; (rw [h8, pk_us, if_pos (by omega)]; rfl); (rw [pk_un h8, if_neg (by omega)]; exact j1_3 0 l9 (by omega) (by omega))) (by intro p9 l9 h9 h8 h7; have h6 : (l9 : Int) = (w o1).toInt := (by omega); by_cases h5 : p9 = 0; (rw [h5, pf_37, show 26 + (0 : Int32).toInt.toNat = 26 from rfl, va_us, show l9 = (w o1).toInt.toNat by omega, pk_us]; show _ = if (((w o1).toInt.toNat : Nat) : Int) = (w o1).toInt then (0 : Int) else -1; rw [if_pos (by omega)]; rfl); (rw [BW_e (by omega) h6, pf_37, show 26 + (0 : Int32).toInt.toNat = 26 from rfl, va_un (by omega)]; exact j1_3 p9 l9 (by omega) (by omega))) (by intro p9 l9 h9 h8 h7; rw [pf_37, show 26 + (0 : Int32).toInt.toNat = 26 from rfl, va_un (by omega)]; exact j1_3 p9 l9 (by omega) (by omega)) (by omega)
      · skip
        refine Exists.intro _ (And.intro (cw_o8 hI.1) ?_)
        refine Exists.intro _ (Exists.intro _ (And.intro (Or.inr (cw_worths hI.1)) (And.intro (by omega) ?_)))
        have hw43 : (z4_3).toInt.toNat < 9 := by omega
        rw [cw_ww_lt hw43]
        have km1 : (-1 : Int32).toInt = -1 := rfl
        refine Exists.intro _ (Exists.intro _ (Exists.intro _ (Exists.intro _ (And.intro (c_fill (cw_wr hI.1 hw43) (by decide) (-1 : Int32)) (And.intro rfl (fun r9 A9 h9 => ?_))))))
        obtain ⟨rfl, rfl⟩ := h9
        rw [cw_swr hI.1 hw43]
        obtain ⟨f44, ef44⟩ : ∃ z9, z9 = va_up f2 (26 + (z4_3).toInt.toNat) (fun j => if j < 161 then (-1 : Int32) else f2 (26 + (z4_3).toInt.toNat) j) := ⟨_, rfl⟩
        rw [← ef44]
        have hs44 : cw_S v2 f44 := by rw [ef44]; exact cw_S_fr hs2 _ _ (by omega) (by omega)
        have pf_17 := ef44
        have k1 : (1 : Int32).toInt = 1 := rfl
        intro m45 em_20
        try have e45 : m45.toInt = (z4_3).toInt + (1) := by rw [em_20]; exact pm_addc _ _ (1) rfl (by omega) (by omega)
        exact ih4 m45 v2 f44 hs44 (by omega) (by intro p9 l9 h9 h8; by_cases h7 : p9 = z4_3.toInt.toNat; (rw [h7, pf_17, va_us, if_pos h8]; rfl); (rw [pf_17, va_un (by omega)]; exact j1_3 p9 l9 (by omega) h8)) (by omega)
  exact lp3 (200 - (0 : Int32).toInt).toNat.succ (0 : Int32) v f hs (by omega) (by intro p9 l9 h9; omega) (by omega)

set_option maxRecDepth 100000 in
set_option maxHeartbeats 2000000 in
theorem F_X3_shortestBestEnd (hI : cw_I K nn dn q w e) (hs : cw_S v f) {o1 : Nat} (ho1 : cw_ro K o1) (x3 : Int32) (x4 : Int32) (p0 : 0 ≤ x3.toInt ∧ x3.toInt ≤ (w o1).toInt) (p1 : 1 ≤ x4.toInt ∧ x4.toInt ≤ 8) (p2 : ∀ p9 l9 : Nat, (p9 : Int) ≤ x4.toInt → (l9 : Int) ≤ (w o1).toInt → (f (26 + p9) l9).toInt = BW (KD (e (o1 + 1)) (w o1).toInt) (w o1).toInt p9 l9) (p3 : ¬ BW (KD (e (o1 + 1)) (w o1).toInt) (w o1).toInt x4.toInt.toNat x3.toInt = -1) : pm_Mt l g 147 2 0 0 [.ref (q 8), .ref (q o1), .ref (q 2), .int x3, .int x4] (cw A0 g K nn dn q w e v f) (cw_Qs A0 g K nn dn q w e (fun r v2 f2 => ∃ x : Int32, r = some (.int x) ∧ ((-1 ≤ x.toInt ∧ x.toInt ≤ 159) ∧ (x.toInt = BE (KD (e (o1 + 1)) (w o1).toInt) (w o1).toInt x4.toInt.toNat x3.toInt ∧ ∀ i9, i9 ≠ 14 → f2 i9 = f i9)))) := by
  refine mt_X3_shortestBestEnd rfl (fun J hC => ?_)
  have ro_nn : cw_ro K nn := hI.2.1.2.1
  have ro_dn : cw_ro K dn := hI.2.1.2.2.1
  have hu1 := hI.2.1
  unfold cw_W at hu1
  have rg_x3 := pm_rng x3
  have rg_x4 := pm_rng x4
  have zz0 := cw_sz hI ho1
  refine hC.1 0 0 _ _ rfl _ _ _ _ _ ?_
  refine And.intro (Exists.intro _ (cw_o2 hI.1)) (Exists.intro _ (Exists.intro _ (Exists.intro _ (Exists.intro _ (And.intro (F_X2_clear hI hs  ) (And.intro rfl (fun r9 A9 h9 => ?_)))))))
  rcases h9 with ⟨v3, f3, rfl, hs3, rfl, by2⟩
  have yp_9 := by2.2
  have lp5 : ∀ (n : Nat) (z5_7 : Int32) (v4 : Nat → Int32) (f4 : Nat → Nat → Int32), cw_S v4 f4 → (x3.toInt ≤ z5_7.toInt ∧ z5_7.toInt ≤ (w o1).toInt) → (∀ i9, i9 ≠ 14 → f4 i9 = f i9) → (PAL v4 (f4 14) (e 15) (nc (e (o1 + 1)) x3.toInt.toNat (z5_7.toInt - x3.toInt).toNat) (z5_7.toInt - x3.toInt)) → (∀ r9, x3.toInt ≤ r9 → r9 < z5_7.toInt → ¬ ITS (KD (e (o1 + 1)) (w o1).toInt) (BW (KD (e (o1 + 1)) (w o1).toInt) (w o1).toInt (x4.toInt.toNat - 1)) x3.toInt r9 = BW (KD (e (o1 + 1)) (w o1).toInt) (w o1).toInt x4.toInt.toNat x3.toInt) → 200 - z5_7.toInt < (n : Int) → J 7 [some (.ref (q 8)), some (.ref (q o1)), some (.ref (q 2)), some (.int x3), some (.int x4), some (.int z5_7), none] [] (cw A0 g K nn dn q w e v4 f4) 0 0 := by
    intro n
    induction n with
    | zero =>
      intro z5_7 v4 f4 hs4 j0_7 j1_7 j2_7 j3_7 j4_7
      omega
    | succ n ih6 =>
      intro z5_7 v4 f4 hs4 j0_7 j1_7 j2_7 j3_7 j4_7
      refine hC.1 1 7 _ _ rfl _ _ _ _ _ ?_
      refine Exists.intro _ (And.intro (cw_ro_o hI.1 ho1) ?_)
      have z7 := cw_sz hI ho1
      refine And.intro (fun c8 => ?_) (fun c8 => ?_)
      · skip
        refine hC.1 3 73 _ _ rfl _ _ _ _ _ ?_
        have km1 : (-1 : Int32).toInt = -1 := rfl
        exact ⟨rfl, fun e9 => absurd e9 (by decide), rfl, v4, f4, rfl, hs4, (-1 : Int32), rfl, by first | omega | (dsimp only; omega) | trivial, by exact (BE_no (by omega) p3 (by omega) (fun r9 h9 h8 => j3_7 r9 h9 (by omega))).elim⟩
      · skip
        refine Exists.intro _ (And.intro (cw_ro_o hI.1 ho1) ?_)
        refine Exists.intro _ (Exists.intro _ (And.intro (Or.inl (cw_ro_1 hI.1 ho1)) (And.intro (by omega) ?_)))
        have w9 := cw_col hI ho1 (z5_7).toInt.toNat
        refine And.intro (Exists.intro _ (cw_o2 hI.1)) (Exists.intro _ (Exists.intro _ (Exists.intro _ (Exists.intro _ (And.intro (F_X2_take hI hs4 (e (o1 + 1) (z5_7).toInt.toNat) (by omega)) (And.intro rfl (fun r9 A9 h9 => ?_)))))))
        rcases h9 with ⟨v11, f11, rfl, hs11, rfl, by10⟩
        have yt_9 := by10.2
        have yf_9 : ∀ i9, i9 ≠ 14 → f11 i9 = f i9 := fun i9 h9 => (yt_9.2.1 i9 h9).trans (j1_7 i9 h9)
        have ya_9 := PAL_tk j2_7 (by omega) yt_9.1 (by rw [show x3.toInt + (z5_7.toInt - x3.toInt) = z5_7.toInt by omega])
        rw [show z5_7.toInt - x3.toInt + 1 = z5_7.toInt + 1 - x3.toInt by omega] at ya_9
        have k1 : (1 : Int32).toInt = 1 := rfl
        intro m12 em_31
        try have e12 : m12.toInt = (x4).toInt - (1) := by rw [em_31]; exact pm_subc _ _ (1) rfl (by omega) (by omega)
        have yi_9 : (m12).toInt.toNat = x4.toInt.toNat - 1 := (by omega)
        intro m13 em_35
        try have e13 : m13.toInt = (z5_7).toInt + (1) := by rw [em_35]; exact pm_addc _ _ (1) rfl (by omega) (by omega)
        have yj_9 : (m13).toInt.toNat = z5_7.toInt.toNat + 1 := (by omega)
        refine And.intro (Exists.intro _ (cw_o8 hI.1)) (Exists.intro _ (Exists.intro _ (Exists.intro _ (Exists.intro _ (And.intro (F_X3_worthOf hI hs11 m12 m13 ) (And.intro rfl (fun r9 A9 h9 => ?_)))))))
        obtain ⟨y14, rfl, rfl, by14⟩ := h9
        have yr_9 : y14.toInt = BW (KD (e (o1 + 1)) (w o1).toInt) (w o1).toInt (x4.toInt.toNat - 1) (z5_7.toInt + 1) := (by rw [by14 (by omega) (by omega), yi_9, yj_9, yf_9 _ (by omega), p2 (x4.toInt.toNat - 1) (z5_7.toInt.toNat + 1) (by omega) (by omega), show (((z5_7.toInt.toNat + 1 : Nat)) : Int) = z5_7.toInt + 1 by omega])
        have yw_9 := BW_b (KD_b (e (o1 + 1)) (w o1).toInt) (w o1).toInt (x4.toInt.toNat - 1) (z5_7.toInt + 1)
        have km1 : (-1 : Int32).toInt = -1 := rfl
        refine And.intro (fun c16 => ?_) (fun c16 => ?_)
        · skip
          have dc16 : (y14).toInt = ((-1 : Int32) : Int32).toInt := congrArg Int32.toInt c16
          refine hC.1 2 67 _ _ rfl _ _ _ _ _ ?_
          intro m17 em_67
          try have e17 : m17.toInt = (z5_7).toInt + (1) := by rw [em_67]; exact pm_addc _ _ (1) rfl (by omega) (by omega)
          exact hC.2 [false, false, false, false, false, false, true] _ _ _ _ _ _ (ih6 m17 v11 f11 hs11 (by omega) (by exact yf_9) (by rw [show m17.toInt - x3.toInt = z5_7.toInt + 1 - x3.toInt by omega]; exact ya_9) (by intro r9 h9 h8; by_cases h7 : r9 = z5_7.toInt; (rw [h7]; first | (rw [ITS_n (by omega)]; exact fun h6 => p3 h6.symm) | (rw [ITS_y (by omega)]; omega)); (exact j3_7 r9 h9 (by omega))) (by omega))
        · skip
          have dc16 := pm_neI c16
          refine Exists.intro _ (And.intro (cw_o2 hI.1) ?_)
          have yk_9 : (v11 2).toInt = (KD (e (o1 + 1)) (w o1).toInt) x3.toInt z5_7.toInt := (PAL_K (fun j9 => cw_col hI ho1 j9) ya_9 rfl).trans (KD_y (by omega)).symm
          have yd_9 := (KD_b (e (o1 + 1)) (w o1).toInt) x3.toInt z5_7.toInt
          intro m18 em_53
          try have e18 : m18.toInt = ((v11 2)).toInt + (y14).toInt := by rw [em_53]; exact pm_add _ _ (by omega) (by omega)
          refine And.intro (Exists.intro _ (cw_o8 hI.1)) (Exists.intro _ (Exists.intro _ (Exists.intro _ (Exists.intro _ (And.intro (F_X3_worthOf hI hs11 x4 x3 ) (And.intro rfl (fun r9 A9 h9 => ?_)))))))
          obtain ⟨y19, rfl, rfl, by19⟩ := h9
          have ys_9 : y19.toInt = BW (KD (e (o1 + 1)) (w o1).toInt) (w o1).toInt x4.toInt.toNat x3.toInt := (by rw [by19 (by omega) (by omega), yf_9 _ (by omega), p2 x4.toInt.toNat x3.toInt.toNat (by omega) (by omega), show ((x3.toInt.toNat : Nat) : Int) = x3.toInt by omega])
          refine And.intro (fun c21 => ?_) (fun c21 => ?_)
          · skip
            have dc21 := pm_neI c21
            refine hC.1 2 67 _ _ rfl _ _ _ _ _ ?_
            intro m22 em_67
            try have e22 : m22.toInt = (z5_7).toInt + (1) := by rw [em_67]; exact pm_addc _ _ (1) rfl (by omega) (by omega)
            exact hC.2 [false, false, false, false, false, false, true] _ _ _ _ _ _ (ih6 m22 v11 f11 hs11 (by omega) (by exact yf_9) (by rw [show m22.toInt - x3.toInt = z5_7.toInt + 1 - x3.toInt by omega]; exact ya_9) (by intro r9 h9 h8; by_cases h7 : r9 = z5_7.toInt; (rw [h7]; first | (rw [ITS_n (by omega)]; exact fun h6 => p3 h6.symm) | (rw [ITS_y (by omega)]; omega)); (exact j3_7 r9 h9 (by omega))) (by omega))
          · skip
            have dc21 : (m18).toInt = (y19 : Int32).toInt := congrArg Int32.toInt c21
            exact ⟨rfl, fun e9 => absurd e9 (by decide), rfl, v11, f11, rfl, hs11, z5_7, rfl, by first | omega | (dsimp only; omega) | trivial, by refine ⟨?_, yf_9⟩; exact BE_u (by omega) p3 (by omega) (by omega) (by rw [ITS_y (by omega)]; omega) (fun r9 h9 h8 => j3_7 r9 h9 h8)⟩
  exact lp5 (200 - x3.toInt).toNat.succ x3 v3 f3 hs3 (by omega) (by exact yp_9.2.1) (by rw [Int.sub_self]; exact yp_9.1) (by intro r9 h9 h8; omega) (by omega)

set_option maxRecDepth 100000 in
set_option maxHeartbeats 2000000 in
theorem F_X3_lastPlaceOf (hI : cw_I K nn dn q w e) (hs : cw_S v f) {o1 : Nat} (ho1 : cw_ro K o1) (x3 : Int32) (x4 : Int32) (p0 : 1 ≤ x3.toInt ∧ x3.toInt ≤ 8 ∧ x3.toInt ≤ (w o1).toInt) (p1 : 0 ≤ x4.toInt ∧ x4.toInt < x3.toInt) (p2 : ∀ p9 l9 : Nat, (p9 : Int) ≤ x3.toInt → (l9 : Int) ≤ (w o1).toInt → (f (26 + p9) l9).toInt = BW (KD (e (o1 + 1)) (w o1).toInt) (w o1).toInt p9 l9) : pm_Mt l g 146 3 0 0 [.ref (q 8), .ref (q o1), .ref (q 2), .int x3, .int x4] (cw A0 g K nn dn q w e v f) (cw_Qs A0 g K nn dn q w e (fun r v2 f2 => ∃ x : Int32, r = some (.int x) ∧ ((True) ∧ (x.toInt = bst (KD (e (o1 + 1)) (w o1).toInt) (w o1).toInt x3.toInt.toNat (x4.toInt.toNat + 1) - 1)))) := by
  refine mt_X3_lastPlaceOf rfl (fun J hC => ?_)
  have ro_nn : cw_ro K nn := hI.2.1.2.1
  have ro_dn : cw_ro K dn := hI.2.1.2.2.1
  have hu1 := hI.2.1
  unfold cw_W at hu1
  have rg_x3 := pm_rng x3
  have rg_x4 := pm_rng x4
  have zz0 := cw_sz hI ho1
  refine hC.1 0 0 _ _ rfl _ _ _ _ _ ?_
  have km1 : (-1 : Int32).toInt = -1 := rfl
  have k0 : (0 : Int32).toInt = 0 := rfl
  have lp3 : ∀ (n : Nat) (z5_6 : Int32) (z6_6 : Int32) (v2 : Nat → Int32) (f2 : Nat → Nat → Int32), cw_S v2 f2 → (-1 ≤ z5_6.toInt ∧ z5_6.toInt ≤ 159) → (0 ≤ z6_6.toInt ∧ z6_6.toInt ≤ x4.toInt + 1) → (z5_6.toInt + 1 = bst (KD (e (o1 + 1)) (w o1).toInt) (w o1).toInt x3.toInt.toNat z6_6.toInt.toNat) → (∀ i9, i9 ≠ 14 → f2 i9 = f i9) → 200 - z6_6.toInt < (n : Int) → J 6 [some (.ref (q 8)), some (.ref (q o1)), some (.ref (q 2)), some (.int x3), some (.int x4), some (.int z5_6), some (.int z6_6)] [] (cw A0 g K nn dn q w e v2 f2) 0 0 := by
    intro n
    induction n with
    | zero =>
      intro z5_6 z6_6 v2 f2 hs2 j0_6 j1_6 j2_6 j3_6 j4_6
      omega
    | succ n ih4 =>
      intro z5_6 z6_6 v2 f2 hs2 j0_6 j1_6 j2_6 j3_6 j4_6
      refine hC.1 1 6 _ _ rfl _ _ _ _ _ ?_
      refine And.intro (fun c5 => ?_) (fun c5 => ?_)
      · skip
        refine hC.1 2 35 _ _ rfl _ _ _ _ _ ?_
        exact ⟨rfl, fun e9 => absurd e9 (by decide), rfl, v2, f2, rfl, hs2, z5_6, rfl, by exact True.intro, by rw [show x4.toInt.toNat + 1 = z6_6.toInt.toNat by omega]; omega⟩
      · skip
        have yo_9 := bst_ok (K := (KD (e (o1 + 1)) (w o1).toInt)) (KD_b (e (o1 + 1)) (w o1).toInt) (n := (w o1).toInt) (m := x3.toInt.toNat) (by omega) (by omega) z6_6.toInt.toNat (by omega)
        have k1 : (1 : Int32).toInt = 1 := rfl
        intro m6 em_19
        try have e6 : m6.toInt = (z5_6).toInt + (1) := by rw [em_19]; exact pm_addc _ _ (1) rfl (by omega) (by omega)
        have yl_9 : (m6).toInt = bst (KD (e (o1 + 1)) (w o1).toInt) (w o1).toInt x3.toInt.toNat z6_6.toInt.toNat := (by omega)
        intro m7 em_23
        try have e7 : m7.toInt = (x3).toInt - (z6_6).toInt := by rw [em_23]; exact pm_sub _ _ (by omega) (by omega)
        have yp_9 : (m7).toInt.toNat = x3.toInt.toNat - z6_6.toInt.toNat := (by omega)
        refine And.intro (Exists.intro _ (cw_o8 hI.1)) (Exists.intro _ (Exists.intro _ (Exists.intro _ (Exists.intro _ (And.intro (F_X3_shortestBestEnd hI hs2 ho1 m6 m7 (by omega) (by omega) (by intro p9 l9 h9 h8; rw [j3_6 (26 + p9) (by omega)]; exact p2 p9 l9 (by omega) h8) (by rw [yp_9, yl_9]; exact yo_9.2)) (And.intro rfl (fun r9 A9 h9 => ?_)))))))
        rcases h9 with ⟨v9, f9, rfl, hs9, y8, rfl, by8⟩
        have yf_9 := by8.2
        intro m10 em_29
        try have e10 : m10.toInt = (z6_6).toInt + (1) := by rw [em_29]; exact pm_addc _ _ (1) rfl (by omega) (by omega)
        exact ih4 y8 m10 v9 f9 hs9 (by omega) (by omega) (by rw [show m10.toInt.toNat = z6_6.toInt.toNat + 1 by omega, bst, yf_9.1, yp_9, yl_9]) (by exact fun i9 h9 => (yf_9.2 i9 h9).trans (j3_6 i9 h9)) (by omega)
  exact lp3 (200 - (0 : Int32).toInt).toNat.succ (-1 : Int32) (0 : Int32) v f hs (by omega) (by omega) (by rfl) (by exact fun _ _ => rfl) (by omega)

end
end
section
section
variable {l : Launch} {g : pm_G} {A0 : pm_H} {K nn dn : Nat} {q : Nat → Nat} {w : Nat → Int32} {e : Nat → Nat → Int32} {v : Nat → Int32} {f : Nat → Nat → Int32}
set_option maxRecDepth 100000 in
set_option maxHeartbeats 2000000 in
theorem F_X10_best (hI : cw_I K nn dn q w e) (hs : cw_S v f) (x1 : Int32) (x2 : Int32)  : pm_Mt l g 143 4 0 0 [.ref (q 0), .int x1, .int x2] (cw A0 g K nn dn q w e v f) (cw_Qs A0 g K nn dn q w e (fun r v2 f2 => ∃ x : Int32, r = some (.int x) ∧ ((True) ∧ (BST (e (nn + 1)) (w nn).toInt x1.toInt x2.toInt x.toInt)))) := by
  refine mt_X10_best rfl (fun J hC => ?_)
  have ro_nn : cw_ro K nn := hI.2.1.2.1
  have ro_dn : cw_ro K dn := hI.2.1.2.2.1
  have hu1 := hI.2.1
  unfold cw_W at hu1
  have rg_x1 := pm_rng x1
  have rg_x2 := pm_rng x2
  have zz0 := cw_sz hI ro_nn
  refine hC.1 0 0 _ _ rfl _ _ _ _ _ ?_
  have k1 : (1 : Int32).toInt = 1 := rfl
  refine And.intro (fun c2 => ?_) (fun c2 => ?_)
  · skip
    refine hC.1 1 35 _ _ rfl _ _ _ _ _ ?_
    have km1 : (-1 : Int32).toInt = -1 := rfl
    exact ⟨rfl, fun e9 => absurd e9 (by decide), rfl, v, f, rfl, hs, (-1 : Int32), rfl, by exact True.intro, by first | (exact Or.inl ⟨by omega, rfl⟩) | (refine Or.inr ⟨by omega, Or.inl ⟨by omega, ?_⟩⟩; rw [ya_9 (by omega) (by omega)]; exact yw_9 x1.toInt.toNat 0 (by omega) (by omega)) | (exact Or.inr ⟨by omega, Or.inr ⟨by omega, yf_9⟩⟩)⟩
  · skip
    have k8 : (8 : Int32).toInt = 8 := rfl
    refine And.intro (fun c3 => ?_) (fun c3 => ?_)
    · skip
      refine hC.1 1 35 _ _ rfl _ _ _ _ _ ?_
      have km1 : (-1 : Int32).toInt = -1 := rfl
      exact ⟨rfl, fun e9 => absurd e9 (by decide), rfl, v, f, rfl, hs, (-1 : Int32), rfl, by exact True.intro, by first | (exact Or.inl ⟨by omega, rfl⟩) | (refine Or.inr ⟨by omega, Or.inl ⟨by omega, ?_⟩⟩; rw [ya_9 (by omega) (by omega)]; exact yw_9 x1.toInt.toNat 0 (by omega) (by omega)) | (exact Or.inr ⟨by omega, Or.inr ⟨by omega, yf_9⟩⟩)⟩
    · skip
      refine Exists.intro _ (And.intro (cw_o0 hI.1) ?_)
      refine Exists.intro _ (And.intro (cw_o1 hI.1) ?_)
      refine Exists.intro _ (And.intro (cw_ro_o hI.1 ro_nn) ?_)
      have z4 := cw_sz hI ro_nn
      refine And.intro (fun c5 => ?_) (fun c5 => ?_)
      · skip
        refine hC.1 1 35 _ _ rfl _ _ _ _ _ ?_
        have km1 : (-1 : Int32).toInt = -1 := rfl
        exact ⟨rfl, fun e9 => absurd e9 (by decide), rfl, v, f, rfl, hs, (-1 : Int32), rfl, by exact True.intro, by first | (exact Or.inl ⟨by omega, rfl⟩) | (refine Or.inr ⟨by omega, Or.inl ⟨by omega, ?_⟩⟩; rw [ya_9 (by omega) (by omega)]; exact yw_9 x1.toInt.toNat 0 (by omega) (by omega)) | (exact Or.inr ⟨by omega, Or.inr ⟨by omega, yf_9⟩⟩)⟩
      · skip
        have km1 : (-1 : Int32).toInt = -1 := rfl
        refine And.intro (fun c6 => ?_) (fun c6 => ?_)
        · skip
          refine hC.1 1 35 _ _ rfl _ _ _ _ _ ?_
          exact ⟨rfl, fun e9 => absurd e9 (by decide), rfl, v, f, rfl, hs, (-1 : Int32), rfl, by exact True.intro, by first | (exact Or.inl ⟨by omega, rfl⟩) | (refine Or.inr ⟨by omega, Or.inl ⟨by omega, ?_⟩⟩; rw [ya_9 (by omega) (by omega)]; exact yw_9 x1.toInt.toNat 0 (by omega) (by omega)) | (exact Or.inr ⟨by omega, Or.inr ⟨by omega, yf_9⟩⟩)⟩
        · skip
          refine And.intro (fun c7 => ?_) (fun c7 => ?_)
          · skip
            refine hC.1 2 37 _ _ rfl _ _ _ _ _ ?_
            refine Exists.intro _ (And.intro (cw_o0 hI.1) ?_)
            refine Exists.intro _ (And.intro (cw_o0 hI.1) ?_)
            refine Exists.intro _ (And.intro (cw_o1 hI.1) ?_)
            refine Exists.intro _ (And.intro (cw_o0 hI.1) ?_)
            refine And.intro (Exists.intro _ (cw_o8 hI.1)) (Exists.intro _ (Exists.intro _ (Exists.intro _ (Exists.intro _ (And.intro (F_X3_weighUp hI hs ro_nn x1 (by omega)) (And.intro rfl (fun r9 A9 h9 => ?_)))))))
            rcases h9 with ⟨v9, f9, rfl, hs9, rfl, by8⟩
            have yw_9 := by8.2
            refine And.intro (fun c10 => ?_) (fun c10 => ?_)
            · skip
              have dc10 := pm_neI c10
              refine hC.1 3 73 _ _ rfl _ _ _ _ _ ?_
              refine Exists.intro _ (And.intro (cw_o0 hI.1) ?_)
              refine Exists.intro _ (And.intro (cw_o0 hI.1) ?_)
              refine Exists.intro _ (And.intro (cw_o1 hI.1) ?_)
              refine Exists.intro _ (And.intro (cw_o0 hI.1) ?_)
              refine And.intro (Exists.intro _ (cw_o8 hI.1)) (Exists.intro _ (Exists.intro _ (Exists.intro _ (Exists.intro _ (And.intro (F_X3_lastPlaceOf hI hs9 ro_nn x1 x2 (by omega) (by omega) (by exact yw_9)) (And.intro rfl (fun r9 A9 h9 => ?_)))))))
              rcases h9 with ⟨v12, f12, rfl, hs12, y11, rfl, by11⟩
              have yf_9 := by11.2
              refine hC.1 4 93 _ _ rfl _ _ _ _ _ ?_
              exact ⟨rfl, fun e9 => absurd e9 (by decide), rfl, v12, f12, rfl, hs12, y11, rfl, by exact True.intro, by first | (exact Or.inl ⟨by omega, rfl⟩) | (refine Or.inr ⟨by omega, Or.inl ⟨by omega, ?_⟩⟩; rw [ya_9 (by omega) (by omega)]; exact yw_9 x1.toInt.toNat 0 (by omega) (by omega)) | (exact Or.inr ⟨by omega, Or.inr ⟨by omega, yf_9⟩⟩)⟩
            · skip
              have dc10 : (x2).toInt = ((-1 : Int32) : Int32).toInt := congrArg Int32.toInt c10
              refine Exists.intro _ (And.intro (cw_o0 hI.1) ?_)
              have k0 : (0 : Int32).toInt = 0 := rfl
              refine And.intro (Exists.intro _ (cw_o8 hI.1)) (Exists.intro _ (Exists.intro _ (Exists.intro _ (Exists.intro _ (And.intro (F_X3_worthOf hI hs9 x1 (0 : Int32) ) (And.intro rfl (fun r9 A9 h9 => ?_)))))))
              obtain ⟨y13, rfl, rfl, by13⟩ := h9
              have ya_9 := by13
              refine hC.1 4 93 _ _ rfl _ _ _ _ _ ?_
              exact ⟨rfl, fun e9 => absurd e9 (by decide), rfl, v9, f9, rfl, hs9, y13, rfl, by exact True.intro, by first | (exact Or.inl ⟨by omega, rfl⟩) | (refine Or.inr ⟨by omega, Or.inl ⟨by omega, ?_⟩⟩; rw [ya_9 (by omega) (by omega)]; exact yw_9 x1.toInt.toNat 0 (by omega) (by omega)) | (exact Or.inr ⟨by omega, Or.inr ⟨by omega, yf_9⟩⟩)⟩
          · skip
            refine hC.1 1 35 _ _ rfl _ _ _ _ _ ?_
            exact ⟨rfl, fun e9 => absurd e9 (by decide), rfl, v, f, rfl, hs, (-1 : Int32), rfl, by exact True.intro, by first | (exact Or.inl ⟨by omega, rfl⟩) | (refine Or.inr ⟨by omega, Or.inl ⟨by omega, ?_⟩⟩; rw [ya_9 (by omega) (by omega)]; exact yw_9 x1.toInt.toNat 0 (by omega) (by omega)) | (exact Or.inr ⟨by omega, Or.inr ⟨by omega, yf_9⟩⟩)⟩

end
end
section
section
variable {l : Launch} {g : pm_G} {A0 : pm_H} {h : Nat} {q : Nat → Nat}
set_option maxRecDepth 100000 in
set_option maxHeartbeats 2000000 in
theorem G_X11_layPart (D : md_D h q) (v : Nat → Int32) (f : Nat → Nat → Int32) (hv : md_V v) (hf : md_F f) (x1 : Int32) (x2 : Int32) (x3 : Int32) (p0 : 1 ≤ x1.toInt ∧ x1.toInt ≤ 8) (p1 : 0 ≤ x2.toInt ∧ x2.toInt ≤ (v 0).toInt) (p2 : x3.toInt = 161) (p3 : ∀ r9 : Nat, (r9 : Int) ≤ (v 0).toInt → (f 18 (161 * (x1.toInt.toNat - 1) + r9)).toInt = wv (BW (KD (f 0) (v 0).toInt) (v 0).toInt (x1.toInt.toNat - 1) r9)) (p4 : (f 18 (161 * x1.toInt.toNat + x2.toInt.toNat)).toInt = -268435456) : pm_Mt l g 274 1 0 0 [.ref h, .int x1, .int x2, .int x3] (md A0 g h q v f) (md_Qv A0 g h q f (fun v2 f2 => f2 0 = f 0 ∧ f2 1 = f 1 ∧ ((v2 0).toInt = (v 0).toInt ∧ (v2 1).toInt = (v 1).toInt ∧ (v2 2).toInt = (v 2).toInt ∧ (v2 3).toInt = (v 3).toInt ∧ (v2 4).toInt = (v 4).toInt ∧ (v2 6).toInt = (v 6).toInt) ∧ ((∀ i9 : Nat, i9 ≠ (161 * x1.toInt.toNat + x2.toInt.toNat) → f2 18 i9 = f 18 i9 ∧ f2 19 i9 = f 19 i9) ∧ (f2 18 (161 * x1.toInt.toNat + x2.toInt.toNat)).toInt = wv (BW (KD (f 0) (v 0).toInt) (v 0).toInt x1.toInt.toNat x2.toInt) ∧ (¬ BW (KD (f 0) (v 0).toInt) (v 0).toInt x1.toInt.toNat x2.toInt = -1 → (f2 19 (161 * x1.toInt.toNat + x2.toInt.toNat)).toInt = BE (KD (f 0) (v 0).toInt) (v 0).toInt x1.toInt.toNat x2.toInt)))) := by
  refine mt_X11_layPart rfl (fun J hC => ?_)
  have hv9 := hv
  unfold md_V at hv9
  have rg_x1 := pm_rng x1
  have rg_x2 := pm_rng x2
  have rg_x3 := pm_rng x3
  obtain ⟨yk_9, ek_9⟩ : ∃ k9 : Nat, x1.toInt.toNat = k9 + 1 := ⟨x1.toInt.toNat - 1, by omega⟩
  refine hC.1 0 0 _ _ rfl _ _ _ _ _ ?_
  have k0 : (0 : Int32).toInt = 0 := rfl
  have lp2 : ∀ (n : Nat) (z4_6 : Int32) (z5_6 : Int32) (v1 : Nat → Int32) (f1 : Nat → Nat → Int32), md_V v1 → md_F f1 → f1 2 = f 2 → f1 0 = f 0 → f1 1 = f 1 → (x2.toInt ≤ z5_6.toInt ∧ z5_6.toInt ≤ (v 0).toInt) → (z4_6 = setF (f 0) x2.toInt.toNat (z5_6.toInt - x2.toInt).toNat) → (∀ i9 : Nat, i9 ≠ (161 * x1.toInt.toNat + x2.toInt.toNat) → f1 18 i9 = f 18 i9 ∧ f1 19 i9 = f 19 i9) → ((f1 18 (161 * x1.toInt.toNat + x2.toInt.toNat)).toInt = wv (bmx (KD (f 0) (v 0).toInt) (BW (KD (f 0) (v 0).toInt) (v 0).toInt yk_9) x2.toInt (z5_6.toInt - x2.toInt).toNat)) → (¬ bmx (KD (f 0) (v 0).toInt) (BW (KD (f 0) (v 0).toInt) (v 0).toInt yk_9) x2.toInt (z5_6.toInt - x2.toInt).toNat = -1 → (f1 19 (161 * x1.toInt.toNat + x2.toInt.toNat)).toInt = bfe (KD (f 0) (v 0).toInt) (BW (KD (f 0) (v 0).toInt) (v 0).toInt yk_9) x2.toInt (z5_6.toInt - x2.toInt).toNat) → (v1 0).toInt = (v 0).toInt → (v1 1).toInt = (v 1).toInt → (v1 2).toInt = (v 2).toInt → (v1 3).toInt = (v 3).toInt → (v1 4).toInt = (v 4).toInt → (v1 6).toInt = (v 6).toInt → 200 - z5_6.toInt < (n : Int) → J 6 [some (.ref h), some (.int x1), some (.int x2), some (.int x3), some (.int z4_6), some (.int z5_6), none] [] (md A0 g h q v1 f1) 0 0 := by
    intro n
    induction n with
    | zero =>
      intro z4_6 z5_6 v1 f1 hv1 hf1 hw1 hr1_0 hr1_1 j0_6 j1_6 j2_6 j3_6 j4_6 j5_6 j6_6 j7_6 j8_6 j9_6 j10_6 j11_6
      omega
    | succ n ih3 =>
      intro z4_6 z5_6 v1 f1 hv1 hf1 hw1 hr1_0 hr1_1 j0_6 j1_6 j2_6 j3_6 j4_6 j5_6 j6_6 j7_6 j8_6 j9_6 j10_6 j11_6
      have l0_9 := hr1_0
      refine hC.1 1 6 _ _ rfl _ _ _ _ _ ?_
      refine Exists.intro _ (And.intro md_o ?_)
      refine And.intro (fun c5 => ?_) (fun c5 => ?_)
      · skip
        refine hC.1 4 105 _ _ rfl _ _ _ _ _ ?_
        exact ⟨rfl, rfl, v1, f1, rfl, rfl, hv1, hf1, hw1, hr1_0, hr1_1, by first | omega | (dsimp only; omega) | trivial, by have h7 : BW (KD (f 0) (v 0).toInt) (v 0).toInt x1.toInt.toNat x2.toInt = bmx (KD (f 0) (v 0).toInt) (BW (KD (f 0) (v 0).toInt) (v 0).toInt yk_9) x2.toInt ((v 0).toInt - x2.toInt).toNat := (by rw [ek_9]; rfl); have h6 : BE (KD (f 0) (v 0).toInt) (v 0).toInt x1.toInt.toNat x2.toInt = bfe (KD (f 0) (v 0).toInt) (BW (KD (f 0) (v 0).toInt) (v 0).toInt yk_9) x2.toInt ((v 0).toInt - x2.toInt).toNat := (by rw [ek_9]; rfl); have h5 := j3_6; have h4 := j4_6; rw [show z5_6.toInt = (v 0).toInt by omega] at h5 h4; rw [h7, h6]; exact ⟨j2_6, h5, h4⟩⟩
      · skip
        have k1 : (1 : Int32).toInt = 1 := rfl
        refine Exists.intro _ (And.intro md_o ?_)
        refine Exists.intro _ (Exists.intro _ (And.intro (Or.inl (md_a_colours D)) (And.intro (by omega) ?_)))
        have w6 : (0 : Int) ≤ (f1 0 (z5_6).toInt.toNat).toInt ∧ (f1 0 (z5_6).toInt.toNat).toInt ≤ (23 : Int) := hf1 0 _
        refine Exists.intro _ (Exists.intro _ (Exists.intro _ (Exists.intro _ (And.intro (F_X11_bits (md A0 g h q v1 f1) (z4_6 ||| ((1 : Int32) <<< ((f1 0 (z5_6).toInt.toNat) &&& 31))) ) (And.intro rfl (fun r9 A9 h9 => ?_))))))
        obtain ⟨y7, rfl, rfl, by7⟩ := h9
        have yk_8 : y7.toInt = (KD (f 0) (v 0).toInt) x2.toInt (z5_6).toInt := (by rw [by7, j1_6, l0_9, setF_p (by omega), set_24 (fun j9 => hf 0 j9), KD_y (by omega)]; rfl)
        have yk_7 := (KD_b (f 0) (v 0).toInt) x2.toInt (z5_6).toInt
        refine Exists.intro _ (And.intro md_o ?_)
        intro m8 em_41
        try have e8 : m8.toInt = (x1).toInt - (1) := by rw [em_41]; exact pm_subc _ _ (1) rfl (by omega) (by omega)
        intro m9 em_42
        try have e9 : m9.toInt = (161) * (m8).toInt := by rw [em_42]; exact pm_mulk _ _ (161) (by omega) (by omega) (by omega)
        intro m10 em_45
        try have e10 : m10.toInt = (m9).toInt + (z5_6).toInt := by rw [em_45]; exact pm_add _ _ (by omega) (by omega)
        intro m11 em_47
        try have e11 : m11.toInt = (m10).toInt + (1) := by rw [em_47]; exact pm_addc _ _ (1) rfl (by omega) (by omega)
        have yi_9 : (m11).toInt.toNat = 161 * (x1.toInt.toNat - 1) + (z5_6.toInt.toNat + 1) := (by omega)
        refine Exists.intro _ (Exists.intro _ (And.intro (Or.inl (md_a_worth D)) (And.intro (by omega) ?_)))
        have yw_9 : ((f1 18 (m11).toInt.toNat)).toInt = wv ((BW (KD (f 0) (v 0).toInt) (v 0).toInt yk_9) (z5_6.toInt + 1)) := (by rw [yi_9, (j2_6 _ (by omega)).1, p3 (z5_6.toInt.toNat + 1) (by omega), show x1.toInt.toNat - 1 = yk_9 by omega, show (((z5_6.toInt.toNat + 1 : Nat)) : Int) = z5_6.toInt + 1 by omega])
        have yb_9 := BW_b (KD_b (f 0) (v 0).toInt) (v 0).toInt yk_9 (z5_6.toInt + 1)
        have yv_9 := wv_b (x := (BW (KD (f 0) (v 0).toInt) (v 0).toInt yk_9) (z5_6.toInt + 1)) (by omega)
        intro m12 em_49
        try have e12 : m12.toInt = (y7).toInt + ((f1 18 (m11).toInt.toNat)).toInt := by rw [em_49]; exact pm_add _ _ (by omega) (by omega)
        refine Exists.intro _ (And.intro md_o ?_)
        intro m13 em_60
        try have e13 : m13.toInt = (161) * (x1).toInt := by rw [em_60]; exact pm_mulk _ _ (161) (by omega) (by omega) (by omega)
        intro m14 em_62
        try have e14 : m14.toInt = (m13).toInt + (x2).toInt := by rw [em_62]; exact pm_add _ _ (by omega) (by omega)
        have yj_9 : (m14).toInt.toNat = (161 * x1.toInt.toNat + x2.toInt.toNat) := (by omega)
        refine Exists.intro _ (Exists.intro _ (And.intro (Or.inl (md_a_worth D)) (And.intro (by omega) ?_)))
        have yz_9 : ((f1 18 (m14).toInt.toNat)).toInt = wv (bmx (KD (f 0) (v 0).toInt) (BW (KD (f 0) (v 0).toInt) (v 0).toInt yk_9) x2.toInt (z5_6.toInt - x2.toInt).toNat) := (by rw [yj_9]; exact j3_6)
        have yt_9 := bstep (K := (KD (f 0) (v 0).toInt)) (g := (BW (KD (f 0) (v 0).toInt) (v 0).toInt yk_9)) (l := x2.toInt) (j := (z5_6.toInt - x2.toInt).toNat) (t := m12.toInt) (z := ((f1 18 (m14).toInt.toNat)).toInt) (fun x9 => (BW_b (KD_b (f 0) (v 0).toInt) (v 0).toInt yk_9 x9).1) (KD_b (f 0) (v 0).toInt) (by rw [show x2.toInt + (((z5_6.toInt - x2.toInt).toNat : Nat) : Int) = z5_6.toInt by omega]; omega) yz_9
        refine And.intro (fun c15 => ?_) (fun c15 => ?_)
        · skip
          refine hC.1 3 99 _ _ rfl _ _ _ _ _ ?_
          intro m16 em_99
          try have e16 : m16.toInt = (z5_6).toInt + (1) := by rw [em_99]; exact pm_addc _ _ (1) rfl (by omega) (by omega)
          exact hC.2 [false, false, false, false, false, false, true] _ _ _ _ _ _ (ih3 (z4_6 ||| ((1 : Int32) <<< ((f1 0 (z5_6).toInt.toNat) &&& 31))) m16 v1 f1 hv1 hf1 hw1 hr1_0 hr1_1 (by omega) (by rw [j1_6, l0_9, show (m16.toInt - x2.toInt).toNat = (z5_6.toInt + 1 - x2.toInt).toNat by omega]; exact setF_p (by omega)) (by intro i9 h9; first | (exact j2_6 i9 h9) | (rw [pg_98 18 (by decide), pf_86, yp_9, pk_un h9, pf_98, yq_9, pk_un h9, pg_86 19 (by decide)]; exact j2_6 i9 h9)) (by rw [show (m16.toInt - x2.toInt).toNat = (z5_6.toInt - x2.toInt).toNat + 1 by omega]; first | (rw [(yt_9.1 (Or.inl (by omega))).1]; exact j3_6) | (rw [(yt_9.1 (Or.inr (by omega))).1]; exact j3_6) | (have h9 := yt_9.2 (by omega); rw [h9.1, wv_y h9.2.2, pg_98 18 (by decide), pf_86, yp_9, pk_us])) (by intro h9; rw [show (m16.toInt - x2.toInt).toNat = (z5_6.toInt - x2.toInt).toNat + 1 by omega] at h9 ⊢; first | (have u9 := yt_9.1 (Or.inl (by omega)); rw [u9.1] at h9; rw [u9.2]; exact j4_6 h9) | (have u9 := yt_9.1 (Or.inr (by omega)); rw [u9.1] at h9; rw [u9.2]; exact j4_6 h9) | (have u9 := yt_9.2 (by omega); rw [u9.2.1, pf_98, yq_9, pk_us]; omega)) (by omega) (by omega) (by omega) (by omega) (by omega) (by omega) (by omega))
        · skip
          refine And.intro (fun c17 => ?_) (fun c17 => ?_)
          · skip
            refine hC.1 2 75 _ _ rfl _ _ _ _ _ ?_
            refine Exists.intro _ (And.intro md_o ?_)
            intro m18 em_81
            try have e18 : m18.toInt = (161) * (x1).toInt := by rw [em_81]; exact pm_mulk _ _ (161) (by omega) (by omega) (by omega)
            intro m19 em_83
            try have e19 : m19.toInt = (m18).toInt + (x2).toInt := by rw [em_83]; exact pm_add _ _ (by omega) (by omega)
            have yp_9 : (m19).toInt.toNat = (161 * x1.toInt.toNat + x2.toInt.toNat) := (by omega)
            refine Exists.intro _ (Exists.intro _ (And.intro (md_a_worth D) (And.intro (by omega) ?_)))
            rw [md_s_worth D]
            obtain ⟨f20, ef20⟩ : ∃ z9, z9 = va_up f1 18 (upd (f1 18) (m19).toInt.toNat m12) := ⟨_, rfl⟩
            rw [← ef20]
            have pf_86 : f20 18 = upd (f1 18) (m19).toInt.toNat m12 := by rw [ef20]; exact if_pos rfl
            have pg_86 : ∀ i9, i9 ≠ 18 → f20 i9 = f1 i9 := fun i9 h9 => by rw [ef20]; exact if_neg h9
            have hf20 : md_F f20 := by rw [ef20]; exact md_F_st hf1 18 _ _ (md_rng _ _ (by decide))
            have hw20 : f20 2 = f 2 := (show f20 2 = f1 2 by rw [ef20]; rfl).trans hw1
            have hr20_0 : f20 0 = f 0 := (show f20 0 = f1 0 by rw [ef20]; rfl).trans hr1_0
            have hr20_1 : f20 1 = f 1 := (show f20 1 = f1 1 by rw [ef20]; rfl).trans hr1_1
            refine Exists.intro _ (And.intro md_o ?_)
            intro m21 em_93
            try have e21 : m21.toInt = (161) * (x1).toInt := by rw [em_93]; exact pm_mulk _ _ (161) (by omega) (by omega) (by omega)
            intro m22 em_95
            try have e22 : m22.toInt = (m21).toInt + (x2).toInt := by rw [em_95]; exact pm_add _ _ (by omega) (by omega)
            have yq_9 : (m22).toInt.toNat = (161 * x1.toInt.toNat + x2.toInt.toNat) := (by omega)
            refine Exists.intro _ (Exists.intro _ (And.intro (md_a_ends0 D) (And.intro (by omega) ?_)))
            rw [md_s_ends0 D]
            obtain ⟨f23, ef23⟩ : ∃ z9, z9 = va_up f20 19 (upd (f20 19) (m22).toInt.toNat z5_6) := ⟨_, rfl⟩
            rw [← ef23]
            have pf_98 : f23 19 = upd (f20 19) (m22).toInt.toNat z5_6 := by rw [ef23]; exact if_pos rfl
            have pg_98 : ∀ i9, i9 ≠ 19 → f23 i9 = f20 i9 := fun i9 h9 => by rw [ef23]; exact if_neg h9
            have hf23 : md_F f23 := by rw [ef23]; exact md_F_st hf20 19 _ _ (by show (0 : Int) ≤ _ ∧ _ ≤ (159 : Int); omega)
            have hw23 : f23 2 = f 2 := (show f23 2 = f20 2 by rw [ef23]; rfl).trans hw20
            have hr23_0 : f23 0 = f 0 := (show f23 0 = f20 0 by rw [ef23]; rfl).trans hr20_0
            have hr23_1 : f23 1 = f 1 := (show f23 1 = f20 1 by rw [ef23]; rfl).trans hr20_1
            refine hC.1 3 99 _ _ rfl _ _ _ _ _ ?_
            intro m24 em_99
            try have e24 : m24.toInt = (z5_6).toInt + (1) := by rw [em_99]; exact pm_addc _ _ (1) rfl (by omega) (by omega)
            exact hC.2 [false, false, false, false, false, false, true] _ _ _ _ _ _ (ih3 (z4_6 ||| ((1 : Int32) <<< ((f1 0 (z5_6).toInt.toNat) &&& 31))) m24 v1 f23 hv1 hf23 hw23 hr23_0 hr23_1 (by omega) (by rw [j1_6, l0_9, show (m24.toInt - x2.toInt).toNat = (z5_6.toInt + 1 - x2.toInt).toNat by omega]; exact setF_p (by omega)) (by intro i9 h9; first | (exact j2_6 i9 h9) | (rw [pg_98 18 (by decide), pf_86, yp_9, pk_un h9, pf_98, yq_9, pk_un h9, pg_86 19 (by decide)]; exact j2_6 i9 h9)) (by rw [show (m24.toInt - x2.toInt).toNat = (z5_6.toInt - x2.toInt).toNat + 1 by omega]; first | (rw [(yt_9.1 (Or.inl (by omega))).1]; exact j3_6) | (rw [(yt_9.1 (Or.inr (by omega))).1]; exact j3_6) | (have h9 := yt_9.2 (by omega); rw [h9.1, wv_y h9.2.2, pg_98 18 (by decide), pf_86, yp_9, pk_us])) (by intro h9; rw [show (m24.toInt - x2.toInt).toNat = (z5_6.toInt - x2.toInt).toNat + 1 by omega] at h9 ⊢; first | (have u9 := yt_9.1 (Or.inl (by omega)); rw [u9.1] at h9; rw [u9.2]; exact j4_6 h9) | (have u9 := yt_9.1 (Or.inr (by omega)); rw [u9.1] at h9; rw [u9.2]; exact j4_6 h9) | (have u9 := yt_9.2 (by omega); rw [u9.2.1, pf_98, yq_9, pk_us]; omega)) (by omega) (by omega) (by omega) (by omega) (by omega) (by omega) (by omega))
          · skip
            refine hC.1 3 99 _ _ rfl _ _ _ _ _ ?_
            intro m25 em_99
            try have e25 : m25.toInt = (z5_6).toInt + (1) := by rw [em_99]; exact pm_addc _ _ (1) rfl (by omega) (by omega)
            exact hC.2 [false, false, false, false, false, false, true] _ _ _ _ _ _ (ih3 (z4_6 ||| ((1 : Int32) <<< ((f1 0 (z5_6).toInt.toNat) &&& 31))) m25 v1 f1 hv1 hf1 hw1 hr1_0 hr1_1 (by omega) (by rw [j1_6, l0_9, show (m25.toInt - x2.toInt).toNat = (z5_6.toInt + 1 - x2.toInt).toNat by omega]; exact setF_p (by omega)) (by intro i9 h9; first | (exact j2_6 i9 h9) | (rw [pg_98 18 (by decide), pf_86, yp_9, pk_un h9, pf_98, yq_9, pk_un h9, pg_86 19 (by decide)]; exact j2_6 i9 h9)) (by rw [show (m25.toInt - x2.toInt).toNat = (z5_6.toInt - x2.toInt).toNat + 1 by omega]; first | (rw [(yt_9.1 (Or.inl (by omega))).1]; exact j3_6) | (rw [(yt_9.1 (Or.inr (by omega))).1]; exact j3_6) | (have h9 := yt_9.2 (by omega); rw [h9.1, wv_y h9.2.2, pg_98 18 (by decide), pf_86, yp_9, pk_us])) (by intro h9; rw [show (m25.toInt - x2.toInt).toNat = (z5_6.toInt - x2.toInt).toNat + 1 by omega] at h9 ⊢; first | (have u9 := yt_9.1 (Or.inl (by omega)); rw [u9.1] at h9; rw [u9.2]; exact j4_6 h9) | (have u9 := yt_9.1 (Or.inr (by omega)); rw [u9.1] at h9; rw [u9.2]; exact j4_6 h9) | (have u9 := yt_9.2 (by omega); rw [u9.2.1, pf_98, yq_9, pk_us]; omega)) (by omega) (by omega) (by omega) (by omega) (by omega) (by omega) (by omega))
  exact lp2 (200 - x2.toInt).toNat.succ (0 : Int32) x2 v f hv hf rfl rfl rfl (by omega) (by rw [show (x2.toInt - x2.toInt).toNat = 0 by omega]; rfl) (by exact fun _ _ => ⟨rfl, rfl⟩) (by rw [show (x2.toInt - x2.toInt).toNat = 0 by omega]; exact p4) (by intro h9; rw [show (x2.toInt - x2.toInt).toNat = 0 by omega] at h9; exact absurd rfl h9) (by omega) (by omega) (by omega) (by omega) (by omega) (by omega) (by omega)

set_option maxRecDepth 100000 in
set_option maxHeartbeats 2000000 in
theorem G_X11_layBest (D : md_D h q) (v : Nat → Int32) (f : Nat → Nat → Int32) (hv : md_V v) (hf : md_F f) (x1 : Int32) (p0 : 0 ≤ x1.toInt ∧ x1.toInt ≤ 8) : pm_Mt l g 273 2 0 0 [.ref h, .int x1] (md A0 g h q v f) (md_Qv A0 g h q f (fun v2 f2 => f2 0 = f 0 ∧ f2 1 = f 1 ∧ ((v2 0).toInt = (v 0).toInt ∧ (v2 1).toInt = (v 1).toInt ∧ (v2 2).toInt = (v 2).toInt ∧ (v2 3).toInt = (v 3).toInt ∧ (v2 4).toInt = (v 4).toInt ∧ (v2 6).toInt = (v 6).toInt) ∧ (∀ k9 l9 : Nat, (k9 : Int) ≤ x1.toInt → (l9 : Int) ≤ (v 0).toInt → LBK (KD (f 0) (v 0).toInt) (v 0).toInt (f2 18) (f2 19) k9 l9))) := by
  refine mt_X11_layBest rfl (fun J hC => ?_)
  have hv9 := hv
  unfold md_V at hv9
  have rg_x1 := pm_rng x1
  refine hC.1 0 0 _ _ rfl _ _ _ _ _ ?_
  have k161 : (161 : Int32).toInt = 161 := rfl
  have k0 : (0 : Int32).toInt = 0 := rfl
  have lp2 : ∀ (n : Nat) (z3_6 : Int32) (v1 : Nat → Int32) (f1 : Nat → Nat → Int32), md_V v1 → md_F f1 → f1 2 = f 2 → f1 0 = f 0 → f1 1 = f 1 → (0 ≤ z3_6.toInt ∧ z3_6.toInt ≤ x1.toInt + 1) → (∀ k9 l9 : Nat, (k9 : Int) < z3_6.toInt → (l9 : Int) ≤ (v 0).toInt → LBK (KD (f 0) (v 0).toInt) (v 0).toInt (f1 18) (f1 19) k9 l9) → (v1 0).toInt = (v 0).toInt → (v1 1).toInt = (v 1).toInt → (v1 2).toInt = (v 2).toInt → (v1 3).toInt = (v 3).toInt → (v1 4).toInt = (v 4).toInt → (v1 6).toInt = (v 6).toInt → 200 - z3_6.toInt < (n : Int) → J 6 [some (.ref h), some (.int x1), some (.int (161 : Int32)), some (.int z3_6), none] [] (md A0 g h q v1 f1) 0 0 := by
    intro n
    induction n with
    | zero =>
      intro z3_6 v1 f1 hv1 hf1 hw1 hr1_0 hr1_1 j0_6 j1_6 j2_6 j3_6 j4_6 j5_6 j6_6 j7_6 j8_6
      omega
    | succ n ih3 =>
      intro z3_6 v1 f1 hv1 hf1 hw1 hr1_0 hr1_1 j0_6 j1_6 j2_6 j3_6 j4_6 j5_6 j6_6 j7_6 j8_6
      refine hC.1 1 6 _ _ rfl _ _ _ _ _ ?_
      refine And.intro (fun c5 => ?_) (fun c5 => ?_)
      · skip
        refine hC.1 7 85 _ _ rfl _ _ _ _ _ ?_
        exact ⟨rfl, rfl, v1, f1, rfl, rfl, hv1, hf1, hw1, hr1_0, hr1_1, by first | omega | (dsimp only; omega) | trivial, by exact fun k9 l9 h9 h8 => j1_6 k9 l9 (by omega) h8⟩
      · skip
        refine Exists.intro _ (And.intro md_o ?_)
        have lp7 : ∀ (n : Nat) (z4_17 : Int32) (v6 : Nat → Int32) (f6 : Nat → Nat → Int32), md_V v6 → md_F f6 → f6 2 = f 2 → f6 0 = f 0 → f6 1 = f 1 → (-1 ≤ z4_17.toInt ∧ z4_17.toInt ≤ (v 0).toInt) → (∀ k9 l9 : Nat, (k9 : Int) < z3_6.toInt → (l9 : Int) ≤ (v 0).toInt → LBK (KD (f 0) (v 0).toInt) (v 0).toInt (f6 18) (f6 19) k9 l9) → (∀ l9 : Nat, z4_17.toInt < (l9 : Int) → (l9 : Int) ≤ (v 0).toInt → LBK (KD (f 0) (v 0).toInt) (v 0).toInt (f6 18) (f6 19) z3_6.toInt.toNat l9) → (v6 0).toInt = (v 0).toInt → (v6 1).toInt = (v 1).toInt → (v6 2).toInt = (v 2).toInt → (v6 3).toInt = (v 3).toInt → (v6 4).toInt = (v 4).toInt → (v6 6).toInt = (v 6).toInt → z4_17.toInt + 1 < (n : Int) → J 17 [some (.ref h), some (.int x1), some (.int (161 : Int32)), some (.int z3_6), some (.int z4_17)] [] (md A0 g h q v6 f6) 0 0 := by
          intro n
          induction n with
          | zero =>
            intro z4_17 v6 f6 hv6 hf6 hw6 hr6_0 hr6_1 j0_17 j1_17 j2_17 j3_17 j4_17 j5_17 j6_17 j7_17 j8_17 j9_17
            omega
          | succ n ih8 =>
            intro z4_17 v6 f6 hv6 hf6 hw6 hr6_0 hr6_1 j0_17 j1_17 j2_17 j3_17 j4_17 j5_17 j6_17 j7_17 j8_17 j9_17
            refine hC.1 2 17 _ _ rfl _ _ _ _ _ ?_
            refine And.intro (fun c10 => ?_) (fun c10 => ?_)
            · skip
              refine hC.1 6 79 _ _ rfl _ _ _ _ _ ?_
              have k1 : (1 : Int32).toInt = 1 := rfl
              intro m11 em_79
              try have e11 : m11.toInt = (z3_6).toInt + (1) := by rw [em_79]; exact pm_addc _ _ (1) rfl (by omega) (by omega)
              exact hC.2 [false, false, false, false, true] _ _ _ _ _ _ (ih3 m11 v6 f6 hv6 hf6 hw6 hr6_0 hr6_1 (by omega) (by intro k9 l9 h9 h8; by_cases h7 : k9 = z3_6.toInt.toNat; (rw [h7]; exact j2_17 l9 (by omega) h8); (exact j1_17 k9 l9 (by omega) h8)) (by omega) (by omega) (by omega) (by omega) (by omega) (by omega) (by omega))
            · skip
              refine Exists.intro _ (And.intro md_o ?_)
              intro m12 em_28
              try have e12 : m12.toInt = (161) * (z3_6).toInt := by rw [em_28]; exact pm_mulk _ _ (161) rfl (by omega) (by omega)
              intro m13 em_31
              try have e13 : m13.toInt = (m12).toInt + (z4_17).toInt := by rw [em_31]; exact pm_add _ _ (by omega) (by omega)
              have yi_9 : (m13).toInt.toNat = 161 * z3_6.toInt.toNat + z4_17.toInt.toNat := (by omega)
              refine And.intro (fun c14 => ?_) (fun c14 => ?_)
              · skip
                have dc14 := pm_neI c14
                refine hC.1 3 49 _ _ rfl _ _ _ _ _ ?_
                have km268435456 : (-268435456 : Int32).toInt = -268435456 := rfl
                refine hC.1 4 51 _ _ rfl _ _ _ _ _ ?_
                refine Exists.intro _ (Exists.intro _ (And.intro (md_a_worth D) (And.intro (by omega) ?_)))
                rw [md_s_worth D]
                obtain ⟨f15, ef15⟩ : ∃ z9, z9 = va_up f6 18 (upd (f6 18) (m13).toInt.toNat (-268435456 : Int32)) := ⟨_, rfl⟩
                rw [← ef15]
                have pf_51 : f15 18 = upd (f6 18) (m13).toInt.toNat (-268435456 : Int32) := by rw [ef15]; exact if_pos rfl
                have pg_51 : ∀ i9, i9 ≠ 18 → f15 i9 = f6 i9 := fun i9 h9 => by rw [ef15]; exact if_neg h9
                have hf15 : md_F f15 := by rw [ef15]; exact md_F_st hf6 18 _ _ (md_rng _ _ (by decide))
                have hw15 : f15 2 = f 2 := (show f15 2 = f6 2 by rw [ef15]; rfl).trans hw6
                have hr15_0 : f15 0 = f 0 := (show f15 0 = f6 0 by rw [ef15]; rfl).trans hr6_0
                have hr15_1 : f15 1 = f 1 := (show f15 1 = f6 1 by rw [ef15]; rfl).trans hr6_1
                refine And.intro (fun c16 => ?_) (fun c16 => ?_)
                · skip
                  refine hC.1 5 73 _ _ rfl _ _ _ _ _ ?_
                  have km1 : (-1 : Int32).toInt = -1 := rfl
                  intro m17 em_73
                  try have e17 : m17.toInt = (z4_17).toInt + (-1) := by rw [em_73]; exact pm_addc _ _ (-1) rfl (by omega) (by omega)
                  exact ih8 m17 v6 f15 hv6 hf15 hw15 hr15_0 hr15_1 (by omega) (by intro k9 l9 h9 h8; exact LBK_fr (j1_17 k9 l9 h9 h8) (by first | (rw [(yl_9.1 _ (by omega)).1, pf_51, yi_9, pk_un (by omega)]) | (rw [pf_51, yi_9, pk_un (by omega)])) (by first | (rw [(yl_9.1 _ (by omega)).2, pg_51 19 (by decide)]) | (rw [pg_51 19 (by decide)]))) (by intro l9 h9 h8; by_cases h7 : (l9 : Int) = z4_17.toInt; (rw [show l9 = z4_17.toInt.toNat by omega]; first | (exact ⟨yl_9.2.1.trans (by rw [show ((z4_17.toInt.toNat : Nat) : Int) = z4_17.toInt by omega]), fun _ h6 => (yl_9.2.2 (by rw [show ((z4_17.toInt.toNat : Nat) : Int) = z4_17.toInt by omega] at h6; exact h6)).trans (by rw [show ((z4_17.toInt.toNat : Nat) : Int) = z4_17.toInt by omega])⟩) | (exact LBK_0 (z := z4_17.toInt) (by omega) (by omega) (by rw [pf_51, yi_9, pk_us]; first | (rw [if_pos (by omega)]; rfl) | (rw [if_neg (by omega)]; rfl))) | (exact LBK_n (by omega) (by omega) (by rw [pf_51, yi_9, pk_us]; rfl))); (exact LBK_fr (j2_17 l9 (by omega) h8) (by first | (rw [(yl_9.1 _ (by omega)).1, pf_51, yi_9, pk_un (by omega)]) | (rw [pf_51, yi_9, pk_un (by omega)])) (by first | (rw [(yl_9.1 _ (by omega)).2, pg_51 19 (by decide)]) | (rw [pg_51 19 (by decide)])))) (by omega) (by omega) (by omega) (by omega) (by omega) (by omega) (by omega)
                · skip
                  refine Exists.intro _ (And.intro md_o ?_)
                  refine And.intro (fun c18 => ?_) (fun c18 => ?_)
                  · skip
                    refine hC.1 5 73 _ _ rfl _ _ _ _ _ ?_
                    have km1 : (-1 : Int32).toInt = -1 := rfl
                    intro m19 em_73
                    try have e19 : m19.toInt = (z4_17).toInt + (-1) := by rw [em_73]; exact pm_addc _ _ (-1) rfl (by omega) (by omega)
                    exact ih8 m19 v6 f15 hv6 hf15 hw15 hr15_0 hr15_1 (by omega) (by intro k9 l9 h9 h8; exact LBK_fr (j1_17 k9 l9 h9 h8) (by first | (rw [(yl_9.1 _ (by omega)).1, pf_51, yi_9, pk_un (by omega)]) | (rw [pf_51, yi_9, pk_un (by omega)])) (by first | (rw [(yl_9.1 _ (by omega)).2, pg_51 19 (by decide)]) | (rw [pg_51 19 (by decide)]))) (by intro l9 h9 h8; by_cases h7 : (l9 : Int) = z4_17.toInt; (rw [show l9 = z4_17.toInt.toNat by omega]; first | (exact ⟨yl_9.2.1.trans (by rw [show ((z4_17.toInt.toNat : Nat) : Int) = z4_17.toInt by omega]), fun _ h6 => (yl_9.2.2 (by rw [show ((z4_17.toInt.toNat : Nat) : Int) = z4_17.toInt by omega] at h6; exact h6)).trans (by rw [show ((z4_17.toInt.toNat : Nat) : Int) = z4_17.toInt by omega])⟩) | (exact LBK_0 (z := z4_17.toInt) (by omega) (by omega) (by rw [pf_51, yi_9, pk_us]; first | (rw [if_pos (by omega)]; rfl) | (rw [if_neg (by omega)]; rfl))) | (exact LBK_n (by omega) (by omega) (by rw [pf_51, yi_9, pk_us]; rfl))); (exact LBK_fr (j2_17 l9 (by omega) h8) (by first | (rw [(yl_9.1 _ (by omega)).1, pf_51, yi_9, pk_un (by omega)]) | (rw [pf_51, yi_9, pk_un (by omega)])) (by first | (rw [(yl_9.1 _ (by omega)).2, pg_51 19 (by decide)]) | (rw [pg_51 19 (by decide)])))) (by omega) (by omega) (by omega) (by omega) (by omega) (by omega) (by omega)
                  · skip
                    have l0_9 := hr15_0
                    have lv_9 : (v6 0).toInt = (v 0).toInt := (by omega)
                    refine And.intro (Exists.intro _ md_o) (Exists.intro _ (Exists.intro _ (Exists.intro _ (Exists.intro _ (And.intro (G_X11_layPart D v6 f15 hv6 hf15 z3_6 z4_17 (161 : Int32) (by omega) (by omega) (by omega) (by intro r9 h9; rw [pf_51, yi_9, pk_un (by omega), l0_9, lv_9]; exact (j1_17 (z3_6.toInt.toNat - 1) r9 (by omega) (by omega)).1) (by rw [pf_51, yi_9, pk_us]; first | rfl | omega)) (And.intro rfl (fun r9 A9 h9 => ?_)))))))
                    obtain ⟨v21, f21, rfl, rfl, hv21, hf21, hx21, hg21_0, hg21_1, by20⟩ := h9
                    have hw21 : f21 2 = f 2 := hx21.trans hw15
                    have pr_70_0 := hg21_0
                    have pr_70_1 := hg21_1
                    have hr21_0 : f21 0 = f 0 := hg21_0.trans hr15_0
                    have hr21_1 : f21 1 = f 1 := hg21_1.trans hr15_1
                    have yl_9 := by20.2
                    rw [l0_9, lv_9] at yl_9
                    refine hC.1 5 73 _ _ rfl _ _ _ _ _ ?_
                    have km1 : (-1 : Int32).toInt = -1 := rfl
                    intro m23 em_73
                    try have e23 : m23.toInt = (z4_17).toInt + (-1) := by rw [em_73]; exact pm_addc _ _ (-1) rfl (by omega) (by omega)
                    exact ih8 m23 v21 f21 hv21 hf21 hw21 hr21_0 hr21_1 (by omega) (by intro k9 l9 h9 h8; exact LBK_fr (j1_17 k9 l9 h9 h8) (by first | (rw [(yl_9.1 _ (by omega)).1, pf_51, yi_9, pk_un (by omega)]) | (rw [pf_51, yi_9, pk_un (by omega)])) (by first | (rw [(yl_9.1 _ (by omega)).2, pg_51 19 (by decide)]) | (rw [pg_51 19 (by decide)]))) (by intro l9 h9 h8; by_cases h7 : (l9 : Int) = z4_17.toInt; (rw [show l9 = z4_17.toInt.toNat by omega]; first | (exact ⟨yl_9.2.1.trans (by rw [show ((z4_17.toInt.toNat : Nat) : Int) = z4_17.toInt by omega]), fun _ h6 => (yl_9.2.2 (by rw [show ((z4_17.toInt.toNat : Nat) : Int) = z4_17.toInt by omega] at h6; exact h6)).trans (by rw [show ((z4_17.toInt.toNat : Nat) : Int) = z4_17.toInt by omega])⟩) | (exact LBK_0 (z := z4_17.toInt) (by omega) (by omega) (by rw [pf_51, yi_9, pk_us]; first | (rw [if_pos (by omega)]; rfl) | (rw [if_neg (by omega)]; rfl))) | (exact LBK_n (by omega) (by omega) (by rw [pf_51, yi_9, pk_us]; rfl))); (exact LBK_fr (j2_17 l9 (by omega) h8) (by first | (rw [(yl_9.1 _ (by omega)).1, pf_51, yi_9, pk_un (by omega)]) | (rw [pf_51, yi_9, pk_un (by omega)])) (by first | (rw [(yl_9.1 _ (by omega)).2, pg_51 19 (by decide)]) | (rw [pg_51 19 (by decide)])))) (by omega) (by omega) (by omega) (by omega) (by omega) (by omega) (by omega)
              · skip
                have dc14 : (z3_6).toInt = (0 : Int32).toInt := congrArg Int32.toInt c14
                refine Exists.intro _ (And.intro md_o ?_)
                refine And.intro (fun c24 => ?_) (fun c24 => ?_)
                · skip
                  have dc24 := pm_neI c24
                  refine hC.1 3 49 _ _ rfl _ _ _ _ _ ?_
                  have km268435456 : (-268435456 : Int32).toInt = -268435456 := rfl
                  refine hC.1 4 51 _ _ rfl _ _ _ _ _ ?_
                  refine Exists.intro _ (Exists.intro _ (And.intro (md_a_worth D) (And.intro (by omega) ?_)))
                  rw [md_s_worth D]
                  obtain ⟨f25, ef25⟩ : ∃ z9, z9 = va_up f6 18 (upd (f6 18) (m13).toInt.toNat (-268435456 : Int32)) := ⟨_, rfl⟩
                  rw [← ef25]
                  have pf_51 : f25 18 = upd (f6 18) (m13).toInt.toNat (-268435456 : Int32) := by rw [ef25]; exact if_pos rfl
                  have pg_51 : ∀ i9, i9 ≠ 18 → f25 i9 = f6 i9 := fun i9 h9 => by rw [ef25]; exact if_neg h9
                  have hf25 : md_F f25 := by rw [ef25]; exact md_F_st hf6 18 _ _ (md_rng _ _ (by decide))
                  have hw25 : f25 2 = f 2 := (show f25 2 = f6 2 by rw [ef25]; rfl).trans hw6
                  have hr25_0 : f25 0 = f 0 := (show f25 0 = f6 0 by rw [ef25]; rfl).trans hr6_0
                  have hr25_1 : f25 1 = f 1 := (show f25 1 = f6 1 by rw [ef25]; rfl).trans hr6_1
                  refine And.intro (fun c26 => ?_) (fun c26 => ?_)
                  · skip
                    refine hC.1 5 73 _ _ rfl _ _ _ _ _ ?_
                    have km1 : (-1 : Int32).toInt = -1 := rfl
                    intro m27 em_73
                    try have e27 : m27.toInt = (z4_17).toInt + (-1) := by rw [em_73]; exact pm_addc _ _ (-1) rfl (by omega) (by omega)
                    exact ih8 m27 v6 f25 hv6 hf25 hw25 hr25_0 hr25_1 (by omega) (by intro k9 l9 h9 h8; exact LBK_fr (j1_17 k9 l9 h9 h8) (by first | (rw [(yl_9.1 _ (by omega)).1, pf_51, yi_9, pk_un (by omega)]) | (rw [pf_51, yi_9, pk_un (by omega)])) (by first | (rw [(yl_9.1 _ (by omega)).2, pg_51 19 (by decide)]) | (rw [pg_51 19 (by decide)]))) (by intro l9 h9 h8; by_cases h7 : (l9 : Int) = z4_17.toInt; (rw [show l9 = z4_17.toInt.toNat by omega]; first | (exact ⟨yl_9.2.1.trans (by rw [show ((z4_17.toInt.toNat : Nat) : Int) = z4_17.toInt by omega]), fun _ h6 => (yl_9.2.2 (by rw [show ((z4_17.toInt.toNat : Nat) : Int) = z4_17.toInt by omega] at h6; exact h6)).trans (by rw [show ((z4_17.toInt.toNat : Nat) : Int) = z4_17.toInt by omega])⟩) | (exact LBK_0 (z := z4_17.toInt) (by omega) (by omega) (by rw [pf_51, yi_9, pk_us]; first | (rw [if_pos (by omega)]; rfl) | (rw [if_neg (by omega)]; rfl))) | (exact LBK_n (by omega) (by omega) (by rw [pf_51, yi_9, pk_us]; rfl))); (exact LBK_fr (j2_17 l9 (by omega) h8) (by first | (rw [(yl_9.1 _ (by omega)).1, pf_51, yi_9, pk_un (by omega)]) | (rw [pf_51, yi_9, pk_un (by omega)])) (by first | (rw [(yl_9.1 _ (by omega)).2, pg_51 19 (by decide)]) | (rw [pg_51 19 (by decide)])))) (by omega) (by omega) (by omega) (by omega) (by omega) (by omega) (by omega)
                  · skip
                    refine Exists.intro _ (And.intro md_o ?_)
                    refine And.intro (fun c28 => ?_) (fun c28 => ?_)
                    · skip
                      refine hC.1 5 73 _ _ rfl _ _ _ _ _ ?_
                      have km1 : (-1 : Int32).toInt = -1 := rfl
                      intro m29 em_73
                      try have e29 : m29.toInt = (z4_17).toInt + (-1) := by rw [em_73]; exact pm_addc _ _ (-1) rfl (by omega) (by omega)
                      exact ih8 m29 v6 f25 hv6 hf25 hw25 hr25_0 hr25_1 (by omega) (by intro k9 l9 h9 h8; exact LBK_fr (j1_17 k9 l9 h9 h8) (by first | (rw [(yl_9.1 _ (by omega)).1, pf_51, yi_9, pk_un (by omega)]) | (rw [pf_51, yi_9, pk_un (by omega)])) (by first | (rw [(yl_9.1 _ (by omega)).2, pg_51 19 (by decide)]) | (rw [pg_51 19 (by decide)]))) (by intro l9 h9 h8; by_cases h7 : (l9 : Int) = z4_17.toInt; (rw [show l9 = z4_17.toInt.toNat by omega]; first | (exact ⟨yl_9.2.1.trans (by rw [show ((z4_17.toInt.toNat : Nat) : Int) = z4_17.toInt by omega]), fun _ h6 => (yl_9.2.2 (by rw [show ((z4_17.toInt.toNat : Nat) : Int) = z4_17.toInt by omega] at h6; exact h6)).trans (by rw [show ((z4_17.toInt.toNat : Nat) : Int) = z4_17.toInt by omega])⟩) | (exact LBK_0 (z := z4_17.toInt) (by omega) (by omega) (by rw [pf_51, yi_9, pk_us]; first | (rw [if_pos (by omega)]; rfl) | (rw [if_neg (by omega)]; rfl))) | (exact LBK_n (by omega) (by omega) (by rw [pf_51, yi_9, pk_us]; rfl))); (exact LBK_fr (j2_17 l9 (by omega) h8) (by first | (rw [(yl_9.1 _ (by omega)).1, pf_51, yi_9, pk_un (by omega)]) | (rw [pf_51, yi_9, pk_un (by omega)])) (by first | (rw [(yl_9.1 _ (by omega)).2, pg_51 19 (by decide)]) | (rw [pg_51 19 (by decide)])))) (by omega) (by omega) (by omega) (by omega) (by omega) (by omega) (by omega)
                    · skip
                      have l0_9 := hr25_0
                      have lv_9 : (v6 0).toInt = (v 0).toInt := (by omega)
                      refine And.intro (Exists.intro _ md_o) (Exists.intro _ (Exists.intro _ (Exists.intro _ (Exists.intro _ (And.intro (G_X11_layPart D v6 f25 hv6 hf25 z3_6 z4_17 (161 : Int32) (by omega) (by omega) (by omega) (by intro r9 h9; rw [pf_51, yi_9, pk_un (by omega), l0_9, lv_9]; exact (j1_17 (z3_6.toInt.toNat - 1) r9 (by omega) (by omega)).1) (by rw [pf_51, yi_9, pk_us]; first | rfl | omega)) (And.intro rfl (fun r9 A9 h9 => ?_)))))))
                      obtain ⟨v31, f31, rfl, rfl, hv31, hf31, hx31, hg31_0, hg31_1, by30⟩ := h9
                      have hw31 : f31 2 = f 2 := hx31.trans hw25
                      have pr_70_0 := hg31_0
                      have pr_70_1 := hg31_1
                      have hr31_0 : f31 0 = f 0 := hg31_0.trans hr25_0
                      have hr31_1 : f31 1 = f 1 := hg31_1.trans hr25_1
                      have yl_9 := by30.2
                      rw [l0_9, lv_9] at yl_9
                      refine hC.1 5 73 _ _ rfl _ _ _ _ _ ?_
                      have km1 : (-1 : Int32).toInt = -1 := rfl
                      intro m33 em_73
                      try have e33 : m33.toInt = (z4_17).toInt + (-1) := by rw [em_73]; exact pm_addc _ _ (-1) rfl (by omega) (by omega)
                      exact ih8 m33 v31 f31 hv31 hf31 hw31 hr31_0 hr31_1 (by omega) (by intro k9 l9 h9 h8; exact LBK_fr (j1_17 k9 l9 h9 h8) (by first | (rw [(yl_9.1 _ (by omega)).1, pf_51, yi_9, pk_un (by omega)]) | (rw [pf_51, yi_9, pk_un (by omega)])) (by first | (rw [(yl_9.1 _ (by omega)).2, pg_51 19 (by decide)]) | (rw [pg_51 19 (by decide)]))) (by intro l9 h9 h8; by_cases h7 : (l9 : Int) = z4_17.toInt; (rw [show l9 = z4_17.toInt.toNat by omega]; first | (exact ⟨yl_9.2.1.trans (by rw [show ((z4_17.toInt.toNat : Nat) : Int) = z4_17.toInt by omega]), fun _ h6 => (yl_9.2.2 (by rw [show ((z4_17.toInt.toNat : Nat) : Int) = z4_17.toInt by omega] at h6; exact h6)).trans (by rw [show ((z4_17.toInt.toNat : Nat) : Int) = z4_17.toInt by omega])⟩) | (exact LBK_0 (z := z4_17.toInt) (by omega) (by omega) (by rw [pf_51, yi_9, pk_us]; first | (rw [if_pos (by omega)]; rfl) | (rw [if_neg (by omega)]; rfl))) | (exact LBK_n (by omega) (by omega) (by rw [pf_51, yi_9, pk_us]; rfl))); (exact LBK_fr (j2_17 l9 (by omega) h8) (by first | (rw [(yl_9.1 _ (by omega)).1, pf_51, yi_9, pk_un (by omega)]) | (rw [pf_51, yi_9, pk_un (by omega)])) (by first | (rw [(yl_9.1 _ (by omega)).2, pg_51 19 (by decide)]) | (rw [pg_51 19 (by decide)])))) (by omega) (by omega) (by omega) (by omega) (by omega) (by omega) (by omega)
                · skip
                  have dc24 : (z4_17).toInt = ((v6 0) : Int32).toInt := congrArg Int32.toInt c24
                  refine hC.1 4 51 _ _ rfl _ _ _ _ _ ?_
                  refine Exists.intro _ (Exists.intro _ (And.intro (md_a_worth D) (And.intro (by omega) ?_)))
                  rw [md_s_worth D]
                  obtain ⟨f34, ef34⟩ : ∃ z9, z9 = va_up f6 18 (upd (f6 18) (m13).toInt.toNat (0 : Int32)) := ⟨_, rfl⟩
                  rw [← ef34]
                  have pf_51 : f34 18 = upd (f6 18) (m13).toInt.toNat (0 : Int32) := by rw [ef34]; exact if_pos rfl
                  have pg_51 : ∀ i9, i9 ≠ 18 → f34 i9 = f6 i9 := fun i9 h9 => by rw [ef34]; exact if_neg h9
                  have hf34 : md_F f34 := by rw [ef34]; exact md_F_st hf6 18 _ _ (md_rng _ _ (by decide))
                  have hw34 : f34 2 = f 2 := (show f34 2 = f6 2 by rw [ef34]; rfl).trans hw6
                  have hr34_0 : f34 0 = f 0 := (show f34 0 = f6 0 by rw [ef34]; rfl).trans hr6_0
                  have hr34_1 : f34 1 = f 1 := (show f34 1 = f6 1 by rw [ef34]; rfl).trans hr6_1
                  refine And.intro (fun c35 => ?_) (fun c35 => ?_)
                  · skip
                    refine hC.1 5 73 _ _ rfl _ _ _ _ _ ?_
                    have km1 : (-1 : Int32).toInt = -1 := rfl
                    intro m36 em_73
                    try have e36 : m36.toInt = (z4_17).toInt + (-1) := by rw [em_73]; exact pm_addc _ _ (-1) rfl (by omega) (by omega)
                    exact ih8 m36 v6 f34 hv6 hf34 hw34 hr34_0 hr34_1 (by omega) (by intro k9 l9 h9 h8; exact LBK_fr (j1_17 k9 l9 h9 h8) (by first | (rw [(yl_9.1 _ (by omega)).1, pf_51, yi_9, pk_un (by omega)]) | (rw [pf_51, yi_9, pk_un (by omega)])) (by first | (rw [(yl_9.1 _ (by omega)).2, pg_51 19 (by decide)]) | (rw [pg_51 19 (by decide)]))) (by intro l9 h9 h8; by_cases h7 : (l9 : Int) = z4_17.toInt; (rw [show l9 = z4_17.toInt.toNat by omega]; first | (exact ⟨yl_9.2.1.trans (by rw [show ((z4_17.toInt.toNat : Nat) : Int) = z4_17.toInt by omega]), fun _ h6 => (yl_9.2.2 (by rw [show ((z4_17.toInt.toNat : Nat) : Int) = z4_17.toInt by omega] at h6; exact h6)).trans (by rw [show ((z4_17.toInt.toNat : Nat) : Int) = z4_17.toInt by omega])⟩) | (exact LBK_0 (z := z4_17.toInt) (by omega) (by omega) (by rw [pf_51, yi_9, pk_us]; first | (rw [if_pos (by omega)]; rfl) | (rw [if_neg (by omega)]; rfl))) | (exact LBK_n (by omega) (by omega) (by rw [pf_51, yi_9, pk_us]; rfl))); (exact LBK_fr (j2_17 l9 (by omega) h8) (by first | (rw [(yl_9.1 _ (by omega)).1, pf_51, yi_9, pk_un (by omega)]) | (rw [pf_51, yi_9, pk_un (by omega)])) (by first | (rw [(yl_9.1 _ (by omega)).2, pg_51 19 (by decide)]) | (rw [pg_51 19 (by decide)])))) (by omega) (by omega) (by omega) (by omega) (by omega) (by omega) (by omega)
                  · skip
                    refine Exists.intro _ (And.intro md_o ?_)
                    refine And.intro (fun c37 => ?_) (fun c37 => ?_)
                    · skip
                      refine hC.1 5 73 _ _ rfl _ _ _ _ _ ?_
                      have km1 : (-1 : Int32).toInt = -1 := rfl
                      intro m38 em_73
                      try have e38 : m38.toInt = (z4_17).toInt + (-1) := by rw [em_73]; exact pm_addc _ _ (-1) rfl (by omega) (by omega)
                      exact ih8 m38 v6 f34 hv6 hf34 hw34 hr34_0 hr34_1 (by omega) (by intro k9 l9 h9 h8; exact LBK_fr (j1_17 k9 l9 h9 h8) (by first | (rw [(yl_9.1 _ (by omega)).1, pf_51, yi_9, pk_un (by omega)]) | (rw [pf_51, yi_9, pk_un (by omega)])) (by first | (rw [(yl_9.1 _ (by omega)).2, pg_51 19 (by decide)]) | (rw [pg_51 19 (by decide)]))) (by intro l9 h9 h8; by_cases h7 : (l9 : Int) = z4_17.toInt; (rw [show l9 = z4_17.toInt.toNat by omega]; first | (exact ⟨yl_9.2.1.trans (by rw [show ((z4_17.toInt.toNat : Nat) : Int) = z4_17.toInt by omega]), fun _ h6 => (yl_9.2.2 (by rw [show ((z4_17.toInt.toNat : Nat) : Int) = z4_17.toInt by omega] at h6; exact h6)).trans (by rw [show ((z4_17.toInt.toNat : Nat) : Int) = z4_17.toInt by omega])⟩) | (exact LBK_0 (z := z4_17.toInt) (by omega) (by omega) (by rw [pf_51, yi_9, pk_us]; first | (rw [if_pos (by omega)]; rfl) | (rw [if_neg (by omega)]; rfl))) | (exact LBK_n (by omega) (by omega) (by rw [pf_51, yi_9, pk_us]; rfl))); (exact LBK_fr (j2_17 l9 (by omega) h8) (by first | (rw [(yl_9.1 _ (by omega)).1, pf_51, yi_9, pk_un (by omega)]) | (rw [pf_51, yi_9, pk_un (by omega)])) (by first | (rw [(yl_9.1 _ (by omega)).2, pg_51 19 (by decide)]) | (rw [pg_51 19 (by decide)])))) (by omega) (by omega) (by omega) (by omega) (by omega) (by omega) (by omega)
                    · skip
                      have l0_9 := hr34_0
                      have lv_9 : (v6 0).toInt = (v 0).toInt := (by omega)
                      refine And.intro (Exists.intro _ md_o) (Exists.intro _ (Exists.intro _ (Exists.intro _ (Exists.intro _ (And.intro (G_X11_layPart D v6 f34 hv6 hf34 z3_6 z4_17 (161 : Int32) (by omega) (by omega) (by omega) (by intro r9 h9; rw [pf_51, yi_9, pk_un (by omega), l0_9, lv_9]; exact (j1_17 (z3_6.toInt.toNat - 1) r9 (by omega) (by omega)).1) (by rw [pf_51, yi_9, pk_us]; first | rfl | omega)) (And.intro rfl (fun r9 A9 h9 => ?_)))))))
                      obtain ⟨v40, f40, rfl, rfl, hv40, hf40, hx40, hg40_0, hg40_1, by39⟩ := h9
                      have hw40 : f40 2 = f 2 := hx40.trans hw34
                      have pr_70_0 := hg40_0
                      have pr_70_1 := hg40_1
                      have hr40_0 : f40 0 = f 0 := hg40_0.trans hr34_0
                      have hr40_1 : f40 1 = f 1 := hg40_1.trans hr34_1
                      have yl_9 := by39.2
                      rw [l0_9, lv_9] at yl_9
                      refine hC.1 5 73 _ _ rfl _ _ _ _ _ ?_
                      have km1 : (-1 : Int32).toInt = -1 := rfl
                      intro m42 em_73
                      try have e42 : m42.toInt = (z4_17).toInt + (-1) := by rw [em_73]; exact pm_addc _ _ (-1) rfl (by omega) (by omega)
                      exact ih8 m42 v40 f40 hv40 hf40 hw40 hr40_0 hr40_1 (by omega) (by intro k9 l9 h9 h8; exact LBK_fr (j1_17 k9 l9 h9 h8) (by first | (rw [(yl_9.1 _ (by omega)).1, pf_51, yi_9, pk_un (by omega)]) | (rw [pf_51, yi_9, pk_un (by omega)])) (by first | (rw [(yl_9.1 _ (by omega)).2, pg_51 19 (by decide)]) | (rw [pg_51 19 (by decide)]))) (by intro l9 h9 h8; by_cases h7 : (l9 : Int) = z4_17.toInt; (rw [show l9 = z4_17.toInt.toNat by omega]; first | (exact ⟨yl_9.2.1.trans (by rw [show ((z4_17.toInt.toNat : Nat) : Int) = z4_17.toInt by omega]), fun _ h6 => (yl_9.2.2 (by rw [show ((z4_17.toInt.toNat : Nat) : Int) = z4_17.toInt by omega] at h6; exact h6)).trans (by rw [show ((z4_17.toInt.toNat : Nat) : Int) = z4_17.toInt by omega])⟩) | (exact LBK_0 (z := z4_17.toInt) (by omega) (by omega) (by rw [pf_51, yi_9, pk_us]; first | (rw [if_pos (by omega)]; rfl) | (rw [if_neg (by omega)]; rfl))) | (exact LBK_n (by omega) (by omega) (by rw [pf_51, yi_9, pk_us]; rfl))); (exact LBK_fr (j2_17 l9 (by omega) h8) (by first | (rw [(yl_9.1 _ (by omega)).1, pf_51, yi_9, pk_un (by omega)]) | (rw [pf_51, yi_9, pk_un (by omega)])) (by first | (rw [(yl_9.1 _ (by omega)).2, pg_51 19 (by decide)]) | (rw [pg_51 19 (by decide)])))) (by omega) (by omega) (by omega) (by omega) (by omega) (by omega) (by omega)
        exact lp7 ((v1 0).toInt + 1).toNat.succ (v1 0) v1 f1 hv1 hf1 hw1 hr1_0 hr1_1 (by omega) (by exact j1_6) (by intro l9 h9 h8; omega) (by omega) (by omega) (by omega) (by omega) (by omega) (by omega) (by omega)
  exact lp2 (200 - (0 : Int32).toInt).toNat.succ (0 : Int32) v f hv hf rfl rfl rfl (by omega) (by intro k9 l9 h9; omega) (by omega) (by omega) (by omega) (by omega) (by omega) (by omega) (by omega)

end
end
section
section
variable {l : Launch} {g : pm_G} {A0 : pm_H} {h : Nat} {q : Nat → Nat}
set_option maxRecDepth 100000 in
set_option maxHeartbeats 2000000 in
theorem G_X11_best (D : md_D h q) (v : Nat → Int32) (f : Nat → Nat → Int32) (hv : md_V v) (hf : md_F f) (x1 : Int32) (x2 : Int32)  : pm_Mt l g 272 3 0 0 [.ref h, .int x1, .int x2] (md A0 g h q v f) (md_Qw A0 g h q f (fun r v2 f2 => f2 0 = f 0 ∧ f2 1 = f 1 ∧ ((v2 0).toInt = (v 0).toInt ∧ (v2 1).toInt = (v 1).toInt ∧ (v2 2).toInt = (v 2).toInt ∧ (v2 3).toInt = (v 3).toInt ∧ (v2 4).toInt = (v 4).toInt ∧ (v2 6).toInt = (v 6).toInt) ∧ (BST (f 0) (v 0).toInt x1.toInt x2.toInt r.toInt))) := by
  refine mt_X11_best rfl (fun J hC => ?_)
  have hv9 := hv
  unfold md_V at hv9
  have rg_x1 := pm_rng x1
  have rg_x2 := pm_rng x2
  refine hC.1 0 0 _ _ rfl _ _ _ _ _ ?_
  have k1 : (1 : Int32).toInt = 1 := rfl
  have k8 : (8 : Int32).toInt = 8 := rfl
  refine Exists.intro _ (Exists.intro _ (Exists.intro _ (Exists.intro _ (And.intro (c_X11_isIn (md A0 g h q v f) x1 (1 : Int32) (8 : Int32) ) (And.intro rfl (fun r9 A9 h9 => ?_))))))
  rcases h9 with ⟨y1, rfl, rfl, ⟨rfl, by1⟩ | ⟨rfl, by1⟩⟩
  · skip
    refine And.intro (fun c9 => absurd c9 (by decide)) (fun _ => ?_)
    refine Exists.intro _ (And.intro md_o ?_)
    refine And.intro (fun c2 => ?_) (fun c2 => ?_)
    · skip
      refine hC.1 1 29 _ _ rfl _ _ _ _ _ ?_
      have km1 : (-1 : Int32).toInt = -1 := rfl
      exact ⟨rfl, fun e9 => absurd e9 (by decide), rfl, (-1 : Int32), v, f, rfl, rfl, hv, hf, rfl, rfl, rfl, by first | omega | (dsimp only; omega) | trivial, by exact Or.inl ⟨by omega, rfl⟩⟩
    · skip
      have km1 : (-1 : Int32).toInt = -1 := rfl
      intro m3 em_22
      try have e3 : m3.toInt = (x1).toInt - (1) := by rw [em_22]; exact pm_subc _ _ (1) rfl (by omega) (by omega)
      refine Exists.intro _ (Exists.intro _ (Exists.intro _ (Exists.intro _ (And.intro (c_X11_isIn (md A0 g h q v f) x2 (-1 : Int32) m3 ) (And.intro rfl (fun r9 A9 h9 => ?_))))))
      rcases h9 with ⟨y4, rfl, rfl, ⟨rfl, by4⟩ | ⟨rfl, by4⟩⟩
      · skip
        refine And.intro (fun _ => ?_) (fun c9 => absurd c9 (by decide))
        refine hC.1 2 31 _ _ rfl _ _ _ _ _ ?_
        refine And.intro (Exists.intro _ md_o) (Exists.intro _ (Exists.intro _ (Exists.intro _ (Exists.intro _ (And.intro (G_X11_layBest D v f hv hf x1 (by omega)) (And.intro rfl (fun r9 A9 h9 => ?_)))))))
        obtain ⟨v6, f6, rfl, rfl, hv6, hf6, hx6, hg6_0, hg6_1, by5⟩ := h9
        have hw6 : f6 2 = f 2 := hx6.trans rfl
        have hr6_0 : f6 0 = f 0 := hg6_0.trans rfl
        have hr6_1 : f6 1 = f 1 := hg6_1.trans rfl
        have yl_9 := by5.2
        have yn_9 : (1 : Int) ≤ x1.toInt ∧ x1.toInt ≤ 8 ∧ x1.toInt ≤ (v 0).toInt := (by omega)
        have k161 : (161 : Int32).toInt = 161 := rfl
        refine And.intro (fun c8 => ?_) (fun c8 => ?_)
        · skip
          have dc8 := pm_neI c8
          refine hC.1 3 54 _ _ rfl _ _ _ _ _ ?_
          have k0 : (0 : Int32).toInt = 0 := rfl
          have lp9 : ∀ (n : Nat) (z4_60 : Int32) (z5_60 : Int32), (0 ≤ z4_60.toInt ∧ z4_60.toInt ≤ 160) → (0 ≤ z5_60.toInt ∧ z5_60.toInt ≤ x1.toInt ∧ x1.toInt - z5_60.toInt ≤ x2.toInt) → (z4_60.toInt = bst (KD (f 0) (v 0).toInt) (v 0).toInt x1.toInt.toNat (x1.toInt - z5_60.toInt).toNat) → z5_60.toInt < (n : Int) → J 60 [some (.ref h), some (.int x1), some (.int x2), some (.int (161 : Int32)), some (.int z4_60), some (.int z5_60)] [] (md A0 g h q v6 f6) 0 0 := by
            intro n
            induction n with
            | zero =>
              intro z4_60 z5_60 j0_60 j1_60 j2_60 j3_60
              omega
            | succ n ih10 =>
              intro z4_60 z5_60 j0_60 j1_60 j2_60 j3_60
              have yo_9 := bst_ok (K := (KD (f 0) (v 0).toInt)) (KD_b (f 0) (v 0).toInt) (n := (v 0).toInt) (m := x1.toInt.toNat) (by omega) (by omega) (x1.toInt - z5_60.toInt).toNat (by omega)
              have yp_9 := (yl_9 z5_60.toInt.toNat z4_60.toInt.toNat (by omega) (by omega)).2 (by omega)
              rw [show ((z4_60.toInt.toNat : Nat) : Int) = bst (KD (f 0) (v 0).toInt) (v 0).toInt x1.toInt.toNat (x1.toInt - z5_60.toInt).toNat by omega] at yp_9
              have yq_9 := yp_9 (by have h9 := yo_9.2; rw [show x1.toInt.toNat - (x1.toInt - z5_60.toInt).toNat = z5_60.toInt.toNat by omega] at h9; exact h9)
              have ys_9 : bst (KD (f 0) (v 0).toInt) (v 0).toInt x1.toInt.toNat ((x1.toInt - z5_60.toInt).toNat + 1) = BE (KD (f 0) (v 0).toInt) (v 0).toInt z5_60.toInt.toNat (bst (KD (f 0) (v 0).toInt) (v 0).toInt x1.toInt.toNat (x1.toInt - z5_60.toInt).toNat) + 1 := (by rw [bst, show x1.toInt.toNat - (x1.toInt - z5_60.toInt).toNat = z5_60.toInt.toNat by omega])
              refine hC.1 4 60 _ _ rfl _ _ _ _ _ ?_
              intro m11 em_64
              try have e11 : m11.toInt = (x1).toInt - (x2).toInt := by rw [em_64]; exact pm_sub _ _ (by omega) (by omega)
              refine And.intro (fun c12 => ?_) (fun c12 => ?_)
              · skip
                refine hC.1 5 90 _ _ rfl _ _ _ _ _ ?_
                refine Exists.intro _ (And.intro md_o ?_)
                intro m13 em_97
                try have e13 : m13.toInt = (x1).toInt - (x2).toInt := by rw [em_97]; exact pm_sub _ _ (by omega) (by omega)
                intro m14 em_98
                try have e14 : m14.toInt = (161) * (m13).toInt := by rw [em_98]; exact pm_mulk _ _ (161) rfl (by omega) (by omega)
                intro m15 em_101
                try have e15 : m15.toInt = (m14).toInt + (z4_60).toInt := by rw [em_101]; exact pm_add _ _ (by omega) (by omega)
                have yi_9 : (m15).toInt.toNat = 161 * z5_60.toInt.toNat + z4_60.toInt.toNat := (by omega)
                refine Exists.intro _ (Exists.intro _ (And.intro (Or.inl (md_a_ends0 D)) (And.intro (by omega) ?_)))
                have w16 : (0 : Int) ≤ (f6 19 (m15).toInt.toNat).toInt ∧ (f6 19 (m15).toInt.toNat).toInt ≤ (159 : Int) := hf6 19 _
                exact ⟨rfl, fun e9 => absurd e9 (by decide), rfl, (f6 19 (m15).toInt.toNat), v6, f6, rfl, rfl, hv6, hf6, hw6, hr6_0, hr6_1, by first | omega | (dsimp only; omega) | trivial, by refine Or.inr ⟨by omega, Or.inr ⟨by omega, ?_⟩⟩; rw [yi_9, yq_9, show x2.toInt.toNat = (x1.toInt - z5_60.toInt).toNat by omega, ys_9]; omega⟩
              · skip
                refine Exists.intro _ (And.intro md_o ?_)
                intro m17 em_75
                try have e17 : m17.toInt = (161) * (z5_60).toInt := by rw [em_75]; exact pm_mulk _ _ (161) rfl (by omega) (by omega)
                intro m18 em_78
                try have e18 : m18.toInt = (m17).toInt + (z4_60).toInt := by rw [em_78]; exact pm_add _ _ (by omega) (by omega)
                have yi_9 : (m18).toInt.toNat = 161 * z5_60.toInt.toNat + z4_60.toInt.toNat := (by omega)
                refine Exists.intro _ (Exists.intro _ (And.intro (Or.inl (md_a_ends0 D)) (And.intro (by omega) ?_)))
                have w19 : (0 : Int) ≤ (f6 19 (m18).toInt.toNat).toInt ∧ (f6 19 (m18).toInt.toNat).toInt ≤ (159 : Int) := hf6 19 _
                have yv_9 : ((f6 19 (m18).toInt.toNat)).toInt = BE (KD (f 0) (v 0).toInt) (v 0).toInt z5_60.toInt.toNat (bst (KD (f 0) (v 0).toInt) (v 0).toInt x1.toInt.toNat (x1.toInt - z5_60.toInt).toNat) := (by rw [yi_9]; exact yq_9)
                intro m20 em_81
                try have e20 : m20.toInt = ((f6 19 (m18).toInt.toNat)).toInt + (1) := by rw [em_81]; exact pm_addc _ _ (1) rfl (by omega) (by omega)
                intro m21 em_84
                try have e21 : m21.toInt = (z5_60).toInt + (-1) := by rw [em_84]; exact pm_addc _ _ (-1) rfl (by omega) (by omega)
                exact ih10 m20 m21 (by omega) (by omega) (by rw [show (x1.toInt - m21.toInt).toNat = (x1.toInt - z5_60.toInt).toNat + 1 by omega, ys_9]; omega) (by omega)
          exact lp9 (x1.toInt).toNat.succ (0 : Int32) x1 (by omega) (by omega) (by rw [show (x1.toInt - x1.toInt).toNat = 0 by omega]; rfl) (by omega)
        · skip
          have dc8 : (x2).toInt = ((-1 : Int32) : Int32).toInt := congrArg Int32.toInt c8
          refine Exists.intro _ (And.intro md_o ?_)
          intro m22 em_51
          try have e22 : m22.toInt = (161) * (x1).toInt := by rw [em_51]; exact pm_mulk _ _ (161) rfl (by omega) (by omega)
          have yi_9 : (m22).toInt.toNat = 161 * x1.toInt.toNat + 0 := (by omega)
          refine Exists.intro _ (Exists.intro _ (And.intro (Or.inl (md_a_worth D)) (And.intro (by omega) ?_)))
          exact ⟨rfl, fun e9 => absurd e9 (by decide), rfl, (f6 18 (m22).toInt.toNat), v6, f6, rfl, rfl, hv6, hf6, hw6, hr6_0, hr6_1, by first | omega | (dsimp only; omega) | trivial, by refine Or.inr ⟨by omega, Or.inl ⟨by omega, ?_⟩⟩; have h9 := (yl_9 x1.toInt.toNat 0 (by omega) (by omega)).1; have h8 := BW_ok (KD_b (f 0) (v 0).toInt) (n := (v 0).toInt) (x1.toInt.toNat - 1) 0 (by omega); rw [show x1.toInt.toNat - 1 + 1 = x1.toInt.toNat by omega] at h8; rw [yi_9, h9]; exact wv_y (show ¬ BW (KD (f 0) (v 0).toInt) (v 0).toInt x1.toInt.toNat 0 = -1 by omega)⟩
      · skip
        have k0 : (0 : Int32).toInt = 0 := rfl
        refine And.intro (fun c9 => absurd c9 (by decide)) (fun _ => ?_)
        refine hC.1 1 29 _ _ rfl _ _ _ _ _ ?_
        exact ⟨rfl, fun e9 => absurd e9 (by decide), rfl, (-1 : Int32), v, f, rfl, rfl, hv, hf, rfl, rfl, rfl, by first | omega | (dsimp only; omega) | trivial, by exact Or.inl ⟨by omega, rfl⟩⟩
  · skip
    have k0 : (0 : Int32).toInt = 0 := rfl
    refine And.intro (fun _ => ?_) (fun c9 => absurd c9 (by decide))
    refine hC.1 1 29 _ _ rfl _ _ _ _ _ ?_
    have km1 : (-1 : Int32).toInt = -1 := rfl
    exact ⟨rfl, fun e9 => absurd e9 (by decide), rfl, (-1 : Int32), v, f, rfl, rfl, hv, hf, rfl, rfl, rfl, by first | omega | (dsimp only; omega) | trivial, by exact Or.inl ⟨by omega, rfl⟩⟩

end
end
section
/-! the law's world with the two rows held together -/
noncomputable def LX (g : pm_G) (xo h E : Nat) (A : pm_H) : Prop := ∃ (A00 : pm_H) (K nn dn : Nat) (q : Nat → Nat) (w : Nat → Int32) (e : Nat → Nat → Int32) (v : Nat → Int32) (f : Nat → Nat → Int32) (mq : Nat → Nat) (mv : Nat → Int32) (mf : Nat → Nat → Int32) (M : List pl_P), A = cw (md A00 g h mq mv mf) g K nn dn q w e v f ∧ q 0 = xo ∧ cw_I K nn dn q w e ∧ cw_S v f ∧ md_D h mq ∧ md_V mv ∧ md_F mf ∧ (∀ i, i < 40 + 4 * K → q i ≠ h ∧ ∀ j, j < 20 → q i ≠ mq j) ∧ (∀ j, j < 24 → e 15 j = mf 2 j) ∧ (w 0).toInt ≤ E ∧ (mv 4).toInt ≤ E ∧ rp (w nn) (e (nn + 1)) (e (nn + 2)) M ∧ rp (mv 0) (mf 0) (mf 1) M ∧ w 1 = mv 3 ∧ (w 0).toInt = (mv 4).toInt ∧ (nn : Int) = 40 + 4 * ((w 0).toInt % 41) ∧ nm0 M ∧ bd (w nn) (e (nn + 1)) (e (nn + 3))
theorem LX_mono {g : pm_G} {xo h E E' : Nat} {A : pm_H} (hE : E ≤ E') (hA : LX g xo h E A) : LX g xo h E' A := by
  obtain ⟨A00, K, nn, dn, q, w, e, v, f, mq, mv, mf, M, rfl, rfl, hI, hS, D, hv, hf, dj, hw, hE1, hE2, r⟩ := hA
  exact ⟨A00, K, nn, dn, q, w, e, v, f, mq, mv, mf, M, rfl, rfl, hI, hS, D, hv, hf, dj, hw, by omega, by omega, r⟩
theorem lx_n {n n2 : Int32} {c m c2 m2 : Nat → Int32} {M : List pl_P} (h1 : rp n c m M) (h2 : rp n2 c2 m2 M) : n.toInt = n2.toInt := h1.1.trans h2.1.symm
theorem lx_c {n n2 : Int32} {c m c2 m2 : Nat → Int32} {M : List pl_P} (h1 : rp n c m M) (h2 : rp n2 c2 m2 M) : ∀ j : Nat, (j : Int) < n.toInt → c j = c2 j := fun j hj => by
  have hl := h1.1
  rw [(h1.2 j (by omega)).1, (h2.2 j (by omega)).1]
noncomputable def wq (x1 x2 : Int32) (c : Nat → Int32) : Nat → Int32 := if 0 ≤ x1.toInt ∧ x1.toInt ≤ 23 ∧ 0 ≤ x2.toInt ∧ x2.toInt ≤ 999 then upd c x1.toInt.toNat x2 else c
theorem lx_wc {A0 : pm_H} {g : pm_G} {K nn dn : Nat} {q : Nat → Nat} {w : Nat → Int32} {e : Nat → Nat → Int32} {v : Nat → Int32} {f : Nat → Nat → Int32} (hI : cw_I K nn dn q w e) {x1 x2 : Int32} {r : Option Value} {A9 : pm_H} (h : ((0 ≤ x1.toInt ∧ x1.toInt ≤ 23 ∧ 0 ≤ x2.toInt ∧ x2.toInt ≤ 999) ∧ r = some (.int (e 15 x1.toInt.toNat)) ∧ A9 = cw A0 g K nn dn q w (va_up e 15 (upd (e 15) x1.toInt.toNat x2)) v f) ∨ (¬ (0 ≤ x1.toInt ∧ x1.toInt ≤ 23 ∧ 0 ≤ x2.toInt ∧ x2.toInt ≤ 999) ∧ r = some (.int (-1)) ∧ A9 = cw A0 g K nn dn q w e v f)) : ∃ (e2 : Nat → Nat → Int32) (y : Int32), r = some (.int y) ∧ A9 = cw A0 g K nn dn q w e2 v f ∧ cw_I K nn dn q w e2 ∧ (∀ i, 40 ≤ i → e2 i = e i) ∧ e2 15 = wq x1 x2 (e 15) := by
  rcases h with ⟨hr, h1, h2⟩ | ⟨hr, h1, h2⟩
  · exact ⟨_, _, h1, h2, ⟨hI.1, hI.2.1, hI.2.2.1, cw_E_up hI.2.2.2 _ _ (fun h9 _ => absurd h9 (by decide)) (fun h9 _ => absurd h9 (by decide))⟩, fun i hi => va_un (by omega), by rw [va_us, wq, if_pos hr]⟩
  · exact ⟨e, _, h1, h2, hI, fun _ _ => rfl, by rw [wq, if_neg hr]⟩
theorem lx_wm {B : pm_H} {g : pm_G} {h : Nat} {mq : Nat → Nat} {mv : Nat → Int32} {mf : Nat → Nat → Int32} (_ : md_D h mq) (hf : md_F mf) {x1 x2 : Int32} {r : Option Value} {A9 : pm_H} (h9 : ((0 ≤ x1.toInt ∧ x1.toInt ≤ 23 ∧ 0 ≤ x2.toInt ∧ x2.toInt ≤ 999) ∧ r = some (.int (mf 2 x1.toInt.toNat)) ∧ A9 = md B g h mq mv (va_up mf 2 (upd (mf 2) x1.toInt.toNat x2))) ∨ (¬ (0 ≤ x1.toInt ∧ x1.toInt ≤ 23 ∧ 0 ≤ x2.toInt ∧ x2.toInt ≤ 999) ∧ r = some (.int (-1)) ∧ A9 = md B g h mq mv mf)) : ∃ (mf2 : Nat → Nat → Int32) (y : Int32), r = some (.int y) ∧ A9 = md B g h mq mv mf2 ∧ md_F mf2 ∧ (mf2 0 = mf 0 ∧ mf2 1 = mf 1) ∧ mf2 2 = wq x1 x2 (mf 2) := by
  rcases h9 with ⟨hr, h1, h2⟩ | ⟨hr, h1, h2⟩
  · exact ⟨_, _, h1, h2, md_F_st hf 2 _ _ (md_rng _ _ (by decide)), ⟨va_un (by decide), va_un (by decide)⟩, by rw [va_us, wq, if_pos hr]⟩
  · exact ⟨mf, _, h1, h2, hf, ⟨rfl, rfl⟩, by rw [wq, if_neg hr]⟩
theorem lx_ww {e e2 mf mf2 : Nat → Nat → Int32} {x1 x2 : Int32} (hw : ∀ j, j < 24 → e 15 j = mf 2 j) (hc : e2 15 = wq x1 x2 (e 15)) (hm : mf2 2 = wq x1 x2 (mf 2)) : ∀ j, j < 24 → e2 15 j = mf2 2 j := fun j hj => by
  rw [hc, hm]
  unfold wq
  split
  · by_cases e1 : j = x1.toInt.toNat
    · rw [e1, pk_us, pk_us]
    · rw [pk_un e1, pk_un e1]; exact hw j hj
  · exact hw j hj
end
section
section
variable {l : Launch} {g : pm_G} {b L : Nat} {xs : Nat → Int32} {J : pm_J} {xo h : Nat}
set_option maxRecDepth 100000 in
set_option maxHeartbeats 2000000 in
theorem lx_b2 (hC : pm_Cl l g (lw_ro b L xs) 7 600000 7302250 lw_Rt bk_L_law J) {i : Int32} (hi : 0 ≤ i.toInt ∧ i.toInt + 6 ≤ L) (hL : L ≤ 3072) {E : Nat} (hE : E < 1000) {A : pm_H} {c s : Nat} (hA : LX g xo h E A) (hc : c + 4 ≤ 600000) (hs0 : s + 485 ≤ 7302250) (cont : ∀ (A' : pm_H) (c' s' : Nat), LX g xo h (E + 1) A' → c' ≤ c + 4 → s' ≤ s + 485 → J 2563 [some (.ref b), some (.ref xo), some (.ref h), some (.int i)] [] A' c' s') : J 308 [some (.ref b), some (.ref xo), some (.ref h), some (.int i)] [] A c s := by
  obtain ⟨A00, K, nn, dn, q, w, e, v, f, mq, mv, mf, M, rfl, rfl, hI, hS, D, hv, hf, dj, hw, hE1, hE2, hR1, hR2, hg, he0, hN, hM, hB⟩ := hA
  have hu9 := hI.2.1
  unfold cw_W at hu9
  have hro : lw_ro b L xs b = some (L, xs) := if_pos rfl
  refine hC.1 2 308 _ _ rfl _ _ _ _ _ ?_
  refine pq_aload_n1 (pq_aload_n0 (pq_iload_n3 (pq_iconst (pq_iadd ?_))))
  intro m1 em1
  have e1 : m1.toInt = i.toInt + 1 := lx_ad1 hi hL em1
  refine pq_iaload ?_
  refine Exists.intro _ (Exists.intro _ (And.intro (Or.inr hro) (And.intro (lx_bn1 hi e1) ?_)))
  obtain ⟨a1, ha1⟩ : ∃ z9, z9 = xs m1.toInt.toNat := ⟨_, rfl⟩
  have m_a1 := em1
  rw [← ha1]
  refine pq_aload_n0 (pq_iload_n3 (pq_iconst (pq_iadd ?_)))
  intro m2 em2
  have e2 : m2.toInt = i.toInt + 2 := lx_ad2 hi hL em2
  refine pq_iaload ?_
  refine Exists.intro _ (Exists.intro _ (And.intro (Or.inr hro) (And.intro (lx_bn2 hi e2) ?_)))
  obtain ⟨a2, ha2⟩ : ∃ z9, z9 = xs m2.toInt.toNat := ⟨_, rfl⟩
  have m_a2 := em2
  rw [← ha2]
  refine pq_iv2_10 ?_
  refine And.intro (Exists.intro _ (cw_o0 hI.1)) (Exists.intro _ (Exists.intro _ (Exists.intro _ (Exists.intro _ (And.intro (H_X10_put hI hS a1 a2 (by omega)) (And.intro (lw_bnd rfl (lx_c1 hc (by decide)) (lx_c1 hs0 (by decide)) rfl) (fun r9 A9 h9 => ?_)))))))
  obtain ⟨K319, nn319, dn319, q319, w319, e319, v319, f319, rfl, hI319, hS319, hX319, hy319, y319, rfl, by319⟩ := h9
  have dj319 := lw_dj D dj hX319
  have fc9 := by319.2 M hR1 hN
  refine pq_id1 (pq_pop (pq_aload_n2 (pq_aload_n0 (pq_iload_n3 (pq_iconst (pq_iadd ?_))))))
  intro m3 em3
  have e3 : m3.toInt = i.toInt + 1 := lx_ad1 hi hL em3
  refine pq_iaload ?_
  refine Exists.intro _ (Exists.intro _ (And.intro (Or.inr hro) (And.intro (lx_bn1 hi e3) ?_)))
  have ha1_3 : a1 = xs m3.toInt.toNat := by rw [ha1, em3, ← m_a1]
  rw [← ha1_3]
  refine pq_aload_n0 (pq_iload_n3 (pq_iconst (pq_iadd ?_)))
  intro m4 em4
  have e4 : m4.toInt = i.toInt + 2 := lx_ad2 hi hL em4
  refine pq_iaload ?_
  refine Exists.intro _ (Exists.intro _ (And.intro (Or.inr hro) (And.intro (lx_bn2 hi e4) ?_)))
  have ha2_4 : a2 = xs m4.toInt.toNat := by rw [ha2, em4, ← m_a2]
  rw [← ha2_4]
  refine pq_iv2_11 ?_
  rw [cw_md D dj319]
  refine And.intro (Exists.intro _ (md_o)) (Exists.intro _ (Exists.intro _ (Exists.intro _ (Exists.intro _ (And.intro (F_X11_put D mv mf hv hf a1 a2 (by omega)) (And.intro (lw_bnd rfl (lx_c2 hc (by decide)) (lx_c2 hs0 (by decide)) rfl) (fun r9 A9 h9 => ?_)))))))
  obtain ⟨y334, mv334, mf334, rfl, rfl, hv334, hf334, hx334, by334⟩ := h9
  have fm9 := by334.2 M hR2
  refine pq_id1 (pq_pop (pq_goto ?_))
  exact cont _ _ _ ⟨A00, K319, nn319, dn319, q319, w319, e319, v319, f319, mq, mv334, mf334, _, (cw_md D dj319).symm, (hX319.2.1 0 (by omega)), hI319, hS319, D, hv334, hf334, dj319, fun j hj => by rw [hy319, hx334]; exact hw j hj, by omega, by omega, fc9.1, fm9.1, (pm_eqI (by rw [fc9.2.2.1, fm9.2.2, hg])), (by rw [fc9.2.1, fm9.2.1, he0]), fc9.2.2.2.1, (nm_paint hM), (fc9.2.2.2.2 hB)⟩ (by omega) (by omega)

set_option maxRecDepth 100000 in
set_option maxHeartbeats 2000000 in
theorem lx_b3 (hC : pm_Cl l g (lw_ro b L xs) 7 600000 7302250 lw_Rt bk_L_law J) {i : Int32} (hi : 0 ≤ i.toInt ∧ i.toInt + 6 ≤ L) (hL : L ≤ 3072) {E : Nat} (hE : E < 1000) {A : pm_H} {c s : Nat} (hA : LX g xo h E A) (hc : c + 4 ≤ 600000) (hs0 : s + 485 ≤ 7302250) (cont : ∀ (A' : pm_H) (c' s' : Nat), LX g xo h (E + 1) A' → c' ≤ c + 4 → s' ≤ s + 485 → J 2563 [some (.ref b), some (.ref xo), some (.ref h), some (.int i)] [] A' c' s') : J 341 [some (.ref b), some (.ref xo), some (.ref h), some (.int i)] [] A c s := by
  obtain ⟨A00, K, nn, dn, q, w, e, v, f, mq, mv, mf, M, rfl, rfl, hI, hS, D, hv, hf, dj, hw, hE1, hE2, hR1, hR2, hg, he0, hN, hM, hB⟩ := hA
  have hu9 := hI.2.1
  unfold cw_W at hu9
  have hro : lw_ro b L xs b = some (L, xs) := if_pos rfl
  refine hC.1 3 341 _ _ rfl _ _ _ _ _ ?_
  refine pq_aload_n1 (pq_aload_n0 (pq_iload_n3 (pq_iconst (pq_iadd ?_))))
  intro m1 em1
  have e1 : m1.toInt = i.toInt + 1 := lx_ad1 hi hL em1
  refine pq_iaload ?_
  refine Exists.intro _ (Exists.intro _ (And.intro (Or.inr hro) (And.intro (lx_bn1 hi e1) ?_)))
  obtain ⟨a1, ha1⟩ : ∃ z9, z9 = xs m1.toInt.toNat := ⟨_, rfl⟩
  have m_a1 := em1
  rw [← ha1]
  refine pq_aload_n0 (pq_iload_n3 (pq_iconst (pq_iadd ?_)))
  intro m2 em2
  have e2 : m2.toInt = i.toInt + 2 := lx_ad2 hi hL em2
  refine pq_iaload ?_
  refine Exists.intro _ (Exists.intro _ (And.intro (Or.inr hro) (And.intro (lx_bn2 hi e2) ?_)))
  obtain ⟨a2, ha2⟩ : ∃ z9, z9 = xs m2.toInt.toNat := ⟨_, rfl⟩
  have m_a2 := em2
  rw [← ha2]
  refine pq_iv2_10 ?_
  refine And.intro (Exists.intro _ (cw_o0 hI.1)) (Exists.intro _ (Exists.intro _ (Exists.intro _ (Exists.intro _ (And.intro (H_X10_insert hI hS a1 a2 (by omega)) (And.intro (lw_bnd rfl (lx_c1 hc (by decide)) (lx_c1 hs0 (by decide)) rfl) (fun r9 A9 h9 => ?_)))))))
  obtain ⟨K352, nn352, dn352, q352, w352, e352, v352, f352, rfl, hI352, hS352, hX352, hy352, y352, rfl, by352⟩ := h9
  have dj352 := lw_dj D dj hX352
  have fc9 := by352.2 M hR1 hN
  refine pq_id1 (pq_pop (pq_aload_n2 (pq_aload_n0 (pq_iload_n3 (pq_iconst (pq_iadd ?_))))))
  intro m3 em3
  have e3 : m3.toInt = i.toInt + 1 := lx_ad1 hi hL em3
  refine pq_iaload ?_
  refine Exists.intro _ (Exists.intro _ (And.intro (Or.inr hro) (And.intro (lx_bn1 hi e3) ?_)))
  have ha1_3 : a1 = xs m3.toInt.toNat := by rw [ha1, em3, ← m_a1]
  rw [← ha1_3]
  refine pq_aload_n0 (pq_iload_n3 (pq_iconst (pq_iadd ?_)))
  intro m4 em4
  have e4 : m4.toInt = i.toInt + 2 := lx_ad2 hi hL em4
  refine pq_iaload ?_
  refine Exists.intro _ (Exists.intro _ (And.intro (Or.inr hro) (And.intro (lx_bn2 hi e4) ?_)))
  have ha2_4 : a2 = xs m4.toInt.toNat := by rw [ha2, em4, ← m_a2]
  rw [← ha2_4]
  refine pq_iv2_11 ?_
  rw [cw_md D dj352]
  refine And.intro (Exists.intro _ (md_o)) (Exists.intro _ (Exists.intro _ (Exists.intro _ (Exists.intro _ (And.intro (F_X11_insert D mv mf hv hf a1 a2 (by omega)) (And.intro (lw_bnd rfl (lx_c2 hc (by decide)) (lx_c2 hs0 (by decide)) rfl) (fun r9 A9 h9 => ?_)))))))
  obtain ⟨y367, mv367, mf367, rfl, rfl, hv367, hf367, hx367, by367⟩ := h9
  have fm9 := by367.2 M hR2
  rw [← hg] at fm9
  refine pq_id1 (pq_pop (pq_goto ?_))
  exact cont _ _ _ ⟨A00, K352, nn352, dn352, q352, w352, e352, v352, f352, mq, mv367, mf367, _, (cw_md D dj352).symm, (hX352.2.1 0 (by omega)), hI352, hS352, D, hv367, hf367, dj352, fun j hj => by rw [hy352, hx367]; exact hw j hj, by omega, by omega, fc9.1, fm9.1, (pm_eqI (by rw [fc9.2.2.1, fm9.2.2, hg])), (by rw [fc9.2.1, fm9.2.1, he0]), fc9.2.2.2.1, (nm_insert hM (by omega)), (fc9.2.2.2.2 hB)⟩ (by omega) (by omega)

set_option maxRecDepth 100000 in
set_option maxHeartbeats 2000000 in
theorem lx_b4 (hC : pm_Cl l g (lw_ro b L xs) 7 600000 7302250 lw_Rt bk_L_law J) {i : Int32} (hi : 0 ≤ i.toInt ∧ i.toInt + 6 ≤ L) (hL : L ≤ 3072) {E : Nat} (hE : E < 1000) {A : pm_H} {c s : Nat} (hA : LX g xo h E A) (hc : c + 4 ≤ 600000) (hs0 : s + 485 ≤ 7302250) (cont : ∀ (A' : pm_H) (c' s' : Nat), LX g xo h (E + 1) A' → c' ≤ c + 4 → s' ≤ s + 485 → J 2563 [some (.ref b), some (.ref xo), some (.ref h), some (.int i)] [] A' c' s') : J 374 [some (.ref b), some (.ref xo), some (.ref h), some (.int i)] [] A c s := by
  obtain ⟨A00, K, nn, dn, q, w, e, v, f, mq, mv, mf, M, rfl, rfl, hI, hS, D, hv, hf, dj, hw, hE1, hE2, hR1, hR2, hg, he0, hN, hM, hB⟩ := hA
  have hu9 := hI.2.1
  unfold cw_W at hu9
  have hro : lw_ro b L xs b = some (L, xs) := if_pos rfl
  refine hC.1 4 374 _ _ rfl _ _ _ _ _ ?_
  refine pq_aload_n1 (pq_aload_n0 (pq_iload_n3 (pq_iconst (pq_iadd ?_))))
  intro m1 em1
  have e1 : m1.toInt = i.toInt + 1 := lx_ad1 hi hL em1
  refine pq_iaload ?_
  refine Exists.intro _ (Exists.intro _ (And.intro (Or.inr hro) (And.intro (lx_bn1 hi e1) ?_)))
  obtain ⟨a1, ha1⟩ : ∃ z9, z9 = xs m1.toInt.toNat := ⟨_, rfl⟩
  have m_a1 := em1
  rw [← ha1]
  refine pq_aload_n0 (pq_iload_n3 (pq_iconst (pq_iadd ?_)))
  intro m2 em2
  have e2 : m2.toInt = i.toInt + 2 := lx_ad2 hi hL em2
  refine pq_iaload ?_
  refine Exists.intro _ (Exists.intro _ (And.intro (Or.inr hro) (And.intro (lx_bn2 hi e2) ?_)))
  obtain ⟨a2, ha2⟩ : ∃ z9, z9 = xs m2.toInt.toNat := ⟨_, rfl⟩
  have m_a2 := em2
  rw [← ha2]
  refine pq_iv2_10 ?_
  refine And.intro (Exists.intro _ (cw_o0 hI.1)) (Exists.intro _ (Exists.intro _ (Exists.intro _ (Exists.intro _ (And.intro (H_X10_cut hI hS a1 a2 (by omega)) (And.intro (lw_bnd rfl (lx_c1 hc (by decide)) (lx_c1 hs0 (by decide)) rfl) (fun r9 A9 h9 => ?_)))))))
  obtain ⟨K385, nn385, dn385, q385, w385, e385, v385, f385, rfl, hI385, hS385, hX385, hy385, y385, rfl, by385⟩ := h9
  have dj385 := lw_dj D dj hX385
  have fc9 := by385.2 M hR1 hN
  refine pq_id1 (pq_pop (pq_aload_n2 (pq_aload_n0 (pq_iload_n3 (pq_iconst (pq_iadd ?_))))))
  intro m3 em3
  have e3 : m3.toInt = i.toInt + 1 := lx_ad1 hi hL em3
  refine pq_iaload ?_
  refine Exists.intro _ (Exists.intro _ (And.intro (Or.inr hro) (And.intro (lx_bn1 hi e3) ?_)))
  have ha1_3 : a1 = xs m3.toInt.toNat := by rw [ha1, em3, ← m_a1]
  rw [← ha1_3]
  refine pq_aload_n0 (pq_iload_n3 (pq_iconst (pq_iadd ?_)))
  intro m4 em4
  have e4 : m4.toInt = i.toInt + 2 := lx_ad2 hi hL em4
  refine pq_iaload ?_
  refine Exists.intro _ (Exists.intro _ (And.intro (Or.inr hro) (And.intro (lx_bn2 hi e4) ?_)))
  have ha2_4 : a2 = xs m4.toInt.toNat := by rw [ha2, em4, ← m_a2]
  rw [← ha2_4]
  refine pq_iv2_11 ?_
  rw [cw_md D dj385]
  refine And.intro (Exists.intro _ (md_o)) (Exists.intro _ (Exists.intro _ (Exists.intro _ (Exists.intro _ (And.intro (F_X11_cut D mv mf hv hf a1 a2 (by omega)) (And.intro (lw_bnd rfl (lx_c2 hc (by decide)) (lx_c2 hs0 (by decide)) rfl) (fun r9 A9 h9 => ?_)))))))
  obtain ⟨y400, mv400, mf400, rfl, rfl, hv400, hf400, hx400, by400⟩ := h9
  have fm9 := by400.2 M hR2
  refine pq_id1 (pq_pop (pq_goto ?_))
  exact cont _ _ _ ⟨A00, K385, nn385, dn385, q385, w385, e385, v385, f385, mq, mv400, mf400, _, (cw_md D dj385).symm, (hX385.2.1 0 (by omega)), hI385, hS385, D, hv400, hf400, dj385, fun j hj => by rw [hy385, hx400]; exact hw j hj, by omega, by omega, fc9.1, fm9.1, (pm_eqI (by rw [fc9.2.2.1, fm9.2.2, hg])), (by rw [fc9.2.1, fm9.2.1, he0]), fc9.2.2.2.1, (nm_cut hM), (fc9.2.2.2.2 hB)⟩ (by omega) (by omega)

set_option maxRecDepth 100000 in
set_option maxHeartbeats 2000000 in
theorem lx_b5 (hC : pm_Cl l g (lw_ro b L xs) 7 600000 7302250 lw_Rt bk_L_law J) {i : Int32} (hi : 0 ≤ i.toInt ∧ i.toInt + 6 ≤ L) (hL : L ≤ 3072) {E : Nat} (hE : E < 1000) {A : pm_H} {c s : Nat} (hA : LX g xo h E A) (hc : c + 4 ≤ 600000) (hs0 : s + 485 ≤ 7302250) (cont : ∀ (A' : pm_H) (c' s' : Nat), LX g xo h (E + 1) A' → c' ≤ c + 4 → s' ≤ s + 485 → J 2563 [some (.ref b), some (.ref xo), some (.ref h), some (.int i)] [] A' c' s') : J 407 [some (.ref b), some (.ref xo), some (.ref h), some (.int i)] [] A c s := by
  obtain ⟨A00, K, nn, dn, q, w, e, v, f, mq, mv, mf, M, rfl, rfl, hI, hS, D, hv, hf, dj, hw, hE1, hE2, hR1, hR2, hg, he0, hN, hM, hB⟩ := hA
  have hu9 := hI.2.1
  unfold cw_W at hu9
  have hro : lw_ro b L xs b = some (L, xs) := if_pos rfl
  refine hC.1 5 407 _ _ rfl _ _ _ _ _ ?_
  refine pq_aload_n1 (pq_aload_n0 (pq_iload_n3 (pq_iconst (pq_iadd ?_))))
  intro m1 em1
  have e1 : m1.toInt = i.toInt + 1 := lx_ad1 hi hL em1
  refine pq_iaload ?_
  refine Exists.intro _ (Exists.intro _ (And.intro (Or.inr hro) (And.intro (lx_bn1 hi e1) ?_)))
  obtain ⟨a1, ha1⟩ : ∃ z9, z9 = xs m1.toInt.toNat := ⟨_, rfl⟩
  have m_a1 := em1
  rw [← ha1]
  refine pq_aload_n0 (pq_iload_n3 (pq_iconst (pq_iadd ?_)))
  intro m2 em2
  have e2 : m2.toInt = i.toInt + 2 := lx_ad2 hi hL em2
  refine pq_iaload ?_
  refine Exists.intro _ (Exists.intro _ (And.intro (Or.inr hro) (And.intro (lx_bn2 hi e2) ?_)))
  obtain ⟨a2, ha2⟩ : ∃ z9, z9 = xs m2.toInt.toNat := ⟨_, rfl⟩
  have m_a2 := em2
  rw [← ha2]
  refine pq_aload_n0 (pq_iload_n3 (pq_iconst (pq_iadd ?_)))
  intro m3 em3
  have e3 : m3.toInt = i.toInt + 3 := lx_ad3 hi hL em3
  refine pq_iaload ?_
  refine Exists.intro _ (Exists.intro _ (And.intro (Or.inr hro) (And.intro (lx_bn3 hi e3) ?_)))
  obtain ⟨a3, ha3⟩ : ∃ z9, z9 = xs m3.toInt.toNat := ⟨_, rfl⟩
  have m_a3 := em3
  rw [← ha3]
  refine pq_iv3_10 ?_
  refine And.intro (Exists.intro _ (cw_o0 hI.1)) (Exists.intro _ (Exists.intro _ (Exists.intro _ (Exists.intro _ (And.intro (H_X10_paint hI hS a1 a2 a3 (by omega)) (And.intro (lw_bnd rfl (lx_c1 hc (by decide)) (lx_c1 hs0 (by decide)) rfl) (fun r9 A9 h9 => ?_)))))))
  obtain ⟨K423, nn423, dn423, q423, w423, e423, v423, f423, rfl, hI423, hS423, hX423, hy423, y423, rfl, by423⟩ := h9
  have dj423 := lw_dj D dj hX423
  have fc9 := by423.2 M hR1 hN
  refine pq_id1 (pq_pop (pq_aload_n2 (pq_aload_n0 (pq_iload_n3 (pq_iconst (pq_iadd ?_))))))
  intro m4 em4
  have e4 : m4.toInt = i.toInt + 1 := lx_ad1 hi hL em4
  refine pq_iaload ?_
  refine Exists.intro _ (Exists.intro _ (And.intro (Or.inr hro) (And.intro (lx_bn1 hi e4) ?_)))
  have ha1_4 : a1 = xs m4.toInt.toNat := by rw [ha1, em4, ← m_a1]
  rw [← ha1_4]
  refine pq_aload_n0 (pq_iload_n3 (pq_iconst (pq_iadd ?_)))
  intro m5 em5
  have e5 : m5.toInt = i.toInt + 2 := lx_ad2 hi hL em5
  refine pq_iaload ?_
  refine Exists.intro _ (Exists.intro _ (And.intro (Or.inr hro) (And.intro (lx_bn2 hi e5) ?_)))
  have ha2_5 : a2 = xs m5.toInt.toNat := by rw [ha2, em5, ← m_a2]
  rw [← ha2_5]
  refine pq_aload_n0 (pq_iload_n3 (pq_iconst (pq_iadd ?_)))
  intro m6 em6
  have e6 : m6.toInt = i.toInt + 3 := lx_ad3 hi hL em6
  refine pq_iaload ?_
  refine Exists.intro _ (Exists.intro _ (And.intro (Or.inr hro) (And.intro (lx_bn3 hi e6) ?_)))
  have ha3_6 : a3 = xs m6.toInt.toNat := by rw [ha3, em6, ← m_a3]
  rw [← ha3_6]
  refine pq_iv3_11 ?_
  rw [cw_md D dj423]
  refine And.intro (Exists.intro _ (md_o)) (Exists.intro _ (Exists.intro _ (Exists.intro _ (Exists.intro _ (And.intro (F_X11_paint D mv mf hv hf a1 a2 a3 (by omega)) (And.intro (lw_bnd rfl (lx_c2 hc (by decide)) (lx_c2 hs0 (by decide)) rfl) (fun r9 A9 h9 => ?_)))))))
  obtain ⟨y443, mv443, mf443, rfl, rfl, hv443, hf443, hx443, by443⟩ := h9
  have fm9 := by443.2 M hR2
  refine pq_id1 (pq_pop (pq_goto ?_))
  exact cont _ _ _ ⟨A00, K423, nn423, dn423, q423, w423, e423, v423, f423, mq, mv443, mf443, _, (cw_md D dj423).symm, (hX423.2.1 0 (by omega)), hI423, hS423, D, hv443, hf443, dj423, fun j hj => by rw [hy423, hx443]; exact hw j hj, by omega, by omega, fc9.1, fm9.1, (pm_eqI (by rw [fc9.2.2.1, fm9.2.2, hg])), (by rw [fc9.2.1, fm9.2.1, he0]), fc9.2.2.2.1, (nm_paint hM), (fc9.2.2.2.2 hB)⟩ (by omega) (by omega)

set_option maxRecDepth 100000 in
set_option maxHeartbeats 2000000 in
theorem lx_b6 (hC : pm_Cl l g (lw_ro b L xs) 7 600000 7302250 lw_Rt bk_L_law J) {i : Int32} (hi : 0 ≤ i.toInt ∧ i.toInt + 6 ≤ L) (hL : L ≤ 3072) {E : Nat} (hE : E < 1000) {A : pm_H} {c s : Nat} (hA : LX g xo h E A) (hc : c + 4 ≤ 600000) (hs0 : s + 485 ≤ 7302250) (cont : ∀ (A' : pm_H) (c' s' : Nat), LX g xo h (E + 1) A' → c' ≤ c + 4 → s' ≤ s + 485 → J 2563 [some (.ref b), some (.ref xo), some (.ref h), some (.int i)] [] A' c' s') : J 450 [some (.ref b), some (.ref xo), some (.ref h), some (.int i)] [] A c s := by
  obtain ⟨A00, K, nn, dn, q, w, e, v, f, mq, mv, mf, M, rfl, rfl, hI, hS, D, hv, hf, dj, hw, hE1, hE2, hR1, hR2, hg, he0, hN, hM, hB⟩ := hA
  have hu9 := hI.2.1
  unfold cw_W at hu9
  have hro : lw_ro b L xs b = some (L, xs) := if_pos rfl
  refine hC.1 6 450 _ _ rfl _ _ _ _ _ ?_
  refine pq_aload_n1 (pq_aload_n0 (pq_iload_n3 (pq_iconst (pq_iadd ?_))))
  intro m1 em1
  have e1 : m1.toInt = i.toInt + 1 := lx_ad1 hi hL em1
  refine pq_iaload ?_
  refine Exists.intro _ (Exists.intro _ (And.intro (Or.inr hro) (And.intro (lx_bn1 hi e1) ?_)))
  obtain ⟨a1, ha1⟩ : ∃ z9, z9 = xs m1.toInt.toNat := ⟨_, rfl⟩
  have m_a1 := em1
  rw [← ha1]
  refine pq_aload_n0 (pq_iload_n3 (pq_iconst (pq_iadd ?_)))
  intro m2 em2
  have e2 : m2.toInt = i.toInt + 2 := lx_ad2 hi hL em2
  refine pq_iaload ?_
  refine Exists.intro _ (Exists.intro _ (And.intro (Or.inr hro) (And.intro (lx_bn2 hi e2) ?_)))
  obtain ⟨a2, ha2⟩ : ∃ z9, z9 = xs m2.toInt.toNat := ⟨_, rfl⟩
  have m_a2 := em2
  rw [← ha2]
  refine pq_iv2_10 ?_
  refine And.intro (Exists.intro _ (cw_o0 hI.1)) (Exists.intro _ (Exists.intro _ (Exists.intro _ (Exists.intro _ (And.intro (H_X10_turn hI hS a1 a2 (by omega)) (And.intro (lw_bnd rfl (lx_c1 hc (by decide)) (lx_c1 hs0 (by decide)) rfl) (fun r9 A9 h9 => ?_)))))))
  obtain ⟨K461, nn461, dn461, q461, w461, e461, v461, f461, rfl, hI461, hS461, hX461, hy461, y461, rfl, by461⟩ := h9
  have dj461 := lw_dj D dj hX461
  have fc9 := by461.2 M hR1 hN
  refine pq_id1 (pq_pop (pq_aload_n2 (pq_aload_n0 (pq_iload_n3 (pq_iconst (pq_iadd ?_))))))
  intro m3 em3
  have e3 : m3.toInt = i.toInt + 1 := lx_ad1 hi hL em3
  refine pq_iaload ?_
  refine Exists.intro _ (Exists.intro _ (And.intro (Or.inr hro) (And.intro (lx_bn1 hi e3) ?_)))
  have ha1_3 : a1 = xs m3.toInt.toNat := by rw [ha1, em3, ← m_a1]
  rw [← ha1_3]
  refine pq_aload_n0 (pq_iload_n3 (pq_iconst (pq_iadd ?_)))
  intro m4 em4
  have e4 : m4.toInt = i.toInt + 2 := lx_ad2 hi hL em4
  refine pq_iaload ?_
  refine Exists.intro _ (Exists.intro _ (And.intro (Or.inr hro) (And.intro (lx_bn2 hi e4) ?_)))
  have ha2_4 : a2 = xs m4.toInt.toNat := by rw [ha2, em4, ← m_a2]
  rw [← ha2_4]
  refine pq_iv2_11 ?_
  rw [cw_md D dj461]
  refine And.intro (Exists.intro _ (md_o)) (Exists.intro _ (Exists.intro _ (Exists.intro _ (Exists.intro _ (And.intro (F_X11_turn D mv mf hv hf a1 a2 (by omega)) (And.intro (lw_bnd rfl (lx_c2 hc (by decide)) (lx_c2 hs0 (by decide)) rfl) (fun r9 A9 h9 => ?_)))))))
  obtain ⟨y476, mv476, mf476, rfl, rfl, hv476, hf476, hx476, by476⟩ := h9
  have fm9 := by476.2 M hR2
  refine pq_id1 (pq_pop (pq_goto ?_))
  exact cont _ _ _ ⟨A00, K461, nn461, dn461, q461, w461, e461, v461, f461, mq, mv476, mf476, _, (cw_md D dj461).symm, (hX461.2.1 0 (by omega)), hI461, hS461, D, hv476, hf476, dj461, fun j hj => by rw [hy461, hx476]; exact hw j hj, by omega, by omega, fc9.1, fm9.1, (pm_eqI (by rw [fc9.2.2.1, fm9.2.2, hg])), (by rw [fc9.2.1, fm9.2.1, he0]), fc9.2.2.2.1, (nm_turn hM), (fc9.2.2.2.2 hB)⟩ (by omega) (by omega)

set_option maxRecDepth 100000 in
set_option maxHeartbeats 2000000 in
theorem lx_b7 (hC : pm_Cl l g (lw_ro b L xs) 7 600000 7302250 lw_Rt bk_L_law J) {i : Int32} (hi : 0 ≤ i.toInt ∧ i.toInt + 6 ≤ L) (hL : L ≤ 3072) {E : Nat} (hE : E < 1000) {A : pm_H} {c s : Nat} (hA : LX g xo h E A) (hc : c + 4 ≤ 600000) (hs0 : s + 485 ≤ 7302250) (cont : ∀ (A' : pm_H) (c' s' : Nat), LX g xo h (E + 1) A' → c' ≤ c + 4 → s' ≤ s + 485 → J 2563 [some (.ref b), some (.ref xo), some (.ref h), some (.int i)] [] A' c' s') : J 483 [some (.ref b), some (.ref xo), some (.ref h), some (.int i)] [] A c s := by
  obtain ⟨A00, K, nn, dn, q, w, e, v, f, mq, mv, mf, M, rfl, rfl, hI, hS, D, hv, hf, dj, hw, hE1, hE2, hR1, hR2, hg, he0, hN, hM, hB⟩ := hA
  have hu9 := hI.2.1
  unfold cw_W at hu9
  have hro : lw_ro b L xs b = some (L, xs) := if_pos rfl
  refine hC.1 7 483 _ _ rfl _ _ _ _ _ ?_
  refine pq_aload_n1 (pq_aload_n0 (pq_iload_n3 (pq_iconst (pq_iadd ?_))))
  intro m1 em1
  have e1 : m1.toInt = i.toInt + 1 := lx_ad1 hi hL em1
  refine pq_iaload ?_
  refine Exists.intro _ (Exists.intro _ (And.intro (Or.inr hro) (And.intro (lx_bn1 hi e1) ?_)))
  obtain ⟨a1, ha1⟩ : ∃ z9, z9 = xs m1.toInt.toNat := ⟨_, rfl⟩
  have m_a1 := em1
  rw [← ha1]
  refine pq_aload_n0 (pq_iload_n3 (pq_iconst (pq_iadd ?_)))
  intro m2 em2
  have e2 : m2.toInt = i.toInt + 2 := lx_ad2 hi hL em2
  refine pq_iaload ?_
  refine Exists.intro _ (Exists.intro _ (And.intro (Or.inr hro) (And.intro (lx_bn2 hi e2) ?_)))
  obtain ⟨a2, ha2⟩ : ∃ z9, z9 = xs m2.toInt.toNat := ⟨_, rfl⟩
  have m_a2 := em2
  rw [← ha2]
  refine pq_aload_n0 (pq_iload_n3 (pq_iconst (pq_iadd ?_)))
  intro m3 em3
  have e3 : m3.toInt = i.toInt + 3 := lx_ad3 hi hL em3
  refine pq_iaload ?_
  refine Exists.intro _ (Exists.intro _ (And.intro (Or.inr hro) (And.intro (lx_bn3 hi e3) ?_)))
  obtain ⟨a3, ha3⟩ : ∃ z9, z9 = xs m3.toInt.toNat := ⟨_, rfl⟩
  have m_a3 := em3
  rw [← ha3]
  refine pq_iv3_10 ?_
  refine And.intro (Exists.intro _ (cw_o0 hI.1)) (Exists.intro _ (Exists.intro _ (Exists.intro _ (Exists.intro _ (And.intro (H_X10_shift hI hS a1 a2 a3 (by omega)) (And.intro (lw_bnd rfl (lx_c1 hc (by decide)) (lx_c1 hs0 (by decide)) rfl) (fun r9 A9 h9 => ?_)))))))
  obtain ⟨K499, nn499, dn499, q499, w499, e499, v499, f499, rfl, hI499, hS499, hX499, hy499, y499, rfl, by499⟩ := h9
  have dj499 := lw_dj D dj hX499
  have fc9 := by499.2 M hR1 hN
  refine pq_id1 (pq_pop (pq_aload_n2 (pq_aload_n0 (pq_iload_n3 (pq_iconst (pq_iadd ?_))))))
  intro m4 em4
  have e4 : m4.toInt = i.toInt + 1 := lx_ad1 hi hL em4
  refine pq_iaload ?_
  refine Exists.intro _ (Exists.intro _ (And.intro (Or.inr hro) (And.intro (lx_bn1 hi e4) ?_)))
  have ha1_4 : a1 = xs m4.toInt.toNat := by rw [ha1, em4, ← m_a1]
  rw [← ha1_4]
  refine pq_aload_n0 (pq_iload_n3 (pq_iconst (pq_iadd ?_)))
  intro m5 em5
  have e5 : m5.toInt = i.toInt + 2 := lx_ad2 hi hL em5
  refine pq_iaload ?_
  refine Exists.intro _ (Exists.intro _ (And.intro (Or.inr hro) (And.intro (lx_bn2 hi e5) ?_)))
  have ha2_5 : a2 = xs m5.toInt.toNat := by rw [ha2, em5, ← m_a2]
  rw [← ha2_5]
  refine pq_aload_n0 (pq_iload_n3 (pq_iconst (pq_iadd ?_)))
  intro m6 em6
  have e6 : m6.toInt = i.toInt + 3 := lx_ad3 hi hL em6
  refine pq_iaload ?_
  refine Exists.intro _ (Exists.intro _ (And.intro (Or.inr hro) (And.intro (lx_bn3 hi e6) ?_)))
  have ha3_6 : a3 = xs m6.toInt.toNat := by rw [ha3, em6, ← m_a3]
  rw [← ha3_6]
  refine pq_iv3_11 ?_
  rw [cw_md D dj499]
  refine And.intro (Exists.intro _ (md_o)) (Exists.intro _ (Exists.intro _ (Exists.intro _ (Exists.intro _ (And.intro (F_X11_shift D mv mf hv hf a1 a2 a3 (by omega)) (And.intro (lw_bnd rfl (lx_c2 hc (by decide)) (lx_c2 hs0 (by decide)) rfl) (fun r9 A9 h9 => ?_)))))))
  obtain ⟨y519, mv519, mf519, rfl, rfl, hv519, hf519, hx519, by519⟩ := h9
  have fm9 := by519.2 M hR2
  refine pq_id1 (pq_pop (pq_goto ?_))
  exact cont _ _ _ ⟨A00, K499, nn499, dn499, q499, w499, e499, v499, f499, mq, mv519, mf519, _, (cw_md D dj499).symm, (hX499.2.1 0 (by omega)), hI499, hS499, D, hv519, hf519, dj499, fun j hj => by rw [hy499, hx519]; exact hw j hj, by omega, by omega, fc9.1, fm9.1, (pm_eqI (by rw [fc9.2.2.1, fm9.2.2, hg])), (by rw [fc9.2.1, fm9.2.1, he0]), fc9.2.2.2.1, (nm_shift hM), (fc9.2.2.2.2 hB)⟩ (by omega) (by omega)

set_option maxRecDepth 100000 in
set_option maxHeartbeats 2000000 in
theorem lx_b8 (hC : pm_Cl l g (lw_ro b L xs) 7 600000 7302250 lw_Rt bk_L_law J) {i : Int32} (hi : 0 ≤ i.toInt ∧ i.toInt + 6 ≤ L) (hL : L ≤ 3072) {E : Nat} (hE : E < 1000) {A : pm_H} {c s : Nat} (hA : LX g xo h E A) (hc : c + 4 ≤ 600000) (hs0 : s + 485 ≤ 7302250) (cont : ∀ (A' : pm_H) (c' s' : Nat), LX g xo h (E + 1) A' → c' ≤ c + 4 → s' ≤ s + 485 → J 2563 [some (.ref b), some (.ref xo), some (.ref h), some (.int i)] [] A' c' s') : J 526 [some (.ref b), some (.ref xo), some (.ref h), some (.int i)] [] A c s := by
  obtain ⟨A00, K, nn, dn, q, w, e, v, f, mq, mv, mf, M, rfl, rfl, hI, hS, D, hv, hf, dj, hw, hE1, hE2, hR1, hR2, hg, he0, hN, hM, hB⟩ := hA
  have hu9 := hI.2.1
  unfold cw_W at hu9
  have hro : lw_ro b L xs b = some (L, xs) := if_pos rfl
  refine hC.1 8 526 _ _ rfl _ _ _ _ _ ?_
  refine pq_aload_n1 (pq_aload_n0 (pq_iload_n3 (pq_iconst (pq_iadd ?_))))
  intro m1 em1
  have e1 : m1.toInt = i.toInt + 1 := lx_ad1 hi hL em1
  refine pq_iaload ?_
  refine Exists.intro _ (Exists.intro _ (And.intro (Or.inr hro) (And.intro (lx_bn1 hi e1) ?_)))
  obtain ⟨a1, ha1⟩ : ∃ z9, z9 = xs m1.toInt.toNat := ⟨_, rfl⟩
  have m_a1 := em1
  rw [← ha1]
  refine pq_aload_n0 (pq_iload_n3 (pq_iconst (pq_iadd ?_)))
  intro m2 em2
  have e2 : m2.toInt = i.toInt + 2 := lx_ad2 hi hL em2
  refine pq_iaload ?_
  refine Exists.intro _ (Exists.intro _ (And.intro (Or.inr hro) (And.intro (lx_bn2 hi e2) ?_)))
  obtain ⟨a2, ha2⟩ : ∃ z9, z9 = xs m2.toInt.toNat := ⟨_, rfl⟩
  have m_a2 := em2
  rw [← ha2]
  refine pq_iv2_10 ?_
  refine And.intro (Exists.intro _ (cw_o0 hI.1)) (Exists.intro _ (Exists.intro _ (Exists.intro _ (Exists.intro _ (And.intro (H_X10_sort hI hS a1 a2 (by omega)) (And.intro (lw_bnd rfl (lx_c1 hc (by decide)) (lx_c1 hs0 (by decide)) rfl) (fun r9 A9 h9 => ?_)))))))
  obtain ⟨K537, nn537, dn537, q537, w537, e537, v537, f537, rfl, hI537, hS537, hX537, hy537, y537, rfl, by537⟩ := h9
  have dj537 := lw_dj D dj hX537
  have fc9 := by537.2 M hR1 hN
  refine pq_id1 (pq_pop (pq_aload_n2 (pq_aload_n0 (pq_iload_n3 (pq_iconst (pq_iadd ?_))))))
  intro m3 em3
  have e3 : m3.toInt = i.toInt + 1 := lx_ad1 hi hL em3
  refine pq_iaload ?_
  refine Exists.intro _ (Exists.intro _ (And.intro (Or.inr hro) (And.intro (lx_bn1 hi e3) ?_)))
  have ha1_3 : a1 = xs m3.toInt.toNat := by rw [ha1, em3, ← m_a1]
  rw [← ha1_3]
  refine pq_aload_n0 (pq_iload_n3 (pq_iconst (pq_iadd ?_)))
  intro m4 em4
  have e4 : m4.toInt = i.toInt + 2 := lx_ad2 hi hL em4
  refine pq_iaload ?_
  refine Exists.intro _ (Exists.intro _ (And.intro (Or.inr hro) (And.intro (lx_bn2 hi e4) ?_)))
  have ha2_4 : a2 = xs m4.toInt.toNat := by rw [ha2, em4, ← m_a2]
  rw [← ha2_4]
  refine pq_iv2_11 ?_
  rw [cw_md D dj537]
  refine And.intro (Exists.intro _ (md_o)) (Exists.intro _ (Exists.intro _ (Exists.intro _ (Exists.intro _ (And.intro (F_X11_sort D mv mf hv hf a1 a2 (by omega)) (And.intro (lw_bnd rfl (lx_c2 hc (by decide)) (lx_c2 hs0 (by decide)) rfl) (fun r9 A9 h9 => ?_)))))))
  obtain ⟨y552, mv552, mf552, rfl, rfl, hv552, hf552, hx552, by552⟩ := h9
  have fm9 := by552.2 M hR2
  refine pq_id1 (pq_pop (pq_goto ?_))
  exact cont _ _ _ ⟨A00, K537, nn537, dn537, q537, w537, e537, v537, f537, mq, mv552, mf552, _, (cw_md D dj537).symm, (hX537.2.1 0 (by omega)), hI537, hS537, D, hv552, hf552, dj537, fun j hj => by rw [hy537, hx552]; exact hw j hj, by omega, by omega, fc9.1, fm9.1, (pm_eqI (by rw [fc9.2.2.1, fm9.2.2, hg])), (by rw [fc9.2.1, fm9.2.1, he0]), fc9.2.2.2.1, (nm_sort hM), (fc9.2.2.2.2 hB)⟩ (by omega) (by omega)

set_option maxRecDepth 100000 in
set_option maxHeartbeats 2000000 in
theorem lx_b9 (hC : pm_Cl l g (lw_ro b L xs) 7 600000 7302250 lw_Rt bk_L_law J) {i : Int32} (hi : 0 ≤ i.toInt ∧ i.toInt + 6 ≤ L) (hL : L ≤ 3072) {E : Nat} (hE : E < 1000) {A : pm_H} {c s : Nat} (hA : LX g xo h E A) (hc : c + 4 ≤ 600000) (hs0 : s + 485 ≤ 7302250) (cont : ∀ (A' : pm_H) (c' s' : Nat), LX g xo h (E + 1) A' → c' ≤ c + 4 → s' ≤ s + 485 → J 2563 [some (.ref b), some (.ref xo), some (.ref h), some (.int i)] [] A' c' s') : J 559 [some (.ref b), some (.ref xo), some (.ref h), some (.int i)] [] A c s := by
  obtain ⟨A00, K, nn, dn, q, w, e, v, f, mq, mv, mf, M, rfl, rfl, hI, hS, D, hv, hf, dj, hw, hE1, hE2, hR1, hR2, hg, he0, hN, hM, hB⟩ := hA
  have hu9 := hI.2.1
  unfold cw_W at hu9
  have hro : lw_ro b L xs b = some (L, xs) := if_pos rfl
  refine hC.1 9 559 _ _ rfl _ _ _ _ _ ?_
  refine pq_aload_n1 (pq_aload_n0 (pq_iload_n3 (pq_iconst (pq_iadd ?_))))
  intro m1 em1
  have e1 : m1.toInt = i.toInt + 1 := lx_ad1 hi hL em1
  refine pq_iaload ?_
  refine Exists.intro _ (Exists.intro _ (And.intro (Or.inr hro) (And.intro (lx_bn1 hi e1) ?_)))
  obtain ⟨a1, ha1⟩ : ∃ z9, z9 = xs m1.toInt.toNat := ⟨_, rfl⟩
  have m_a1 := em1
  rw [← ha1]
  refine pq_aload_n0 (pq_iload_n3 (pq_iconst (pq_iadd ?_)))
  intro m2 em2
  have e2 : m2.toInt = i.toInt + 2 := lx_ad2 hi hL em2
  refine pq_iaload ?_
  refine Exists.intro _ (Exists.intro _ (And.intro (Or.inr hro) (And.intro (lx_bn2 hi e2) ?_)))
  obtain ⟨a2, ha2⟩ : ∃ z9, z9 = xs m2.toInt.toNat := ⟨_, rfl⟩
  have m_a2 := em2
  rw [← ha2]
  refine pq_aload_n0 (pq_iload_n3 (pq_iconst (pq_iadd ?_)))
  intro m3 em3
  have e3 : m3.toInt = i.toInt + 3 := lx_ad3 hi hL em3
  refine pq_iaload ?_
  refine Exists.intro _ (Exists.intro _ (And.intro (Or.inr hro) (And.intro (lx_bn3 hi e3) ?_)))
  obtain ⟨a3, ha3⟩ : ∃ z9, z9 = xs m3.toInt.toNat := ⟨_, rfl⟩
  have m_a3 := em3
  rw [← ha3]
  refine pq_aload_n0 (pq_iload_n3 (pq_iconst (pq_iadd ?_)))
  intro m4 em4
  have e4 : m4.toInt = i.toInt + 4 := lx_ad4 hi hL em4
  refine pq_iaload ?_
  refine Exists.intro _ (Exists.intro _ (And.intro (Or.inr hro) (And.intro (lx_bn4 hi e4) ?_)))
  obtain ⟨a4, ha4⟩ : ∃ z9, z9 = xs m4.toInt.toNat := ⟨_, rfl⟩
  have m_a4 := em4
  rw [← ha4]
  refine pq_iv4_10 ?_
  refine And.intro (Exists.intro _ (cw_o0 hI.1)) (Exists.intro _ (Exists.intro _ (Exists.intro _ (Exists.intro _ (And.intro (H_X10_swap hI hS a1 a2 a3 a4 (by omega)) (And.intro (lw_bnd rfl (lx_c1 hc (by decide)) (lx_c1 hs0 (by decide)) rfl) (fun r9 A9 h9 => ?_)))))))
  obtain ⟨K580, nn580, dn580, q580, w580, e580, v580, f580, rfl, hI580, hS580, hX580, hy580, y580, rfl, by580⟩ := h9
  have dj580 := lw_dj D dj hX580
  have fc9 := by580.2 M hR1 hN
  refine pq_id1 (pq_pop (pq_aload_n2 (pq_aload_n0 (pq_iload_n3 (pq_iconst (pq_iadd ?_))))))
  intro m5 em5
  have e5 : m5.toInt = i.toInt + 1 := lx_ad1 hi hL em5
  refine pq_iaload ?_
  refine Exists.intro _ (Exists.intro _ (And.intro (Or.inr hro) (And.intro (lx_bn1 hi e5) ?_)))
  have ha1_5 : a1 = xs m5.toInt.toNat := by rw [ha1, em5, ← m_a1]
  rw [← ha1_5]
  refine pq_aload_n0 (pq_iload_n3 (pq_iconst (pq_iadd ?_)))
  intro m6 em6
  have e6 : m6.toInt = i.toInt + 2 := lx_ad2 hi hL em6
  refine pq_iaload ?_
  refine Exists.intro _ (Exists.intro _ (And.intro (Or.inr hro) (And.intro (lx_bn2 hi e6) ?_)))
  have ha2_6 : a2 = xs m6.toInt.toNat := by rw [ha2, em6, ← m_a2]
  rw [← ha2_6]
  refine pq_aload_n0 (pq_iload_n3 (pq_iconst (pq_iadd ?_)))
  intro m7 em7
  have e7 : m7.toInt = i.toInt + 3 := lx_ad3 hi hL em7
  refine pq_iaload ?_
  refine Exists.intro _ (Exists.intro _ (And.intro (Or.inr hro) (And.intro (lx_bn3 hi e7) ?_)))
  have ha3_7 : a3 = xs m7.toInt.toNat := by rw [ha3, em7, ← m_a3]
  rw [← ha3_7]
  refine pq_aload_n0 (pq_iload_n3 (pq_iconst (pq_iadd ?_)))
  intro m8 em8
  have e8 : m8.toInt = i.toInt + 4 := lx_ad4 hi hL em8
  refine pq_iaload ?_
  refine Exists.intro _ (Exists.intro _ (And.intro (Or.inr hro) (And.intro (lx_bn4 hi e8) ?_)))
  have ha4_8 : a4 = xs m8.toInt.toNat := by rw [ha4, em8, ← m_a4]
  rw [← ha4_8]
  refine pq_iv4_11 ?_
  rw [cw_md D dj580]
  refine And.intro (Exists.intro _ (md_o)) (Exists.intro _ (Exists.intro _ (Exists.intro _ (Exists.intro _ (And.intro (F_X11_swap D mv mf hv hf a1 a2 a3 a4 (by omega)) (And.intro (lw_bnd rfl (lx_c2 hc (by decide)) (lx_c2 hs0 (by decide)) rfl) (fun r9 A9 h9 => ?_)))))))
  obtain ⟨y605, mv605, mf605, rfl, rfl, hv605, hf605, hx605, by605⟩ := h9
  have fm9 := by605.2 M hR2
  refine pq_id1 (pq_pop (pq_goto ?_))
  exact cont _ _ _ ⟨A00, K580, nn580, dn580, q580, w580, e580, v580, f580, mq, mv605, mf605, _, (cw_md D dj580).symm, (hX580.2.1 0 (by omega)), hI580, hS580, D, hv605, hf605, dj580, fun j hj => by rw [hy580, hx605]; exact hw j hj, by omega, by omega, fc9.1, fm9.1, (pm_eqI (by rw [fc9.2.2.1, fm9.2.2, hg])), (by rw [fc9.2.1, fm9.2.1, he0]), fc9.2.2.2.1, (nm_swap hM), (fc9.2.2.2.2 hB)⟩ (by omega) (by omega)

set_option maxRecDepth 100000 in
set_option maxHeartbeats 2000000 in
theorem lx_b10 (hC : pm_Cl l g (lw_ro b L xs) 7 600000 7302250 lw_Rt bk_L_law J) {i : Int32} (hi : 0 ≤ i.toInt ∧ i.toInt + 6 ≤ L) (hL : L ≤ 3072) {E : Nat} (hE : E < 1000) {A : pm_H} {c s : Nat} (hA : LX g xo h E A) (hc : c + 4 ≤ 600000) (hs0 : s + 485 ≤ 7302250) (cont : ∀ (A' : pm_H) (c' s' : Nat), LX g xo h (E + 1) A' → c' ≤ c + 4 → s' ≤ s + 485 → J 2563 [some (.ref b), some (.ref xo), some (.ref h), some (.int i)] [] A' c' s') : J 612 [some (.ref b), some (.ref xo), some (.ref h), some (.int i)] [] A c s := by
  obtain ⟨A00, K, nn, dn, q, w, e, v, f, mq, mv, mf, M, rfl, rfl, hI, hS, D, hv, hf, dj, hw, hE1, hE2, hR1, hR2, hg, he0, hN, hM, hB⟩ := hA
  have hu9 := hI.2.1
  unfold cw_W at hu9
  have hro : lw_ro b L xs b = some (L, xs) := if_pos rfl
  refine hC.1 10 612 _ _ rfl _ _ _ _ _ ?_
  refine pq_aload_n1 (pq_aload_n0 (pq_iload_n3 (pq_iconst (pq_iadd ?_))))
  intro m1 em1
  have e1 : m1.toInt = i.toInt + 1 := lx_ad1 hi hL em1
  refine pq_iaload ?_
  refine Exists.intro _ (Exists.intro _ (And.intro (Or.inr hro) (And.intro (lx_bn1 hi e1) ?_)))
  obtain ⟨a1, ha1⟩ : ∃ z9, z9 = xs m1.toInt.toNat := ⟨_, rfl⟩
  have m_a1 := em1
  rw [← ha1]
  refine pq_aload_n0 (pq_iload_n3 (pq_iconst (pq_iadd ?_)))
  intro m2 em2
  have e2 : m2.toInt = i.toInt + 2 := lx_ad2 hi hL em2
  refine pq_iaload ?_
  refine Exists.intro _ (Exists.intro _ (And.intro (Or.inr hro) (And.intro (lx_bn2 hi e2) ?_)))
  obtain ⟨a2, ha2⟩ : ∃ z9, z9 = xs m2.toInt.toNat := ⟨_, rfl⟩
  have m_a2 := em2
  rw [← ha2]
  refine pq_aload_n0 (pq_iload_n3 (pq_iconst (pq_iadd ?_)))
  intro m3 em3
  have e3 : m3.toInt = i.toInt + 3 := lx_ad3 hi hL em3
  refine pq_iaload ?_
  refine Exists.intro _ (Exists.intro _ (And.intro (Or.inr hro) (And.intro (lx_bn3 hi e3) ?_)))
  obtain ⟨a3, ha3⟩ : ∃ z9, z9 = xs m3.toInt.toNat := ⟨_, rfl⟩
  have m_a3 := em3
  rw [← ha3]
  refine pq_iv3_10 ?_
  refine And.intro (Exists.intro _ (cw_o0 hI.1)) (Exists.intro _ (Exists.intro _ (Exists.intro _ (Exists.intro _ (And.intro (H_X10_copy hI hS a1 a2 a3 (by omega)) (And.intro (lw_bnd rfl (lx_c1 hc (by decide)) (lx_c1 hs0 (by decide)) rfl) (fun r9 A9 h9 => ?_)))))))
  obtain ⟨K628, nn628, dn628, q628, w628, e628, v628, f628, rfl, hI628, hS628, hX628, hy628, y628, rfl, by628⟩ := h9
  have dj628 := lw_dj D dj hX628
  have fc9 := by628.2 M hR1 hN
  refine pq_id1 (pq_pop (pq_aload_n2 (pq_aload_n0 (pq_iload_n3 (pq_iconst (pq_iadd ?_))))))
  intro m4 em4
  have e4 : m4.toInt = i.toInt + 1 := lx_ad1 hi hL em4
  refine pq_iaload ?_
  refine Exists.intro _ (Exists.intro _ (And.intro (Or.inr hro) (And.intro (lx_bn1 hi e4) ?_)))
  have ha1_4 : a1 = xs m4.toInt.toNat := by rw [ha1, em4, ← m_a1]
  rw [← ha1_4]
  refine pq_aload_n0 (pq_iload_n3 (pq_iconst (pq_iadd ?_)))
  intro m5 em5
  have e5 : m5.toInt = i.toInt + 2 := lx_ad2 hi hL em5
  refine pq_iaload ?_
  refine Exists.intro _ (Exists.intro _ (And.intro (Or.inr hro) (And.intro (lx_bn2 hi e5) ?_)))
  have ha2_5 : a2 = xs m5.toInt.toNat := by rw [ha2, em5, ← m_a2]
  rw [← ha2_5]
  refine pq_aload_n0 (pq_iload_n3 (pq_iconst (pq_iadd ?_)))
  intro m6 em6
  have e6 : m6.toInt = i.toInt + 3 := lx_ad3 hi hL em6
  refine pq_iaload ?_
  refine Exists.intro _ (Exists.intro _ (And.intro (Or.inr hro) (And.intro (lx_bn3 hi e6) ?_)))
  have ha3_6 : a3 = xs m6.toInt.toNat := by rw [ha3, em6, ← m_a3]
  rw [← ha3_6]
  refine pq_iv3_11 ?_
  rw [cw_md D dj628]
  refine And.intro (Exists.intro _ (md_o)) (Exists.intro _ (Exists.intro _ (Exists.intro _ (Exists.intro _ (And.intro (F_X11_copy D mv mf hv hf a1 a2 a3 (by omega)) (And.intro (lw_bnd rfl (lx_c2 hc (by decide)) (lx_c2 hs0 (by decide)) rfl) (fun r9 A9 h9 => ?_)))))))
  obtain ⟨y648, mv648, mf648, rfl, rfl, hv648, hf648, hx648, by648⟩ := h9
  have fm9 := by648.2 M hR2
  rw [← hg] at fm9
  refine pq_id1 (pq_pop (pq_goto ?_))
  exact cont _ _ _ ⟨A00, K628, nn628, dn628, q628, w628, e628, v628, f628, mq, mv648, mf648, _, (cw_md D dj628).symm, (hX628.2.1 0 (by omega)), hI628, hS628, D, hv648, hf648, dj628, fun j hj => by rw [hy628, hx648]; exact hw j hj, by omega, by omega, fc9.1, fm9.1, (pm_eqI (by rw [fc9.2.2.1, fm9.2.2, hg])), (by rw [fc9.2.1, fm9.2.1, he0]), fc9.2.2.2.1, (nm_copy hM (by omega)), (fc9.2.2.2.2 hB)⟩ (by omega) (by omega)

set_option maxRecDepth 100000 in
set_option maxHeartbeats 2000000 in
theorem lx_b11 (hC : pm_Cl l g (lw_ro b L xs) 7 600000 7302250 lw_Rt bk_L_law J) {i : Int32} (hi : 0 ≤ i.toInt ∧ i.toInt + 6 ≤ L) (hL : L ≤ 3072) {E : Nat} (hE : E < 1000) {A : pm_H} {c s : Nat} (hA : LX g xo h E A) (hc : c + 4 ≤ 600000) (hs0 : s + 485 ≤ 7302250) (cont : ∀ (A' : pm_H) (c' s' : Nat), LX g xo h (E + 1) A' → c' ≤ c + 4 → s' ≤ s + 485 → J 2563 [some (.ref b), some (.ref xo), some (.ref h), some (.int i)] [] A' c' s') : J 655 [some (.ref b), some (.ref xo), some (.ref h), some (.int i)] [] A c s := by
  obtain ⟨A00, K, nn, dn, q, w, e, v, f, mq, mv, mf, M, rfl, rfl, hI, hS, D, hv, hf, dj, hw, hE1, hE2, hR1, hR2, hg, he0, hN, hM, hB⟩ := hA
  have hu9 := hI.2.1
  unfold cw_W at hu9
  have hro : lw_ro b L xs b = some (L, xs) := if_pos rfl
  refine hC.1 11 655 _ _ rfl _ _ _ _ _ ?_
  refine pq_aload_n1 (pq_aload_n0 (pq_iload_n3 (pq_iconst (pq_iadd ?_))))
  intro m1 em1
  have e1 : m1.toInt = i.toInt + 1 := lx_ad1 hi hL em1
  refine pq_iaload ?_
  refine Exists.intro _ (Exists.intro _ (And.intro (Or.inr hro) (And.intro (lx_bn1 hi e1) ?_)))
  obtain ⟨a1, ha1⟩ : ∃ z9, z9 = xs m1.toInt.toNat := ⟨_, rfl⟩
  have m_a1 := em1
  rw [← ha1]
  refine pq_aload_n0 (pq_iload_n3 (pq_iconst (pq_iadd ?_)))
  intro m2 em2
  have e2 : m2.toInt = i.toInt + 2 := lx_ad2 hi hL em2
  refine pq_iaload ?_
  refine Exists.intro _ (Exists.intro _ (And.intro (Or.inr hro) (And.intro (lx_bn2 hi e2) ?_)))
  obtain ⟨a2, ha2⟩ : ∃ z9, z9 = xs m2.toInt.toNat := ⟨_, rfl⟩
  have m_a2 := em2
  rw [← ha2]
  refine pq_iv2_10 ?_
  refine And.intro (Exists.intro _ (cw_o0 hI.1)) (Exists.intro _ (Exists.intro _ (Exists.intro _ (Exists.intro _ (And.intro (H_X10_merge hI hS a1 a2 (by omega)) (And.intro (lw_bnd rfl (lx_c1 hc (by decide)) (lx_c1 hs0 (by decide)) rfl) (fun r9 A9 h9 => ?_)))))))
  obtain ⟨K666, nn666, dn666, q666, w666, e666, v666, f666, rfl, hI666, hS666, hX666, hy666, y666, rfl, by666⟩ := h9
  have dj666 := lw_dj D dj hX666
  have fc9 := by666.2 M hR1 hN
  refine pq_id1 (pq_pop (pq_aload_n2 (pq_aload_n0 (pq_iload_n3 (pq_iconst (pq_iadd ?_))))))
  intro m3 em3
  have e3 : m3.toInt = i.toInt + 1 := lx_ad1 hi hL em3
  refine pq_iaload ?_
  refine Exists.intro _ (Exists.intro _ (And.intro (Or.inr hro) (And.intro (lx_bn1 hi e3) ?_)))
  have ha1_3 : a1 = xs m3.toInt.toNat := by rw [ha1, em3, ← m_a1]
  rw [← ha1_3]
  refine pq_aload_n0 (pq_iload_n3 (pq_iconst (pq_iadd ?_)))
  intro m4 em4
  have e4 : m4.toInt = i.toInt + 2 := lx_ad2 hi hL em4
  refine pq_iaload ?_
  refine Exists.intro _ (Exists.intro _ (And.intro (Or.inr hro) (And.intro (lx_bn2 hi e4) ?_)))
  have ha2_4 : a2 = xs m4.toInt.toNat := by rw [ha2, em4, ← m_a2]
  rw [← ha2_4]
  refine pq_iv2_11 ?_
  rw [cw_md D dj666]
  refine And.intro (Exists.intro _ (md_o)) (Exists.intro _ (Exists.intro _ (Exists.intro _ (Exists.intro _ (And.intro (F_X11_merge D mv mf hv hf a1 a2 (by omega)) (And.intro (lw_bnd rfl (lx_c2 hc (by decide)) (lx_c2 hs0 (by decide)) rfl) (fun r9 A9 h9 => ?_)))))))
  obtain ⟨y681, mv681, mf681, rfl, rfl, hv681, hf681, hx681, by681⟩ := h9
  have fm9 := by681.2 M hR2
  refine pq_id1 (pq_pop (pq_goto ?_))
  exact cont _ _ _ ⟨A00, K666, nn666, dn666, q666, w666, e666, v666, f666, mq, mv681, mf681, _, (cw_md D dj666).symm, (hX666.2.1 0 (by omega)), hI666, hS666, D, hv681, hf681, dj666, fun j hj => by rw [hy666, hx681]; exact hw j hj, by omega, by omega, fc9.1, fm9.1, (pm_eqI (by rw [fc9.2.2.1, fm9.2.2, hg])), (by rw [fc9.2.1, fm9.2.1, he0]), fc9.2.2.2.1, (nm_merge hM), (fc9.2.2.2.2 hB)⟩ (by omega) (by omega)

set_option maxRecDepth 100000 in
set_option maxHeartbeats 2000000 in
theorem lx_b12 (hC : pm_Cl l g (lw_ro b L xs) 7 600000 7302250 lw_Rt bk_L_law J) {i : Int32} (hi : 0 ≤ i.toInt ∧ i.toInt + 6 ≤ L) (hL : L ≤ 3072) {E : Nat} (hE : E < 1000) {A : pm_H} {c s : Nat} (hA : LX g xo h E A) (hc : c + 4 ≤ 600000) (hs0 : s + 485 ≤ 7302250) (cont : ∀ (A' : pm_H) (c' s' : Nat), LX g xo h (E + 1) A' → c' ≤ c + 4 → s' ≤ s + 485 → J 2563 [some (.ref b), some (.ref xo), some (.ref h), some (.int i)] [] A' c' s') : J 688 [some (.ref b), some (.ref xo), some (.ref h), some (.int i)] [] A c s := by
  obtain ⟨A00, K, nn, dn, q, w, e, v, f, mq, mv, mf, M, rfl, rfl, hI, hS, D, hv, hf, dj, hw, hE1, hE2, hR1, hR2, hg, he0, hN, hM, hB⟩ := hA
  have hu9 := hI.2.1
  unfold cw_W at hu9
  have hro : lw_ro b L xs b = some (L, xs) := if_pos rfl
  refine hC.1 12 688 _ _ rfl _ _ _ _ _ ?_
  refine pq_aload_n1 (pq_aload_n0 (pq_iload_n3 (pq_iconst (pq_iadd ?_))))
  intro m1 em1
  have e1 : m1.toInt = i.toInt + 1 := lx_ad1 hi hL em1
  refine pq_iaload ?_
  refine Exists.intro _ (Exists.intro _ (And.intro (Or.inr hro) (And.intro (lx_bn1 hi e1) ?_)))
  obtain ⟨a1, ha1⟩ : ∃ z9, z9 = xs m1.toInt.toNat := ⟨_, rfl⟩
  have m_a1 := em1
  rw [← ha1]
  refine pq_aload_n0 (pq_iload_n3 (pq_iconst (pq_iadd ?_)))
  intro m2 em2
  have e2 : m2.toInt = i.toInt + 2 := lx_ad2 hi hL em2
  refine pq_iaload ?_
  refine Exists.intro _ (Exists.intro _ (And.intro (Or.inr hro) (And.intro (lx_bn2 hi e2) ?_)))
  obtain ⟨a2, ha2⟩ : ∃ z9, z9 = xs m2.toInt.toNat := ⟨_, rfl⟩
  have m_a2 := em2
  rw [← ha2]
  refine pq_iv2_10 ?_
  refine And.intro (Exists.intro _ (cw_o0 hI.1)) (Exists.intro _ (Exists.intro _ (Exists.intro _ (Exists.intro _ (And.intro (H_X10_exchange hI hS a1 a2 (by omega)) (And.intro (lw_bnd rfl (lx_c1 hc (by decide)) (lx_c1 hs0 (by decide)) rfl) (fun r9 A9 h9 => ?_)))))))
  obtain ⟨K699, nn699, dn699, q699, w699, e699, v699, f699, rfl, hI699, hS699, hX699, hy699, y699, rfl, by699⟩ := h9
  have dj699 := lw_dj D dj hX699
  have fc9 := by699.2 M hR1 hN
  refine pq_id1 (pq_pop (pq_aload_n2 (pq_aload_n0 (pq_iload_n3 (pq_iconst (pq_iadd ?_))))))
  intro m3 em3
  have e3 : m3.toInt = i.toInt + 1 := lx_ad1 hi hL em3
  refine pq_iaload ?_
  refine Exists.intro _ (Exists.intro _ (And.intro (Or.inr hro) (And.intro (lx_bn1 hi e3) ?_)))
  have ha1_3 : a1 = xs m3.toInt.toNat := by rw [ha1, em3, ← m_a1]
  rw [← ha1_3]
  refine pq_aload_n0 (pq_iload_n3 (pq_iconst (pq_iadd ?_)))
  intro m4 em4
  have e4 : m4.toInt = i.toInt + 2 := lx_ad2 hi hL em4
  refine pq_iaload ?_
  refine Exists.intro _ (Exists.intro _ (And.intro (Or.inr hro) (And.intro (lx_bn2 hi e4) ?_)))
  have ha2_4 : a2 = xs m4.toInt.toNat := by rw [ha2, em4, ← m_a2]
  rw [← ha2_4]
  refine pq_iv2_11 ?_
  rw [cw_md D dj699]
  refine And.intro (Exists.intro _ (md_o)) (Exists.intro _ (Exists.intro _ (Exists.intro _ (Exists.intro _ (And.intro (F_X11_exchange D mv mf hv hf a1 a2 (by omega)) (And.intro (lw_bnd rfl (lx_c2 hc (by decide)) (lx_c2 hs0 (by decide)) rfl) (fun r9 A9 h9 => ?_)))))))
  obtain ⟨y714, mv714, mf714, rfl, rfl, hv714, hf714, hx714, by714⟩ := h9
  have fm9 := by714.2 M hR2
  refine pq_id1 (pq_pop (pq_goto ?_))
  exact cont _ _ _ ⟨A00, K699, nn699, dn699, q699, w699, e699, v699, f699, mq, mv714, mf714, _, (cw_md D dj699).symm, (hX699.2.1 0 (by omega)), hI699, hS699, D, hv714, hf714, dj699, fun j hj => by rw [hy699, hx714]; exact hw j hj, by omega, by omega, fc9.1, fm9.1, (pm_eqI (by rw [fc9.2.2.1, fm9.2.2, hg])), (by rw [fc9.2.1, fm9.2.1, he0]), fc9.2.2.2.1, (nm_exch hM), (fc9.2.2.2.2 hB)⟩ (by omega) (by omega)

set_option maxRecDepth 100000 in
set_option maxHeartbeats 2000000 in
theorem lx_b13 (hC : pm_Cl l g (lw_ro b L xs) 7 600000 7302250 lw_Rt bk_L_law J) {i : Int32} (hi : 0 ≤ i.toInt ∧ i.toInt + 6 ≤ L) (hL : L ≤ 3072) {E : Nat} (hE : E < 1000) {A : pm_H} {c s : Nat} (hA : LX g xo h E A) (hc : c + 4 ≤ 600000) (hs0 : s + 485 ≤ 7302250) (cont : ∀ (A' : pm_H) (c' s' : Nat), LX g xo h (E + 1) A' → c' ≤ c + 4 → s' ≤ s + 485 → J 2563 [some (.ref b), some (.ref xo), some (.ref h), some (.int i)] [] A' c' s') : J 721 [some (.ref b), some (.ref xo), some (.ref h), some (.int i)] [] A c s := by
  obtain ⟨A00, K, nn, dn, q, w, e, v, f, mq, mv, mf, M, rfl, rfl, hI, hS, D, hv, hf, dj, hw, hE1, hE2, hR1, hR2, hg, he0, hN, hM, hB⟩ := hA
  have hu9 := hI.2.1
  unfold cw_W at hu9
  have hro : lw_ro b L xs b = some (L, xs) := if_pos rfl
  refine hC.1 13 721 _ _ rfl _ _ _ _ _ ?_
  refine pq_aload_n1 (pq_aload_n0 (pq_iload_n3 (pq_iconst (pq_iadd ?_))))
  intro m1 em1
  have e1 : m1.toInt = i.toInt + 1 := lx_ad1 hi hL em1
  refine pq_iaload ?_
  refine Exists.intro _ (Exists.intro _ (And.intro (Or.inr hro) (And.intro (lx_bn1 hi e1) ?_)))
  obtain ⟨a1, ha1⟩ : ∃ z9, z9 = xs m1.toInt.toNat := ⟨_, rfl⟩
  have m_a1 := em1
  rw [← ha1]
  refine pq_aload_n0 (pq_iload_n3 (pq_iconst (pq_iadd ?_)))
  intro m2 em2
  have e2 : m2.toInt = i.toInt + 2 := lx_ad2 hi hL em2
  refine pq_iaload ?_
  refine Exists.intro _ (Exists.intro _ (And.intro (Or.inr hro) (And.intro (lx_bn2 hi e2) ?_)))
  obtain ⟨a2, ha2⟩ : ∃ z9, z9 = xs m2.toInt.toNat := ⟨_, rfl⟩
  have m_a2 := em2
  rw [← ha2]
  refine pq_aload_n0 (pq_iload_n3 (pq_iconst (pq_iadd ?_)))
  intro m3 em3
  have e3 : m3.toInt = i.toInt + 3 := lx_ad3 hi hL em3
  refine pq_iaload ?_
  refine Exists.intro _ (Exists.intro _ (And.intro (Or.inr hro) (And.intro (lx_bn3 hi e3) ?_)))
  obtain ⟨a3, ha3⟩ : ∃ z9, z9 = xs m3.toInt.toNat := ⟨_, rfl⟩
  have m_a3 := em3
  rw [← ha3]
  refine pq_iv3_10 ?_
  refine And.intro (Exists.intro _ (cw_o0 hI.1)) (Exists.intro _ (Exists.intro _ (Exists.intro _ (Exists.intro _ (And.intro (H_X10_draw hI hS a1 a2 a3 (by omega)) (And.intro (lw_bnd rfl (lx_c1 hc (by decide)) (lx_c1 hs0 (by decide)) rfl) (fun r9 A9 h9 => ?_)))))))
  obtain ⟨K737, nn737, dn737, q737, w737, e737, v737, f737, rfl, hI737, hS737, hX737, hy737, y737, rfl, by737⟩ := h9
  have dj737 := lw_dj D dj hX737
  have fc9 := by737.2 M hR1 hN
  refine pq_id1 (pq_pop (pq_aload_n2 (pq_aload_n0 (pq_iload_n3 (pq_iconst (pq_iadd ?_))))))
  intro m4 em4
  have e4 : m4.toInt = i.toInt + 1 := lx_ad1 hi hL em4
  refine pq_iaload ?_
  refine Exists.intro _ (Exists.intro _ (And.intro (Or.inr hro) (And.intro (lx_bn1 hi e4) ?_)))
  have ha1_4 : a1 = xs m4.toInt.toNat := by rw [ha1, em4, ← m_a1]
  rw [← ha1_4]
  refine pq_aload_n0 (pq_iload_n3 (pq_iconst (pq_iadd ?_)))
  intro m5 em5
  have e5 : m5.toInt = i.toInt + 2 := lx_ad2 hi hL em5
  refine pq_iaload ?_
  refine Exists.intro _ (Exists.intro _ (And.intro (Or.inr hro) (And.intro (lx_bn2 hi e5) ?_)))
  have ha2_5 : a2 = xs m5.toInt.toNat := by rw [ha2, em5, ← m_a2]
  rw [← ha2_5]
  refine pq_aload_n0 (pq_iload_n3 (pq_iconst (pq_iadd ?_)))
  intro m6 em6
  have e6 : m6.toInt = i.toInt + 3 := lx_ad3 hi hL em6
  refine pq_iaload ?_
  refine Exists.intro _ (Exists.intro _ (And.intro (Or.inr hro) (And.intro (lx_bn3 hi e6) ?_)))
  have ha3_6 : a3 = xs m6.toInt.toNat := by rw [ha3, em6, ← m_a3]
  rw [← ha3_6]
  refine pq_iv3_11 ?_
  rw [cw_md D dj737]
  refine And.intro (Exists.intro _ (md_o)) (Exists.intro _ (Exists.intro _ (Exists.intro _ (Exists.intro _ (And.intro (F_X11_draw D mv mf hv hf a1 a2 a3 (by omega)) (And.intro (lw_bnd rfl (lx_c2 hc (by decide)) (lx_c2 hs0 (by decide)) rfl) (fun r9 A9 h9 => ?_)))))))
  obtain ⟨y757, mv757, mf757, rfl, rfl, hv757, hf757, hx757, by757⟩ := h9
  have fm9 := by757.2 M hR2
  rw [← hg] at fm9
  refine pq_id1 (pq_pop (pq_goto ?_))
  exact cont _ _ _ ⟨A00, K737, nn737, dn737, q737, w737, e737, v737, f737, mq, mv757, mf757, _, (cw_md D dj737).symm, (hX737.2.1 0 (by omega)), hI737, hS737, D, hv757, hf757, dj737, fun j hj => by rw [hy737, hx757]; exact hw j hj, by omega, by omega, fc9.1, fm9.1, (pm_eqI (by rw [fc9.2.2.1, fm9.2.2, hg])), (by rw [fc9.2.1, fm9.2.1, he0]), fc9.2.2.2.1, (nm_draw hM (by omega)), (fc9.2.2.2.2 hB)⟩ (by omega) (by omega)

set_option maxRecDepth 100000 in
set_option maxHeartbeats 2000000 in
theorem lx_b14 (hC : pm_Cl l g (lw_ro b L xs) 7 600000 7302250 lw_Rt bk_L_law J) {i : Int32} (hi : 0 ≤ i.toInt ∧ i.toInt + 6 ≤ L) (hL : L ≤ 3072) {E : Nat} (hE : E < 1000) {A : pm_H} {c s : Nat} (hA : LX g xo h E A) (hc : c + 4 ≤ 600000) (hs0 : s + 485 ≤ 7302250) (cont : ∀ (A' : pm_H) (c' s' : Nat), LX g xo h (E + 1) A' → c' ≤ c + 4 → s' ≤ s + 485 → J 2563 [some (.ref b), some (.ref xo), some (.ref h), some (.int i)] [] A' c' s') : J 764 [some (.ref b), some (.ref xo), some (.ref h), some (.int i)] [] A c s := by
  obtain ⟨A00, K, nn, dn, q, w, e, v, f, mq, mv, mf, M, rfl, rfl, hI, hS, D, hv, hf, dj, hw, hE1, hE2, hR1, hR2, hg, he0, hN, hM, hB⟩ := hA
  have hu9 := hI.2.1
  unfold cw_W at hu9
  have hro : lw_ro b L xs b = some (L, xs) := if_pos rfl
  refine hC.1 14 764 _ _ rfl _ _ _ _ _ ?_
  refine pq_aload_n1 (pq_aload_n0 (pq_iload_n3 (pq_iconst (pq_iadd ?_))))
  intro m1 em1
  have e1 : m1.toInt = i.toInt + 1 := lx_ad1 hi hL em1
  refine pq_iaload ?_
  refine Exists.intro _ (Exists.intro _ (And.intro (Or.inr hro) (And.intro (lx_bn1 hi e1) ?_)))
  obtain ⟨a1, ha1⟩ : ∃ z9, z9 = xs m1.toInt.toNat := ⟨_, rfl⟩
  have m_a1 := em1
  rw [← ha1]
  refine pq_aload_n0 (pq_iload_n3 (pq_iconst (pq_iadd ?_)))
  intro m2 em2
  have e2 : m2.toInt = i.toInt + 2 := lx_ad2 hi hL em2
  refine pq_iaload ?_
  refine Exists.intro _ (Exists.intro _ (And.intro (Or.inr hro) (And.intro (lx_bn2 hi e2) ?_)))
  obtain ⟨a2, ha2⟩ : ∃ z9, z9 = xs m2.toInt.toNat := ⟨_, rfl⟩
  have m_a2 := em2
  rw [← ha2]
  refine pq_iv2_10 ?_
  refine And.intro (Exists.intro _ (cw_o0 hI.1)) (Exists.intro _ (Exists.intro _ (Exists.intro _ (Exists.intro _ (And.intro (c_X10_weigh hI hS a1 a2 ) (And.intro (lw_bnd rfl (lx_c1 hc (by decide)) (lx_c1 hs0 (by decide)) rfl) (fun r9 A9 h9 => ?_)))))))
  obtain ⟨e775, y775, rfl, rfl, hI775, h40_775, hc775⟩ := lx_wc hI h9
  refine pq_id1 (pq_pop (pq_aload_n2 (pq_aload_n0 (pq_iload_n3 (pq_iconst (pq_iadd ?_))))))
  intro m3 em3
  have e3 : m3.toInt = i.toInt + 1 := lx_ad1 hi hL em3
  refine pq_iaload ?_
  refine Exists.intro _ (Exists.intro _ (And.intro (Or.inr hro) (And.intro (lx_bn1 hi e3) ?_)))
  have ha1_3 : a1 = xs m3.toInt.toNat := by rw [ha1, em3, ← m_a1]
  rw [← ha1_3]
  refine pq_aload_n0 (pq_iload_n3 (pq_iconst (pq_iadd ?_)))
  intro m4 em4
  have e4 : m4.toInt = i.toInt + 2 := lx_ad2 hi hL em4
  refine pq_iaload ?_
  refine Exists.intro _ (Exists.intro _ (And.intro (Or.inr hro) (And.intro (lx_bn2 hi e4) ?_)))
  have ha2_4 : a2 = xs m4.toInt.toNat := by rw [ha2, em4, ← m_a2]
  rw [← ha2_4]
  refine pq_iv2_11 ?_
  rw [cw_md D dj]
  refine And.intro (Exists.intro _ (md_o)) (Exists.intro _ (Exists.intro _ (Exists.intro _ (Exists.intro _ (And.intro (c_X11_weigh D mv mf hv hf a1 a2 ) (And.intro (lw_bnd rfl (lx_c2 hc (by decide)) (lx_c2 hs0 (by decide)) rfl) (fun r9 A9 h9 => ?_)))))))
  obtain ⟨mf790, y790, rfl, rfl, hf790, h01_790, hm790⟩ := lx_wm D hf h9
  refine pq_id1 (pq_pop (pq_goto ?_))
  clear hu9
  exact cont _ _ _ ⟨A00, K, nn, dn, q, w, e775, v, f, mq, mv, mf790, M, (cw_md D dj).symm, rfl, hI775, hS, D, hv, hf790, dj, lx_ww hw hc775 hm790, by omega, by omega, (rp_fr hR1 rfl (h40_775 (nn + 1) (by omega)) (h40_775 (nn + 2) (by omega))), (rp_fr hR2 rfl h01_790.1 h01_790.2), hg, (by omega), hN, hM, (bd_fr hB rfl (h40_775 (nn + 1) (by omega)) (h40_775 (nn + 3) (by omega)))⟩ (by omega) (by omega)
end
end
section
section
variable {l : Launch} {g : pm_G} {b L : Nat} {xs : Nat → Int32} {J : pm_J} {xo h : Nat}
set_option maxRecDepth 100000 in
set_option maxHeartbeats 2000000 in
theorem lx_b15 (hC : pm_Cl l g (lw_ro b L xs) 7 600000 7302250 lw_Rt bk_L_law J) {i : Int32} (hi : 0 ≤ i.toInt ∧ i.toInt + 6 ≤ L) (hL : L ≤ 3072) {E : Nat} (hE : E < 1000) {A : pm_H} {c s : Nat} (hA : LX g xo h E A) (hc : c + 4 ≤ 600000) (hs0 : s + 485 ≤ 7302250) (cont : ∀ (A' : pm_H) (c' s' : Nat), LX g xo h (E + 1) A' → c' ≤ c + 4 → s' ≤ s + 485 → J 2563 [some (.ref b), some (.ref xo), some (.ref h), some (.int i)] [] A' c' s') : J 797 [some (.ref b), some (.ref xo), some (.ref h), some (.int i)] [] A c s := by
  obtain ⟨A00, K, nn, dn, q, w, e, v, f, mq, mv, mf, M, rfl, rfl, hI, hS, D, hv, hf, dj, hw, hE1, hE2, hR1, hR2, hg, he0, hN, hM, hB⟩ := hA
  have hu9 := hI.2.1
  unfold cw_W at hu9
  have hro : lw_ro b L xs b = some (L, xs) := if_pos rfl
  refine hC.1 15 797 _ _ rfl _ _ _ _ _ ?_
  refine pq_aload_n1 (pq_aload_n0 (pq_iload_n3 (pq_iconst (pq_iadd ?_))))
  intro m1 em1
  have e1 : m1.toInt = i.toInt + 1 := lx_ad1 hi hL em1
  refine pq_iaload ?_
  refine Exists.intro _ (Exists.intro _ (And.intro (Or.inr hro) (And.intro (lx_bn1 hi e1) ?_)))
  obtain ⟨a1, ha1⟩ : ∃ z9, z9 = xs m1.toInt.toNat := ⟨_, rfl⟩
  have m_a1 := em1
  rw [← ha1]
  refine pq_aload_n0 (pq_iload_n3 (pq_iconst (pq_iadd ?_)))
  intro m2 em2
  have e2 : m2.toInt = i.toInt + 2 := lx_ad2 hi hL em2
  refine pq_iaload ?_
  refine Exists.intro _ (Exists.intro _ (And.intro (Or.inr hro) (And.intro (lx_bn2 hi e2) ?_)))
  obtain ⟨a2, ha2⟩ : ∃ z9, z9 = xs m2.toInt.toNat := ⟨_, rfl⟩
  have m_a2 := em2
  rw [← ha2]
  refine pq_iv2_10 ?_
  refine And.intro (Exists.intro _ (cw_o0 hI.1)) (Exists.intro _ (Exists.intro _ (Exists.intro _ (Exists.intro _ (And.intro (c_X10_at hI hS a1 a2 ) (And.intro (lw_bnd rfl (lx_c1 hc (by decide)) (lx_c1 hs0 (by decide)) rfl) (fun r9 A9 h9 => ?_)))))))
  obtain ⟨y808, rfl, rfl, by808⟩ := h9
  refine pq_id1 (pq_pop (pq_aload_n2 (pq_aload_n0 (pq_iload_n3 (pq_iconst (pq_iadd ?_))))))
  intro m3 em3
  have e3 : m3.toInt = i.toInt + 1 := lx_ad1 hi hL em3
  refine pq_iaload ?_
  refine Exists.intro _ (Exists.intro _ (And.intro (Or.inr hro) (And.intro (lx_bn1 hi e3) ?_)))
  have ha1_3 : a1 = xs m3.toInt.toNat := by rw [ha1, em3, ← m_a1]
  rw [← ha1_3]
  refine pq_aload_n0 (pq_iload_n3 (pq_iconst (pq_iadd ?_)))
  intro m4 em4
  have e4 : m4.toInt = i.toInt + 2 := lx_ad2 hi hL em4
  refine pq_iaload ?_
  refine Exists.intro _ (Exists.intro _ (And.intro (Or.inr hro) (And.intro (lx_bn2 hi e4) ?_)))
  have ha2_4 : a2 = xs m4.toInt.toNat := by rw [ha2, em4, ← m_a2]
  rw [← ha2_4]
  refine pq_iv2_11 ?_
  rw [cw_md D dj]
  refine And.intro (Exists.intro _ (md_o)) (Exists.intro _ (Exists.intro _ (Exists.intro _ (Exists.intro _ (And.intro (c_X11_at D mv mf hv hf a1 a2 ) (And.intro (lw_bnd rfl (lx_c2 hc (by decide)) (lx_c2 hs0 (by decide)) rfl) (fun r9 A9 h9 => ?_)))))))
  obtain ⟨y823, rfl, rfl, by823⟩ := h9
  refine pq_id1 (pq_pop (pq_goto ?_))
  clear hu9
  exact cont _ _ _ ⟨A00, K, nn, dn, q, w, e, v, f, mq, mv, mf, M, (cw_md D dj).symm, rfl, hI, hS, D, hv, hf, dj, fun j hj => by exact hw j hj, by omega, by omega, hR1, hR2, hg, (by omega), hN, hM, hB⟩ (by omega) (by omega)

set_option maxRecDepth 100000 in
set_option maxHeartbeats 2000000 in
theorem lx_b16 (hC : pm_Cl l g (lw_ro b L xs) 7 600000 7302250 lw_Rt bk_L_law J) {i : Int32} (hi : 0 ≤ i.toInt ∧ i.toInt + 6 ≤ L) (hL : L ≤ 3072) {E : Nat} (hE : E < 1000) {A : pm_H} {c s : Nat} (hA : LX g xo h E A) (hc : c + 4 ≤ 600000) (hs0 : s + 485 ≤ 7302250) (cont : ∀ (A' : pm_H) (c' s' : Nat), LX g xo h (E + 1) A' → c' ≤ c + 4 → s' ≤ s + 485 → J 2563 [some (.ref b), some (.ref xo), some (.ref h), some (.int i)] [] A' c' s') : J 830 [some (.ref b), some (.ref xo), some (.ref h), some (.int i)] [] A c s := by
  obtain ⟨A00, K, nn, dn, q, w, e, v, f, mq, mv, mf, M, rfl, rfl, hI, hS, D, hv, hf, dj, hw, hE1, hE2, hR1, hR2, hg, he0, hN, hM, hB⟩ := hA
  have hu9 := hI.2.1
  unfold cw_W at hu9
  have hro : lw_ro b L xs b = some (L, xs) := if_pos rfl
  refine hC.1 16 830 _ _ rfl _ _ _ _ _ ?_
  refine pq_aload_n1 (pq_aload_n0 (pq_iload_n3 (pq_iconst (pq_iadd ?_))))
  intro m1 em1
  have e1 : m1.toInt = i.toInt + 1 := lx_ad1 hi hL em1
  refine pq_iaload ?_
  refine Exists.intro _ (Exists.intro _ (And.intro (Or.inr hro) (And.intro (lx_bn1 hi e1) ?_)))
  obtain ⟨a1, ha1⟩ : ∃ z9, z9 = xs m1.toInt.toNat := ⟨_, rfl⟩
  have m_a1 := em1
  rw [← ha1]
  refine pq_iv1_10 ?_
  refine And.intro (Exists.intro _ (cw_o0 hI.1)) (Exists.intro _ (Exists.intro _ (Exists.intro _ (Exists.intro _ (And.intro (F_X10_place hI hS a1 ) (And.intro (lw_bnd rfl (lx_c1 hc (by decide)) (lx_c1 hs0 (by decide)) rfl) (fun r9 A9 h9 => ?_)))))))
  obtain ⟨y836, rfl, rfl, by836⟩ := h9
  refine pq_id1 (pq_pop (pq_aload_n2 (pq_aload_n0 (pq_iload_n3 (pq_iconst (pq_iadd ?_))))))
  intro m2 em2
  have e2 : m2.toInt = i.toInt + 1 := lx_ad1 hi hL em2
  refine pq_iaload ?_
  refine Exists.intro _ (Exists.intro _ (And.intro (Or.inr hro) (And.intro (lx_bn1 hi e2) ?_)))
  have ha1_2 : a1 = xs m2.toInt.toNat := by rw [ha1, em2, ← m_a1]
  rw [← ha1_2]
  refine pq_iv1_11 ?_
  rw [cw_md D dj]
  refine And.intro (Exists.intro _ (md_o)) (Exists.intro _ (Exists.intro _ (Exists.intro _ (Exists.intro _ (And.intro (F_X11_place D mv mf hv hf a1 ) (And.intro (lw_bnd rfl (lx_c2 hc (by decide)) (lx_c2 hs0 (by decide)) rfl) (fun r9 A9 h9 => ?_)))))))
  obtain ⟨y846, rfl, rfl, by846⟩ := h9
  refine pq_id1 (pq_pop (pq_goto ?_))
  clear hu9
  exact cont _ _ _ ⟨A00, K, nn, dn, q, w, e, v, f, mq, mv, mf, M, (cw_md D dj).symm, rfl, hI, hS, D, hv, hf, dj, fun j hj => by exact hw j hj, by omega, by omega, hR1, hR2, hg, (by omega), hN, hM, hB⟩ (by omega) (by omega)

set_option maxRecDepth 100000 in
set_option maxHeartbeats 2000000 in
theorem lx_b17 (hC : pm_Cl l g (lw_ro b L xs) 7 600000 7302250 lw_Rt bk_L_law J) {i : Int32} (hi : 0 ≤ i.toInt ∧ i.toInt + 6 ≤ L) (hL : L ≤ 3072) {E : Nat} (hE : E < 1000) {A : pm_H} {c s : Nat} (hA : LX g xo h E A) (hc : c + 4 ≤ 600000) (hs0 : s + 485 ≤ 7302250) (cont : ∀ (A' : pm_H) (c' s' : Nat), LX g xo h (E + 1) A' → c' ≤ c + 4 → s' ≤ s + 485 → J 2563 [some (.ref b), some (.ref xo), some (.ref h), some (.int i)] [] A' c' s') : J 853 [some (.ref b), some (.ref xo), some (.ref h), some (.int i)] [] A c s := by
  obtain ⟨A00, K, nn, dn, q, w, e, v, f, mq, mv, mf, M, rfl, rfl, hI, hS, D, hv, hf, dj, hw, hE1, hE2, hR1, hR2, hg, he0, hN, hM, hB⟩ := hA
  have hu9 := hI.2.1
  unfold cw_W at hu9
  have hro : lw_ro b L xs b = some (L, xs) := if_pos rfl
  refine hC.1 17 853 _ _ rfl _ _ _ _ _ ?_
  refine pq_aload_n1 (pq_aload_n0 (pq_iload_n3 (pq_iconst (pq_iadd ?_))))
  intro m1 em1
  have e1 : m1.toInt = i.toInt + 1 := lx_ad1 hi hL em1
  refine pq_iaload ?_
  refine Exists.intro _ (Exists.intro _ (And.intro (Or.inr hro) (And.intro (lx_bn1 hi e1) ?_)))
  obtain ⟨a1, ha1⟩ : ∃ z9, z9 = xs m1.toInt.toNat := ⟨_, rfl⟩
  have m_a1 := em1
  rw [← ha1]
  refine pq_aload_n0 (pq_iload_n3 (pq_iconst (pq_iadd ?_)))
  intro m2 em2
  have e2 : m2.toInt = i.toInt + 2 := lx_ad2 hi hL em2
  refine pq_iaload ?_
  refine Exists.intro _ (Exists.intro _ (And.intro (Or.inr hro) (And.intro (lx_bn2 hi e2) ?_)))
  obtain ⟨a2, ha2⟩ : ∃ z9, z9 = xs m2.toInt.toNat := ⟨_, rfl⟩
  have m_a2 := em2
  rw [← ha2]
  refine pq_iv2_10 ?_
  refine And.intro (Exists.intro _ (cw_o0 hI.1)) (Exists.intro _ (Exists.intro _ (Exists.intro _ (Exists.intro _ (And.intro (c_X10_colour hI hS a1 a2 ) (And.intro (lw_bnd rfl (lx_c1 hc (by decide)) (lx_c1 hs0 (by decide)) rfl) (fun r9 A9 h9 => ?_)))))))
  obtain ⟨y864, rfl, rfl, by864⟩ := h9
  refine pq_id1 (pq_pop (pq_aload_n2 (pq_aload_n0 (pq_iload_n3 (pq_iconst (pq_iadd ?_))))))
  intro m3 em3
  have e3 : m3.toInt = i.toInt + 1 := lx_ad1 hi hL em3
  refine pq_iaload ?_
  refine Exists.intro _ (Exists.intro _ (And.intro (Or.inr hro) (And.intro (lx_bn1 hi e3) ?_)))
  have ha1_3 : a1 = xs m3.toInt.toNat := by rw [ha1, em3, ← m_a1]
  rw [← ha1_3]
  refine pq_aload_n0 (pq_iload_n3 (pq_iconst (pq_iadd ?_)))
  intro m4 em4
  have e4 : m4.toInt = i.toInt + 2 := lx_ad2 hi hL em4
  refine pq_iaload ?_
  refine Exists.intro _ (Exists.intro _ (And.intro (Or.inr hro) (And.intro (lx_bn2 hi e4) ?_)))
  have ha2_4 : a2 = xs m4.toInt.toNat := by rw [ha2, em4, ← m_a2]
  rw [← ha2_4]
  refine pq_iv2_11 ?_
  rw [cw_md D dj]
  refine And.intro (Exists.intro _ (md_o)) (Exists.intro _ (Exists.intro _ (Exists.intro _ (Exists.intro _ (And.intro (c_X11_colour D mv mf hv hf a1 a2 ) (And.intro (lw_bnd rfl (lx_c2 hc (by decide)) (lx_c2 hs0 (by decide)) rfl) (fun r9 A9 h9 => ?_)))))))
  obtain ⟨y879, rfl, rfl, by879⟩ := h9
  refine pq_id1 (pq_pop (pq_goto ?_))
  clear hu9
  exact cont _ _ _ ⟨A00, K, nn, dn, q, w, e, v, f, mq, mv, mf, M, (cw_md D dj).symm, rfl, hI, hS, D, hv, hf, dj, fun j hj => by exact hw j hj, by omega, by omega, hR1, hR2, hg, (by omega), hN, hM, hB⟩ (by omega) (by omega)

set_option maxRecDepth 100000 in
set_option maxHeartbeats 2000000 in
theorem lx_b18 (hC : pm_Cl l g (lw_ro b L xs) 7 600000 7302250 lw_Rt bk_L_law J) {i : Int32} (hi : 0 ≤ i.toInt ∧ i.toInt + 6 ≤ L) (hL : L ≤ 3072) {E : Nat} (hE : E < 1000) {A : pm_H} {c s : Nat} (hA : LX g xo h E A) (hc : c + 4 ≤ 600000) (hs0 : s + 485 ≤ 7302250) (cont : ∀ (A' : pm_H) (c' s' : Nat), LX g xo h (E + 1) A' → c' ≤ c + 4 → s' ≤ s + 485 → J 2563 [some (.ref b), some (.ref xo), some (.ref h), some (.int i)] [] A' c' s') : J 886 [some (.ref b), some (.ref xo), some (.ref h), some (.int i)] [] A c s := by
  obtain ⟨A00, K, nn, dn, q, w, e, v, f, mq, mv, mf, M, rfl, rfl, hI, hS, D, hv, hf, dj, hw, hE1, hE2, hR1, hR2, hg, he0, hN, hM, hB⟩ := hA
  have hu9 := hI.2.1
  unfold cw_W at hu9
  have hro : lw_ro b L xs b = some (L, xs) := if_pos rfl
  refine hC.1 18 886 _ _ rfl _ _ _ _ _ ?_
  refine pq_aload_n1 (pq_aload_n0 (pq_iload_n3 (pq_iconst (pq_iadd ?_))))
  intro m1 em1
  have e1 : m1.toInt = i.toInt + 1 := lx_ad1 hi hL em1
  refine pq_iaload ?_
  refine Exists.intro _ (Exists.intro _ (And.intro (Or.inr hro) (And.intro (lx_bn1 hi e1) ?_)))
  obtain ⟨a1, ha1⟩ : ∃ z9, z9 = xs m1.toInt.toNat := ⟨_, rfl⟩
  have m_a1 := em1
  rw [← ha1]
  refine pq_aload_n0 (pq_iload_n3 (pq_iconst (pq_iadd ?_)))
  intro m2 em2
  have e2 : m2.toInt = i.toInt + 2 := lx_ad2 hi hL em2
  refine pq_iaload ?_
  refine Exists.intro _ (Exists.intro _ (And.intro (Or.inr hro) (And.intro (lx_bn2 hi e2) ?_)))
  obtain ⟨a2, ha2⟩ : ∃ z9, z9 = xs m2.toInt.toNat := ⟨_, rfl⟩
  have m_a2 := em2
  rw [← ha2]
  refine pq_iv2_10 ?_
  refine And.intro (Exists.intro _ (cw_o0 hI.1)) (Exists.intro _ (Exists.intro _ (Exists.intro _ (Exists.intro _ (And.intro (F_X10_nth hI hS a1 a2 ) (And.intro (lw_bnd rfl (lx_c1 hc (by decide)) (lx_c1 hs0 (by decide)) rfl) (fun r9 A9 h9 => ?_)))))))
  obtain ⟨y897, rfl, rfl, by897⟩ := h9
  refine pq_id1 (pq_pop (pq_aload_n2 (pq_aload_n0 (pq_iload_n3 (pq_iconst (pq_iadd ?_))))))
  intro m3 em3
  have e3 : m3.toInt = i.toInt + 1 := lx_ad1 hi hL em3
  refine pq_iaload ?_
  refine Exists.intro _ (Exists.intro _ (And.intro (Or.inr hro) (And.intro (lx_bn1 hi e3) ?_)))
  have ha1_3 : a1 = xs m3.toInt.toNat := by rw [ha1, em3, ← m_a1]
  rw [← ha1_3]
  refine pq_aload_n0 (pq_iload_n3 (pq_iconst (pq_iadd ?_)))
  intro m4 em4
  have e4 : m4.toInt = i.toInt + 2 := lx_ad2 hi hL em4
  refine pq_iaload ?_
  refine Exists.intro _ (Exists.intro _ (And.intro (Or.inr hro) (And.intro (lx_bn2 hi e4) ?_)))
  have ha2_4 : a2 = xs m4.toInt.toNat := by rw [ha2, em4, ← m_a2]
  rw [← ha2_4]
  refine pq_iv2_11 ?_
  rw [cw_md D dj]
  refine And.intro (Exists.intro _ (md_o)) (Exists.intro _ (Exists.intro _ (Exists.intro _ (Exists.intro _ (And.intro (F_X11_nth D mv mf hv hf a1 a2 ) (And.intro (lw_bnd rfl (lx_c2 hc (by decide)) (lx_c2 hs0 (by decide)) rfl) (fun r9 A9 h9 => ?_)))))))
  obtain ⟨y912, rfl, rfl, by912⟩ := h9
  refine pq_id1 (pq_pop (pq_goto ?_))
  clear hu9
  exact cont _ _ _ ⟨A00, K, nn, dn, q, w, e, v, f, mq, mv, mf, M, (cw_md D dj).symm, rfl, hI, hS, D, hv, hf, dj, fun j hj => by exact hw j hj, by omega, by omega, hR1, hR2, hg, (by omega), hN, hM, hB⟩ (by omega) (by omega)

set_option maxRecDepth 100000 in
set_option maxHeartbeats 2000000 in
theorem lx_b19 (hC : pm_Cl l g (lw_ro b L xs) 7 600000 7302250 lw_Rt bk_L_law J) {i : Int32} (hi : 0 ≤ i.toInt ∧ i.toInt + 6 ≤ L) (hL : L ≤ 3072) {E : Nat} (hE : E < 1000) {A : pm_H} {c s : Nat} (hA : LX g xo h E A) (hc : c + 4 ≤ 600000) (hs0 : s + 485 ≤ 7302250) (cont : ∀ (A' : pm_H) (c' s' : Nat), LX g xo h (E + 1) A' → c' ≤ c + 4 → s' ≤ s + 485 → J 2563 [some (.ref b), some (.ref xo), some (.ref h), some (.int i)] [] A' c' s') : J 919 [some (.ref b), some (.ref xo), some (.ref h), some (.int i)] [] A c s := by
  obtain ⟨A00, K, nn, dn, q, w, e, v, f, mq, mv, mf, M, rfl, rfl, hI, hS, D, hv, hf, dj, hw, hE1, hE2, hR1, hR2, hg, he0, hN, hM, hB⟩ := hA
  have hu9 := hI.2.1
  unfold cw_W at hu9
  have hro : lw_ro b L xs b = some (L, xs) := if_pos rfl
  refine hC.1 19 919 _ _ rfl _ _ _ _ _ ?_
  refine pq_aload_n1 (pq_aload_n0 (pq_iload_n3 (pq_iconst (pq_iadd ?_))))
  intro m1 em1
  have e1 : m1.toInt = i.toInt + 1 := lx_ad1 hi hL em1
  refine pq_iaload ?_
  refine Exists.intro _ (Exists.intro _ (And.intro (Or.inr hro) (And.intro (lx_bn1 hi e1) ?_)))
  obtain ⟨a1, ha1⟩ : ∃ z9, z9 = xs m1.toInt.toNat := ⟨_, rfl⟩
  have m_a1 := em1
  rw [← ha1]
  refine pq_iv1_10 ?_
  refine And.intro (Exists.intro _ (cw_o0 hI.1)) (Exists.intro _ (Exists.intro _ (Exists.intro _ (Exists.intro _ (And.intro (c_X10_about hI hS a1 ) (And.intro (lw_bnd rfl (lx_c1 hc (by decide)) (lx_c1 hs0 (by decide)) rfl) (fun r9 A9 h9 => ?_)))))))
  obtain ⟨v925, f925, rfl, hS925, y925, rfl, by925⟩ := h9
  refine pq_id1 (pq_pop (pq_aload_n2 (pq_aload_n0 (pq_iload_n3 (pq_iconst (pq_iadd ?_))))))
  intro m2 em2
  have e2 : m2.toInt = i.toInt + 1 := lx_ad1 hi hL em2
  refine pq_iaload ?_
  refine Exists.intro _ (Exists.intro _ (And.intro (Or.inr hro) (And.intro (lx_bn1 hi e2) ?_)))
  have ha1_2 : a1 = xs m2.toInt.toNat := by rw [ha1, em2, ← m_a1]
  rw [← ha1_2]
  refine pq_iv1_11 ?_
  rw [cw_md D dj]
  refine And.intro (Exists.intro _ (md_o)) (Exists.intro _ (Exists.intro _ (Exists.intro _ (Exists.intro _ (And.intro (c_X11_about D mv mf hv hf a1 ) (And.intro (lw_bnd rfl (lx_c2 hc (by decide)) (lx_c2 hs0 (by decide)) rfl) (fun r9 A9 h9 => ?_)))))))
  obtain ⟨y935, rfl, rfl, by935⟩ := h9
  refine pq_id1 (pq_pop (pq_goto ?_))
  clear hu9
  exact cont _ _ _ ⟨A00, K, nn, dn, q, w, e, v925, f925, mq, mv, mf, M, (cw_md D dj).symm, rfl, hI, hS925, D, hv, hf, dj, fun j hj => by exact hw j hj, by omega, by omega, hR1, hR2, hg, (by omega), hN, hM, hB⟩ (by omega) (by omega)

set_option maxRecDepth 100000 in
set_option maxHeartbeats 2000000 in
theorem lx_b20 (hC : pm_Cl l g (lw_ro b L xs) 7 600000 7302250 lw_Rt bk_L_law J) {i : Int32} (hi : 0 ≤ i.toInt ∧ i.toInt + 6 ≤ L) (hL : L ≤ 3072) {E : Nat} (hE : E < 1000) {A : pm_H} {c s : Nat} (hA : LX g xo h E A) (hc : c + 4 ≤ 600000) (hs0 : s + 485 ≤ 7302250) (cont : ∀ (A' : pm_H) (c' s' : Nat), LX g xo h (E + 1) A' → c' ≤ c + 4 → s' ≤ s + 485 → J 2563 [some (.ref b), some (.ref xo), some (.ref h), some (.int i)] [] A' c' s') : J 942 [some (.ref b), some (.ref xo), some (.ref h), some (.int i)] [] A c s := by
  obtain ⟨A00, K, nn, dn, q, w, e, v, f, mq, mv, mf, M, rfl, rfl, hI, hS, D, hv, hf, dj, hw, hE1, hE2, hR1, hR2, hg, he0, hN, hM, hB⟩ := hA
  have hu9 := hI.2.1
  unfold cw_W at hu9
  have hro : lw_ro b L xs b = some (L, xs) := if_pos rfl
  refine hC.1 20 942 _ _ rfl _ _ _ _ _ ?_
  refine pq_aload_n1 (pq_aload_n0 (pq_iload_n3 (pq_iconst (pq_iadd ?_))))
  intro m1 em1
  have e1 : m1.toInt = i.toInt + 1 := lx_ad1 hi hL em1
  refine pq_iaload ?_
  refine Exists.intro _ (Exists.intro _ (And.intro (Or.inr hro) (And.intro (lx_bn1 hi e1) ?_)))
  obtain ⟨a1, ha1⟩ : ∃ z9, z9 = xs m1.toInt.toNat := ⟨_, rfl⟩
  have m_a1 := em1
  rw [← ha1]
  refine pq_aload_n0 (pq_iload_n3 (pq_iconst (pq_iadd ?_)))
  intro m2 em2
  have e2 : m2.toInt = i.toInt + 2 := lx_ad2 hi hL em2
  refine pq_iaload ?_
  refine Exists.intro _ (Exists.intro _ (And.intro (Or.inr hro) (And.intro (lx_bn2 hi e2) ?_)))
  obtain ⟨a2, ha2⟩ : ∃ z9, z9 = xs m2.toInt.toNat := ⟨_, rfl⟩
  have m_a2 := em2
  rw [← ha2]
  refine pq_iv2_10 ?_
  refine And.intro (Exists.intro _ (cw_o0 hI.1)) (Exists.intro _ (Exists.intro _ (Exists.intro _ (Exists.intro _ (And.intro (c_X10_count hI hS a1 a2 ) (And.intro (lw_bnd rfl (lx_c1 hc (by decide)) (lx_c1 hs0 (by decide)) rfl) (fun r9 A9 h9 => ?_)))))))
  obtain ⟨v953, f953, rfl, hS953, y953, rfl, by953⟩ := h9
  refine pq_id1 (pq_pop (pq_aload_n2 (pq_aload_n0 (pq_iload_n3 (pq_iconst (pq_iadd ?_))))))
  intro m3 em3
  have e3 : m3.toInt = i.toInt + 1 := lx_ad1 hi hL em3
  refine pq_iaload ?_
  refine Exists.intro _ (Exists.intro _ (And.intro (Or.inr hro) (And.intro (lx_bn1 hi e3) ?_)))
  have ha1_3 : a1 = xs m3.toInt.toNat := by rw [ha1, em3, ← m_a1]
  rw [← ha1_3]
  refine pq_aload_n0 (pq_iload_n3 (pq_iconst (pq_iadd ?_)))
  intro m4 em4
  have e4 : m4.toInt = i.toInt + 2 := lx_ad2 hi hL em4
  refine pq_iaload ?_
  refine Exists.intro _ (Exists.intro _ (And.intro (Or.inr hro) (And.intro (lx_bn2 hi e4) ?_)))
  have ha2_4 : a2 = xs m4.toInt.toNat := by rw [ha2, em4, ← m_a2]
  rw [← ha2_4]
  refine pq_iv2_11 ?_
  rw [cw_md D dj]
  refine And.intro (Exists.intro _ (md_o)) (Exists.intro _ (Exists.intro _ (Exists.intro _ (Exists.intro _ (And.intro (c_X11_count D mv mf hv hf a1 a2 ) (And.intro (lw_bnd rfl (lx_c2 hc (by decide)) (lx_c2 hs0 (by decide)) rfl) (fun r9 A9 h9 => ?_)))))))
  obtain ⟨y968, rfl, rfl, by968⟩ := h9
  refine pq_id1 (pq_pop (pq_goto ?_))
  clear hu9
  exact cont _ _ _ ⟨A00, K, nn, dn, q, w, e, v953, f953, mq, mv, mf, M, (cw_md D dj).symm, rfl, hI, hS953, D, hv, hf, dj, fun j hj => by exact hw j hj, by omega, by omega, hR1, hR2, hg, (by omega), hN, hM, hB⟩ (by omega) (by omega)

set_option maxRecDepth 100000 in
set_option maxHeartbeats 2000000 in
theorem lx_b21 (hC : pm_Cl l g (lw_ro b L xs) 7 600000 7302250 lw_Rt bk_L_law J) {i : Int32} (hi : 0 ≤ i.toInt ∧ i.toInt + 6 ≤ L) (hL : L ≤ 3072) {E : Nat} (hE : E < 1000) {A : pm_H} {c s : Nat} (hA : LX g xo h E A) (hc : c + 4 ≤ 600000) (hs0 : s + 485 ≤ 7302250) (cont : ∀ (A' : pm_H) (c' s' : Nat), LX g xo h (E + 1) A' → c' ≤ c + 4 → s' ≤ s + 485 → J 2563 [some (.ref b), some (.ref xo), some (.ref h), some (.int i)] [] A' c' s') : J 975 [some (.ref b), some (.ref xo), some (.ref h), some (.int i)] [] A c s := by
  obtain ⟨A00, K, nn, dn, q, w, e, v, f, mq, mv, mf, M, rfl, rfl, hI, hS, D, hv, hf, dj, hw, hE1, hE2, hR1, hR2, hg, he0, hN, hM, hB⟩ := hA
  have hu9 := hI.2.1
  unfold cw_W at hu9
  have hro : lw_ro b L xs b = some (L, xs) := if_pos rfl
  refine hC.1 21 975 _ _ rfl _ _ _ _ _ ?_
  refine pq_aload_n1 (pq_aload_n0 (pq_iload_n3 (pq_iconst (pq_iadd ?_))))
  intro m1 em1
  have e1 : m1.toInt = i.toInt + 1 := lx_ad1 hi hL em1
  refine pq_iaload ?_
  refine Exists.intro _ (Exists.intro _ (And.intro (Or.inr hro) (And.intro (lx_bn1 hi e1) ?_)))
  obtain ⟨a1, ha1⟩ : ∃ z9, z9 = xs m1.toInt.toNat := ⟨_, rfl⟩
  have m_a1 := em1
  rw [← ha1]
  refine pq_aload_n0 (pq_iload_n3 (pq_iconst (pq_iadd ?_)))
  intro m2 em2
  have e2 : m2.toInt = i.toInt + 2 := lx_ad2 hi hL em2
  refine pq_iaload ?_
  refine Exists.intro _ (Exists.intro _ (And.intro (Or.inr hro) (And.intro (lx_bn2 hi e2) ?_)))
  obtain ⟨a2, ha2⟩ : ∃ z9, z9 = xs m2.toInt.toNat := ⟨_, rfl⟩
  have m_a2 := em2
  rw [← ha2]
  refine pq_iv2_10 ?_
  refine And.intro (Exists.intro _ (cw_o0 hI.1)) (Exists.intro _ (Exists.intro _ (Exists.intro _ (Exists.intro _ (And.intro (c_X10_weight hI hS a1 a2 ) (And.intro (lw_bnd rfl (lx_c1 hc (by decide)) (lx_c1 hs0 (by decide)) rfl) (fun r9 A9 h9 => ?_)))))))
  obtain ⟨v986, f986, rfl, hS986, y986, rfl, by986⟩ := h9
  refine pq_id1 (pq_pop (pq_aload_n2 (pq_aload_n0 (pq_iload_n3 (pq_iconst (pq_iadd ?_))))))
  intro m3 em3
  have e3 : m3.toInt = i.toInt + 1 := lx_ad1 hi hL em3
  refine pq_iaload ?_
  refine Exists.intro _ (Exists.intro _ (And.intro (Or.inr hro) (And.intro (lx_bn1 hi e3) ?_)))
  have ha1_3 : a1 = xs m3.toInt.toNat := by rw [ha1, em3, ← m_a1]
  rw [← ha1_3]
  refine pq_aload_n0 (pq_iload_n3 (pq_iconst (pq_iadd ?_)))
  intro m4 em4
  have e4 : m4.toInt = i.toInt + 2 := lx_ad2 hi hL em4
  refine pq_iaload ?_
  refine Exists.intro _ (Exists.intro _ (And.intro (Or.inr hro) (And.intro (lx_bn2 hi e4) ?_)))
  have ha2_4 : a2 = xs m4.toInt.toNat := by rw [ha2, em4, ← m_a2]
  rw [← ha2_4]
  refine pq_iv2_11 ?_
  rw [cw_md D dj]
  refine And.intro (Exists.intro _ (md_o)) (Exists.intro _ (Exists.intro _ (Exists.intro _ (Exists.intro _ (And.intro (c_X11_weight D mv mf hv hf a1 a2 ) (And.intro (lw_bnd rfl (lx_c2 hc (by decide)) (lx_c2 hs0 (by decide)) rfl) (fun r9 A9 h9 => ?_)))))))
  obtain ⟨y1001, rfl, rfl, by1001⟩ := h9
  refine pq_id1 (pq_pop (pq_goto ?_))
  clear hu9
  exact cont _ _ _ ⟨A00, K, nn, dn, q, w, e, v986, f986, mq, mv, mf, M, (cw_md D dj).symm, rfl, hI, hS986, D, hv, hf, dj, fun j hj => by exact hw j hj, by omega, by omega, hR1, hR2, hg, (by omega), hN, hM, hB⟩ (by omega) (by omega)

set_option maxRecDepth 100000 in
set_option maxHeartbeats 2000000 in
theorem lx_b22 (hC : pm_Cl l g (lw_ro b L xs) 7 600000 7302250 lw_Rt bk_L_law J) {i : Int32} (hi : 0 ≤ i.toInt ∧ i.toInt + 6 ≤ L) (hL : L ≤ 3072) {E : Nat} (hE : E < 1000) {A : pm_H} {c s : Nat} (hA : LX g xo h E A) (hc : c + 4 ≤ 600000) (hs0 : s + 485 ≤ 7302250) (cont : ∀ (A' : pm_H) (c' s' : Nat), LX g xo h (E + 1) A' → c' ≤ c + 4 → s' ≤ s + 485 → J 2563 [some (.ref b), some (.ref xo), some (.ref h), some (.int i)] [] A' c' s') : J 1008 [some (.ref b), some (.ref xo), some (.ref h), some (.int i)] [] A c s := by
  obtain ⟨A00, K, nn, dn, q, w, e, v, f, mq, mv, mf, M, rfl, rfl, hI, hS, D, hv, hf, dj, hw, hE1, hE2, hR1, hR2, hg, he0, hN, hM, hB⟩ := hA
  have hu9 := hI.2.1
  unfold cw_W at hu9
  have hro : lw_ro b L xs b = some (L, xs) := if_pos rfl
  refine hC.1 22 1008 _ _ rfl _ _ _ _ _ ?_
  refine pq_aload_n1 (pq_aload_n0 (pq_iload_n3 (pq_iconst (pq_iadd ?_))))
  intro m1 em1
  have e1 : m1.toInt = i.toInt + 1 := lx_ad1 hi hL em1
  refine pq_iaload ?_
  refine Exists.intro _ (Exists.intro _ (And.intro (Or.inr hro) (And.intro (lx_bn1 hi e1) ?_)))
  obtain ⟨a1, ha1⟩ : ∃ z9, z9 = xs m1.toInt.toNat := ⟨_, rfl⟩
  have m_a1 := em1
  rw [← ha1]
  refine pq_aload_n0 (pq_iload_n3 (pq_iconst (pq_iadd ?_)))
  intro m2 em2
  have e2 : m2.toInt = i.toInt + 2 := lx_ad2 hi hL em2
  refine pq_iaload ?_
  refine Exists.intro _ (Exists.intro _ (And.intro (Or.inr hro) (And.intro (lx_bn2 hi e2) ?_)))
  obtain ⟨a2, ha2⟩ : ∃ z9, z9 = xs m2.toInt.toNat := ⟨_, rfl⟩
  have m_a2 := em2
  rw [← ha2]
  refine pq_iv2_10 ?_
  refine And.intro (Exists.intro _ (cw_o0 hI.1)) (Exists.intro _ (Exists.intro _ (Exists.intro _ (Exists.intro _ (And.intro (c_X10_set hI hS a1 a2 ) (And.intro (lw_bnd rfl (lx_c1 hc (by decide)) (lx_c1 hs0 (by decide)) rfl) (fun r9 A9 h9 => ?_)))))))
  obtain ⟨v1019, f1019, rfl, hS1019, y1019, rfl, by1019⟩ := h9
  refine pq_id1 (pq_pop (pq_aload_n2 (pq_aload_n0 (pq_iload_n3 (pq_iconst (pq_iadd ?_))))))
  intro m3 em3
  have e3 : m3.toInt = i.toInt + 1 := lx_ad1 hi hL em3
  refine pq_iaload ?_
  refine Exists.intro _ (Exists.intro _ (And.intro (Or.inr hro) (And.intro (lx_bn1 hi e3) ?_)))
  have ha1_3 : a1 = xs m3.toInt.toNat := by rw [ha1, em3, ← m_a1]
  rw [← ha1_3]
  refine pq_aload_n0 (pq_iload_n3 (pq_iconst (pq_iadd ?_)))
  intro m4 em4
  have e4 : m4.toInt = i.toInt + 2 := lx_ad2 hi hL em4
  refine pq_iaload ?_
  refine Exists.intro _ (Exists.intro _ (And.intro (Or.inr hro) (And.intro (lx_bn2 hi e4) ?_)))
  have ha2_4 : a2 = xs m4.toInt.toNat := by rw [ha2, em4, ← m_a2]
  rw [← ha2_4]
  refine pq_iv2_11 ?_
  rw [cw_md D dj]
  refine And.intro (Exists.intro _ (md_o)) (Exists.intro _ (Exists.intro _ (Exists.intro _ (Exists.intro _ (And.intro (c_X11_set D mv mf hv hf a1 a2 ) (And.intro (lw_bnd rfl (lx_c2 hc (by decide)) (lx_c2 hs0 (by decide)) rfl) (fun r9 A9 h9 => ?_)))))))
  obtain ⟨y1034, rfl, rfl, by1034⟩ := h9
  refine pq_id1 (pq_pop (pq_goto ?_))
  clear hu9
  exact cont _ _ _ ⟨A00, K, nn, dn, q, w, e, v1019, f1019, mq, mv, mf, M, (cw_md D dj).symm, rfl, hI, hS1019, D, hv, hf, dj, fun j hj => by exact hw j hj, by omega, by omega, hR1, hR2, hg, (by omega), hN, hM, hB⟩ (by omega) (by omega)

set_option maxRecDepth 100000 in
set_option maxHeartbeats 2000000 in
theorem lx_b23 (hC : pm_Cl l g (lw_ro b L xs) 7 600000 7302250 lw_Rt bk_L_law J) {i : Int32} (hi : 0 ≤ i.toInt ∧ i.toInt + 6 ≤ L) (hL : L ≤ 3072) {E : Nat} (hE : E < 1000) {A : pm_H} {c s : Nat} (hA : LX g xo h E A) (hc : c + 4 ≤ 600000) (hs0 : s + 485 ≤ 7302250) (cont : ∀ (A' : pm_H) (c' s' : Nat), LX g xo h (E + 1) A' → c' ≤ c + 4 → s' ≤ s + 485 → J 2563 [some (.ref b), some (.ref xo), some (.ref h), some (.int i)] [] A' c' s') : J 1041 [some (.ref b), some (.ref xo), some (.ref h), some (.int i)] [] A c s := by
  obtain ⟨A00, K, nn, dn, q, w, e, v, f, mq, mv, mf, M, rfl, rfl, hI, hS, D, hv, hf, dj, hw, hE1, hE2, hR1, hR2, hg, he0, hN, hM, hB⟩ := hA
  have hu9 := hI.2.1
  unfold cw_W at hu9
  have hro : lw_ro b L xs b = some (L, xs) := if_pos rfl
  refine hC.1 23 1041 _ _ rfl _ _ _ _ _ ?_
  refine pq_aload_n1 (pq_aload_n0 (pq_iload_n3 (pq_iconst (pq_iadd ?_))))
  intro m1 em1
  have e1 : m1.toInt = i.toInt + 1 := lx_ad1 hi hL em1
  refine pq_iaload ?_
  refine Exists.intro _ (Exists.intro _ (And.intro (Or.inr hro) (And.intro (lx_bn1 hi e1) ?_)))
  obtain ⟨a1, ha1⟩ : ∃ z9, z9 = xs m1.toInt.toNat := ⟨_, rfl⟩
  have m_a1 := em1
  rw [← ha1]
  refine pq_aload_n0 (pq_iload_n3 (pq_iconst (pq_iadd ?_)))
  intro m2 em2
  have e2 : m2.toInt = i.toInt + 2 := lx_ad2 hi hL em2
  refine pq_iaload ?_
  refine Exists.intro _ (Exists.intro _ (And.intro (Or.inr hro) (And.intro (lx_bn2 hi e2) ?_)))
  obtain ⟨a2, ha2⟩ : ∃ z9, z9 = xs m2.toInt.toNat := ⟨_, rfl⟩
  have m_a2 := em2
  rw [← ha2]
  refine pq_aload_n0 (pq_iload_n3 (pq_iconst (pq_iadd ?_)))
  intro m3 em3
  have e3 : m3.toInt = i.toInt + 3 := lx_ad3 hi hL em3
  refine pq_iaload ?_
  refine Exists.intro _ (Exists.intro _ (And.intro (Or.inr hro) (And.intro (lx_bn3 hi e3) ?_)))
  obtain ⟨a3, ha3⟩ : ∃ z9, z9 = xs m3.toInt.toNat := ⟨_, rfl⟩
  have m_a3 := em3
  rw [← ha3]
  refine pq_iv3_10 ?_
  refine And.intro (Exists.intro _ (cw_o0 hI.1)) (Exists.intro _ (Exists.intro _ (Exists.intro _ (Exists.intro _ (And.intro (c_X10_times hI hS a1 a2 a3 ) (And.intro (lw_bnd rfl (lx_c1 hc (by decide)) (lx_c1 hs0 (by decide)) rfl) (fun r9 A9 h9 => ?_)))))))
  obtain ⟨v1057, f1057, rfl, hS1057, y1057, rfl, by1057⟩ := h9
  refine pq_id1 (pq_pop (pq_aload_n2 (pq_aload_n0 (pq_iload_n3 (pq_iconst (pq_iadd ?_))))))
  intro m4 em4
  have e4 : m4.toInt = i.toInt + 1 := lx_ad1 hi hL em4
  refine pq_iaload ?_
  refine Exists.intro _ (Exists.intro _ (And.intro (Or.inr hro) (And.intro (lx_bn1 hi e4) ?_)))
  have ha1_4 : a1 = xs m4.toInt.toNat := by rw [ha1, em4, ← m_a1]
  rw [← ha1_4]
  refine pq_aload_n0 (pq_iload_n3 (pq_iconst (pq_iadd ?_)))
  intro m5 em5
  have e5 : m5.toInt = i.toInt + 2 := lx_ad2 hi hL em5
  refine pq_iaload ?_
  refine Exists.intro _ (Exists.intro _ (And.intro (Or.inr hro) (And.intro (lx_bn2 hi e5) ?_)))
  have ha2_5 : a2 = xs m5.toInt.toNat := by rw [ha2, em5, ← m_a2]
  rw [← ha2_5]
  refine pq_aload_n0 (pq_iload_n3 (pq_iconst (pq_iadd ?_)))
  intro m6 em6
  have e6 : m6.toInt = i.toInt + 3 := lx_ad3 hi hL em6
  refine pq_iaload ?_
  refine Exists.intro _ (Exists.intro _ (And.intro (Or.inr hro) (And.intro (lx_bn3 hi e6) ?_)))
  have ha3_6 : a3 = xs m6.toInt.toNat := by rw [ha3, em6, ← m_a3]
  rw [← ha3_6]
  refine pq_iv3_11 ?_
  rw [cw_md D dj]
  refine And.intro (Exists.intro _ (md_o)) (Exists.intro _ (Exists.intro _ (Exists.intro _ (Exists.intro _ (And.intro (c_X11_times D mv mf hv hf a1 a2 a3 ) (And.intro (lw_bnd rfl (lx_c2 hc (by decide)) (lx_c2 hs0 (by decide)) rfl) (fun r9 A9 h9 => ?_)))))))
  obtain ⟨y1077, rfl, rfl, by1077⟩ := h9
  refine pq_id1 (pq_pop (pq_goto ?_))
  clear hu9
  exact cont _ _ _ ⟨A00, K, nn, dn, q, w, e, v1057, f1057, mq, mv, mf, M, (cw_md D dj).symm, rfl, hI, hS1057, D, hv, hf, dj, fun j hj => by exact hw j hj, by omega, by omega, hR1, hR2, hg, (by omega), hN, hM, hB⟩ (by omega) (by omega)

set_option maxRecDepth 100000 in
set_option maxHeartbeats 2000000 in
theorem lx_b24 (hC : pm_Cl l g (lw_ro b L xs) 7 600000 7302250 lw_Rt bk_L_law J) {i : Int32} (hi : 0 ≤ i.toInt ∧ i.toInt + 6 ≤ L) (hL : L ≤ 3072) {E : Nat} (hE : E < 1000) {A : pm_H} {c s : Nat} (hA : LX g xo h E A) (hc : c + 4 ≤ 600000) (hs0 : s + 485 ≤ 7302250) (cont : ∀ (A' : pm_H) (c' s' : Nat), LX g xo h (E + 1) A' → c' ≤ c + 4 → s' ≤ s + 485 → J 2563 [some (.ref b), some (.ref xo), some (.ref h), some (.int i)] [] A' c' s') : J 1084 [some (.ref b), some (.ref xo), some (.ref h), some (.int i)] [] A c s := by
  obtain ⟨A00, K, nn, dn, q, w, e, v, f, mq, mv, mf, M, rfl, rfl, hI, hS, D, hv, hf, dj, hw, hE1, hE2, hR1, hR2, hg, he0, hN, hM, hB⟩ := hA
  have hu9 := hI.2.1
  unfold cw_W at hu9
  have hro : lw_ro b L xs b = some (L, xs) := if_pos rfl
  refine hC.1 24 1084 _ _ rfl _ _ _ _ _ ?_
  refine pq_aload_n1 (pq_aload_n0 (pq_iload_n3 (pq_iconst (pq_iadd ?_))))
  intro m1 em1
  have e1 : m1.toInt = i.toInt + 1 := lx_ad1 hi hL em1
  refine pq_iaload ?_
  refine Exists.intro _ (Exists.intro _ (And.intro (Or.inr hro) (And.intro (lx_bn1 hi e1) ?_)))
  obtain ⟨a1, ha1⟩ : ∃ z9, z9 = xs m1.toInt.toNat := ⟨_, rfl⟩
  have m_a1 := em1
  rw [← ha1]
  refine pq_aload_n0 (pq_iload_n3 (pq_iconst (pq_iadd ?_)))
  intro m2 em2
  have e2 : m2.toInt = i.toInt + 2 := lx_ad2 hi hL em2
  refine pq_iaload ?_
  refine Exists.intro _ (Exists.intro _ (And.intro (Or.inr hro) (And.intro (lx_bn2 hi e2) ?_)))
  obtain ⟨a2, ha2⟩ : ∃ z9, z9 = xs m2.toInt.toNat := ⟨_, rfl⟩
  have m_a2 := em2
  rw [← ha2]
  refine pq_aload_n0 (pq_iload_n3 (pq_iconst (pq_iadd ?_)))
  intro m3 em3
  have e3 : m3.toInt = i.toInt + 3 := lx_ad3 hi hL em3
  refine pq_iaload ?_
  refine Exists.intro _ (Exists.intro _ (And.intro (Or.inr hro) (And.intro (lx_bn3 hi e3) ?_)))
  obtain ⟨a3, ha3⟩ : ∃ z9, z9 = xs m3.toInt.toNat := ⟨_, rfl⟩
  have m_a3 := em3
  rw [← ha3]
  refine pq_iv3_10 ?_
  refine And.intro (Exists.intro _ (cw_o0 hI.1)) (Exists.intro _ (Exists.intro _ (Exists.intro _ (Exists.intro _ (And.intro (c_X10_often hI hS a1 a2 a3 ) (And.intro (lw_bnd rfl (lx_c1 hc (by decide)) (lx_c1 hs0 (by decide)) rfl) (fun r9 A9 h9 => ?_)))))))
  obtain ⟨v1100, f1100, rfl, hS1100, y1100, rfl, by1100⟩ := h9
  refine pq_id1 (pq_pop (pq_aload_n2 (pq_aload_n0 (pq_iload_n3 (pq_iconst (pq_iadd ?_))))))
  intro m4 em4
  have e4 : m4.toInt = i.toInt + 1 := lx_ad1 hi hL em4
  refine pq_iaload ?_
  refine Exists.intro _ (Exists.intro _ (And.intro (Or.inr hro) (And.intro (lx_bn1 hi e4) ?_)))
  have ha1_4 : a1 = xs m4.toInt.toNat := by rw [ha1, em4, ← m_a1]
  rw [← ha1_4]
  refine pq_aload_n0 (pq_iload_n3 (pq_iconst (pq_iadd ?_)))
  intro m5 em5
  have e5 : m5.toInt = i.toInt + 2 := lx_ad2 hi hL em5
  refine pq_iaload ?_
  refine Exists.intro _ (Exists.intro _ (And.intro (Or.inr hro) (And.intro (lx_bn2 hi e5) ?_)))
  have ha2_5 : a2 = xs m5.toInt.toNat := by rw [ha2, em5, ← m_a2]
  rw [← ha2_5]
  refine pq_aload_n0 (pq_iload_n3 (pq_iconst (pq_iadd ?_)))
  intro m6 em6
  have e6 : m6.toInt = i.toInt + 3 := lx_ad3 hi hL em6
  refine pq_iaload ?_
  refine Exists.intro _ (Exists.intro _ (And.intro (Or.inr hro) (And.intro (lx_bn3 hi e6) ?_)))
  have ha3_6 : a3 = xs m6.toInt.toNat := by rw [ha3, em6, ← m_a3]
  rw [← ha3_6]
  refine pq_iv3_11 ?_
  rw [cw_md D dj]
  refine And.intro (Exists.intro _ (md_o)) (Exists.intro _ (Exists.intro _ (Exists.intro _ (Exists.intro _ (And.intro (c_X11_often D mv mf hv hf a1 a2 a3 ) (And.intro (lw_bnd rfl (lx_c2 hc (by decide)) (lx_c2 hs0 (by decide)) rfl) (fun r9 A9 h9 => ?_)))))))
  obtain ⟨y1120, rfl, rfl, by1120⟩ := h9
  refine pq_id1 (pq_pop (pq_goto ?_))
  clear hu9
  exact cont _ _ _ ⟨A00, K, nn, dn, q, w, e, v1100, f1100, mq, mv, mf, M, (cw_md D dj).symm, rfl, hI, hS1100, D, hv, hf, dj, fun j hj => by exact hw j hj, by omega, by omega, hR1, hR2, hg, (by omega), hN, hM, hB⟩ (by omega) (by omega)

set_option maxRecDepth 100000 in
set_option maxHeartbeats 2000000 in
theorem lx_b25 (hC : pm_Cl l g (lw_ro b L xs) 7 600000 7302250 lw_Rt bk_L_law J) {i : Int32} (hi : 0 ≤ i.toInt ∧ i.toInt + 6 ≤ L) (hL : L ≤ 3072) {E : Nat} (hE : E < 1000) {A : pm_H} {c s : Nat} (hA : LX g xo h E A) (hc : c + 4 ≤ 600000) (hs0 : s + 485 ≤ 7302250) (cont : ∀ (A' : pm_H) (c' s' : Nat), LX g xo h (E + 1) A' → c' ≤ c + 4 → s' ≤ s + 485 → J 2563 [some (.ref b), some (.ref xo), some (.ref h), some (.int i)] [] A' c' s') : J 1127 [some (.ref b), some (.ref xo), some (.ref h), some (.int i)] [] A c s := by
  obtain ⟨A00, K, nn, dn, q, w, e, v, f, mq, mv, mf, M, rfl, rfl, hI, hS, D, hv, hf, dj, hw, hE1, hE2, hR1, hR2, hg, he0, hN, hM, hB⟩ := hA
  have hu9 := hI.2.1
  unfold cw_W at hu9
  have hro : lw_ro b L xs b = some (L, xs) := if_pos rfl
  refine hC.1 25 1127 _ _ rfl _ _ _ _ _ ?_
  refine pq_aload_n1 (pq_aload_n0 (pq_iload_n3 (pq_iconst (pq_iadd ?_))))
  intro m1 em1
  have e1 : m1.toInt = i.toInt + 1 := lx_ad1 hi hL em1
  refine pq_iaload ?_
  refine Exists.intro _ (Exists.intro _ (And.intro (Or.inr hro) (And.intro (lx_bn1 hi e1) ?_)))
  obtain ⟨a1, ha1⟩ : ∃ z9, z9 = xs m1.toInt.toNat := ⟨_, rfl⟩
  have m_a1 := em1
  rw [← ha1]
  refine pq_aload_n0 (pq_iload_n3 (pq_iconst (pq_iadd ?_)))
  intro m2 em2
  have e2 : m2.toInt = i.toInt + 2 := lx_ad2 hi hL em2
  refine pq_iaload ?_
  refine Exists.intro _ (Exists.intro _ (And.intro (Or.inr hro) (And.intro (lx_bn2 hi e2) ?_)))
  obtain ⟨a2, ha2⟩ : ∃ z9, z9 = xs m2.toInt.toNat := ⟨_, rfl⟩
  have m_a2 := em2
  rw [← ha2]
  refine pq_aload_n0 (pq_iload_n3 (pq_iconst (pq_iadd ?_)))
  intro m3 em3
  have e3 : m3.toInt = i.toInt + 3 := lx_ad3 hi hL em3
  refine pq_iaload ?_
  refine Exists.intro _ (Exists.intro _ (And.intro (Or.inr hro) (And.intro (lx_bn3 hi e3) ?_)))
  obtain ⟨a3, ha3⟩ : ∃ z9, z9 = xs m3.toInt.toNat := ⟨_, rfl⟩
  have m_a3 := em3
  rw [← ha3]
  refine pq_aload_n0 (pq_iload_n3 (pq_iconst (pq_iadd ?_)))
  intro m4 em4
  have e4 : m4.toInt = i.toInt + 4 := lx_ad4 hi hL em4
  refine pq_iaload ?_
  refine Exists.intro _ (Exists.intro _ (And.intro (Or.inr hro) (And.intro (lx_bn4 hi e4) ?_)))
  obtain ⟨a4, ha4⟩ : ∃ z9, z9 = xs m4.toInt.toNat := ⟨_, rfl⟩
  have m_a4 := em4
  rw [← ha4]
  refine pq_iv4_10 ?_
  refine And.intro (Exists.intro _ (cw_o0 hI.1)) (Exists.intro _ (Exists.intro _ (Exists.intro _ (Exists.intro _ (And.intro (c_X10_report hI hS a1 a2 a3 a4 ) (And.intro (lw_bnd rfl (lx_c1 hc (by decide)) (lx_c1 hs0 (by decide)) rfl) (fun r9 A9 h9 => ?_)))))))
  obtain ⟨v1148, f1148, rfl, hS1148, y1148, rfl, by1148⟩ := h9
  refine pq_id1 (pq_pop (pq_aload_n2 (pq_aload_n0 (pq_iload_n3 (pq_iconst (pq_iadd ?_))))))
  intro m5 em5
  have e5 : m5.toInt = i.toInt + 1 := lx_ad1 hi hL em5
  refine pq_iaload ?_
  refine Exists.intro _ (Exists.intro _ (And.intro (Or.inr hro) (And.intro (lx_bn1 hi e5) ?_)))
  have ha1_5 : a1 = xs m5.toInt.toNat := by rw [ha1, em5, ← m_a1]
  rw [← ha1_5]
  refine pq_aload_n0 (pq_iload_n3 (pq_iconst (pq_iadd ?_)))
  intro m6 em6
  have e6 : m6.toInt = i.toInt + 2 := lx_ad2 hi hL em6
  refine pq_iaload ?_
  refine Exists.intro _ (Exists.intro _ (And.intro (Or.inr hro) (And.intro (lx_bn2 hi e6) ?_)))
  have ha2_6 : a2 = xs m6.toInt.toNat := by rw [ha2, em6, ← m_a2]
  rw [← ha2_6]
  refine pq_aload_n0 (pq_iload_n3 (pq_iconst (pq_iadd ?_)))
  intro m7 em7
  have e7 : m7.toInt = i.toInt + 3 := lx_ad3 hi hL em7
  refine pq_iaload ?_
  refine Exists.intro _ (Exists.intro _ (And.intro (Or.inr hro) (And.intro (lx_bn3 hi e7) ?_)))
  have ha3_7 : a3 = xs m7.toInt.toNat := by rw [ha3, em7, ← m_a3]
  rw [← ha3_7]
  refine pq_aload_n0 (pq_iload_n3 (pq_iconst (pq_iadd ?_)))
  intro m8 em8
  have e8 : m8.toInt = i.toInt + 4 := lx_ad4 hi hL em8
  refine pq_iaload ?_
  refine Exists.intro _ (Exists.intro _ (And.intro (Or.inr hro) (And.intro (lx_bn4 hi e8) ?_)))
  have ha4_8 : a4 = xs m8.toInt.toNat := by rw [ha4, em8, ← m_a4]
  rw [← ha4_8]
  refine pq_iv4_11 ?_
  rw [cw_md D dj]
  refine And.intro (Exists.intro _ (md_o)) (Exists.intro _ (Exists.intro _ (Exists.intro _ (Exists.intro _ (And.intro (c_X11_report D mv mf hv hf a1 a2 a3 a4 ) (And.intro (lw_bnd rfl (lx_c2 hc (by decide)) (lx_c2 hs0 (by decide)) rfl) (fun r9 A9 h9 => ?_)))))))
  obtain ⟨y1173, rfl, rfl, by1173⟩ := h9
  refine pq_id1 (pq_pop (pq_goto ?_))
  clear hu9
  exact cont _ _ _ ⟨A00, K, nn, dn, q, w, e, v1148, f1148, mq, mv, mf, M, (cw_md D dj).symm, rfl, hI, hS1148, D, hv, hf, dj, fun j hj => by exact hw j hj, by omega, by omega, hR1, hR2, hg, (by omega), hN, hM, hB⟩ (by omega) (by omega)

set_option maxRecDepth 100000 in
set_option maxHeartbeats 2000000 in
theorem lx_b26 (hC : pm_Cl l g (lw_ro b L xs) 7 600000 7302250 lw_Rt bk_L_law J) {i : Int32} (hi : 0 ≤ i.toInt ∧ i.toInt + 6 ≤ L) (hL : L ≤ 3072) {E : Nat} (hE : E < 1000) {A : pm_H} {c s : Nat} (hA : LX g xo h E A) (hc : c + 4 ≤ 600000) (hs0 : s + 485 ≤ 7302250) (cont : ∀ (A' : pm_H) (c' s' : Nat), LX g xo h (E + 1) A' → c' ≤ c + 4 → s' ≤ s + 485 → J 2563 [some (.ref b), some (.ref xo), some (.ref h), some (.int i)] [] A' c' s') : J 1180 [some (.ref b), some (.ref xo), some (.ref h), some (.int i)] [] A c s := by
  obtain ⟨A00, K, nn, dn, q, w, e, v, f, mq, mv, mf, M, rfl, rfl, hI, hS, D, hv, hf, dj, hw, hE1, hE2, hR1, hR2, hg, he0, hN, hM, hB⟩ := hA
  have hu9 := hI.2.1
  unfold cw_W at hu9
  have hro : lw_ro b L xs b = some (L, xs) := if_pos rfl
  refine hC.1 26 1180 _ _ rfl _ _ _ _ _ ?_
  refine pq_aload_n1 (pq_aload_n0 (pq_iload_n3 (pq_iconst (pq_iadd ?_))))
  intro m1 em1
  have e1 : m1.toInt = i.toInt + 1 := lx_ad1 hi hL em1
  refine pq_iaload ?_
  refine Exists.intro _ (Exists.intro _ (And.intro (Or.inr hro) (And.intro (lx_bn1 hi e1) ?_)))
  obtain ⟨a1, ha1⟩ : ∃ z9, z9 = xs m1.toInt.toNat := ⟨_, rfl⟩
  have m_a1 := em1
  rw [← ha1]
  refine pq_aload_n0 (pq_iload_n3 (pq_iconst (pq_iadd ?_)))
  intro m2 em2
  have e2 : m2.toInt = i.toInt + 2 := lx_ad2 hi hL em2
  refine pq_iaload ?_
  refine Exists.intro _ (Exists.intro _ (And.intro (Or.inr hro) (And.intro (lx_bn2 hi e2) ?_)))
  obtain ⟨a2, ha2⟩ : ∃ z9, z9 = xs m2.toInt.toNat := ⟨_, rfl⟩
  have m_a2 := em2
  rw [← ha2]
  refine pq_aload_n0 (pq_iload_n3 (pq_iconst (pq_iadd ?_)))
  intro m3 em3
  have e3 : m3.toInt = i.toInt + 3 := lx_ad3 hi hL em3
  refine pq_iaload ?_
  refine Exists.intro _ (Exists.intro _ (And.intro (Or.inr hro) (And.intro (lx_bn3 hi e3) ?_)))
  obtain ⟨a3, ha3⟩ : ∃ z9, z9 = xs m3.toInt.toNat := ⟨_, rfl⟩
  have m_a3 := em3
  rw [← ha3]
  refine pq_aload_n0 (pq_iload_n3 (pq_iconst (pq_iadd ?_)))
  intro m4 em4
  have e4 : m4.toInt = i.toInt + 4 := lx_ad4 hi hL em4
  refine pq_iaload ?_
  refine Exists.intro _ (Exists.intro _ (And.intro (Or.inr hro) (And.intro (lx_bn4 hi e4) ?_)))
  obtain ⟨a4, ha4⟩ : ∃ z9, z9 = xs m4.toInt.toNat := ⟨_, rfl⟩
  have m_a4 := em4
  rw [← ha4]
  refine pq_iv4_10 ?_
  refine And.intro (Exists.intro _ (cw_o0 hI.1)) (Exists.intro _ (Exists.intro _ (Exists.intro _ (Exists.intro _ (And.intro (c_X10_kth hI hS a1 a2 a3 a4 ) (And.intro (lw_bnd rfl (lx_c1 hc (by decide)) (lx_c1 hs0 (by decide)) rfl) (fun r9 A9 h9 => ?_)))))))
  obtain ⟨v1201, f1201, rfl, hS1201, y1201, rfl, by1201⟩ := h9
  refine pq_id1 (pq_pop (pq_aload_n2 (pq_aload_n0 (pq_iload_n3 (pq_iconst (pq_iadd ?_))))))
  intro m5 em5
  have e5 : m5.toInt = i.toInt + 1 := lx_ad1 hi hL em5
  refine pq_iaload ?_
  refine Exists.intro _ (Exists.intro _ (And.intro (Or.inr hro) (And.intro (lx_bn1 hi e5) ?_)))
  have ha1_5 : a1 = xs m5.toInt.toNat := by rw [ha1, em5, ← m_a1]
  rw [← ha1_5]
  refine pq_aload_n0 (pq_iload_n3 (pq_iconst (pq_iadd ?_)))
  intro m6 em6
  have e6 : m6.toInt = i.toInt + 2 := lx_ad2 hi hL em6
  refine pq_iaload ?_
  refine Exists.intro _ (Exists.intro _ (And.intro (Or.inr hro) (And.intro (lx_bn2 hi e6) ?_)))
  have ha2_6 : a2 = xs m6.toInt.toNat := by rw [ha2, em6, ← m_a2]
  rw [← ha2_6]
  refine pq_aload_n0 (pq_iload_n3 (pq_iconst (pq_iadd ?_)))
  intro m7 em7
  have e7 : m7.toInt = i.toInt + 3 := lx_ad3 hi hL em7
  refine pq_iaload ?_
  refine Exists.intro _ (Exists.intro _ (And.intro (Or.inr hro) (And.intro (lx_bn3 hi e7) ?_)))
  have ha3_7 : a3 = xs m7.toInt.toNat := by rw [ha3, em7, ← m_a3]
  rw [← ha3_7]
  refine pq_aload_n0 (pq_iload_n3 (pq_iconst (pq_iadd ?_)))
  intro m8 em8
  have e8 : m8.toInt = i.toInt + 4 := lx_ad4 hi hL em8
  refine pq_iaload ?_
  refine Exists.intro _ (Exists.intro _ (And.intro (Or.inr hro) (And.intro (lx_bn4 hi e8) ?_)))
  have ha4_8 : a4 = xs m8.toInt.toNat := by rw [ha4, em8, ← m_a4]
  rw [← ha4_8]
  refine pq_iv4_11 ?_
  rw [cw_md D dj]
  refine And.intro (Exists.intro _ (md_o)) (Exists.intro _ (Exists.intro _ (Exists.intro _ (Exists.intro _ (And.intro (F_X11_kth D mv mf hv hf a1 a2 a3 a4 ) (And.intro (lw_bnd rfl (lx_c2 hc (by decide)) (lx_c2 hs0 (by decide)) rfl) (fun r9 A9 h9 => ?_)))))))
  obtain ⟨y1226, mv1226, mf1226, rfl, rfl, hv1226, hf1226, hx1226, hg1226_0, hg1226_1, by1226⟩ := h9
  refine pq_id1 (pq_pop (pq_goto ?_))
  exact cont _ _ _ ⟨A00, K, nn, dn, q, w, e, v1201, f1201, mq, mv1226, mf1226, M, (cw_md D dj).symm, rfl, hI, hS1201, D, hv1226, hf1226, dj, fun j hj => by rw [hx1226]; exact hw j hj, by omega, by omega, hR1, (rp_fr hR2 (by omega) hg1226_0 hg1226_1), (pm_eqI (by have q9 := congrArg Int32.toInt hg; omega)), (by omega), hN, hM, hB⟩ (by omega) (by omega)

set_option maxRecDepth 100000 in
set_option maxHeartbeats 2000000 in
theorem lx_b27 (hC : pm_Cl l g (lw_ro b L xs) 7 600000 7302250 lw_Rt bk_L_law J) {i : Int32} (hi : 0 ≤ i.toInt ∧ i.toInt + 6 ≤ L) (hL : L ≤ 3072) {E : Nat} (hE : E < 1000) {A : pm_H} {c s : Nat} (hA : LX g xo h E A) (hc : c + 4 ≤ 600000) (hs0 : s + 485 ≤ 7302250) (cont : ∀ (A' : pm_H) (c' s' : Nat), LX g xo h (E + 1) A' → c' ≤ c + 4 → s' ≤ s + 485 → J 2563 [some (.ref b), some (.ref xo), some (.ref h), some (.int i)] [] A' c' s') : J 1233 [some (.ref b), some (.ref xo), some (.ref h), some (.int i)] [] A c s := by
  obtain ⟨A00, K, nn, dn, q, w, e, v, f, mq, mv, mf, M, rfl, rfl, hI, hS, D, hv, hf, dj, hw, hE1, hE2, hR1, hR2, hg, he0, hN, hM, hB⟩ := hA
  have hu9 := hI.2.1
  unfold cw_W at hu9
  have hro : lw_ro b L xs b = some (L, xs) := if_pos rfl
  refine hC.1 27 1233 _ _ rfl _ _ _ _ _ ?_
  refine pq_aload_n1 (pq_aload_n0 (pq_iload_n3 (pq_iconst (pq_iadd ?_))))
  intro m1 em1
  have e1 : m1.toInt = i.toInt + 1 := lx_ad1 hi hL em1
  refine pq_iaload ?_
  refine Exists.intro _ (Exists.intro _ (And.intro (Or.inr hro) (And.intro (lx_bn1 hi e1) ?_)))
  obtain ⟨a1, ha1⟩ : ∃ z9, z9 = xs m1.toInt.toNat := ⟨_, rfl⟩
  have m_a1 := em1
  rw [← ha1]
  refine pq_aload_n0 (pq_iload_n3 (pq_iconst (pq_iadd ?_)))
  intro m2 em2
  have e2 : m2.toInt = i.toInt + 2 := lx_ad2 hi hL em2
  refine pq_iaload ?_
  refine Exists.intro _ (Exists.intro _ (And.intro (Or.inr hro) (And.intro (lx_bn2 hi e2) ?_)))
  obtain ⟨a2, ha2⟩ : ∃ z9, z9 = xs m2.toInt.toNat := ⟨_, rfl⟩
  have m_a2 := em2
  rw [← ha2]
  refine pq_aload_n0 (pq_iload_n3 (pq_iconst (pq_iadd ?_)))
  intro m3 em3
  have e3 : m3.toInt = i.toInt + 3 := lx_ad3 hi hL em3
  refine pq_iaload ?_
  refine Exists.intro _ (Exists.intro _ (And.intro (Or.inr hro) (And.intro (lx_bn3 hi e3) ?_)))
  obtain ⟨a3, ha3⟩ : ∃ z9, z9 = xs m3.toInt.toNat := ⟨_, rfl⟩
  have m_a3 := em3
  rw [← ha3]
  refine pq_iv3_10 ?_
  refine And.intro (Exists.intro _ (cw_o0 hI.1)) (Exists.intro _ (Exists.intro _ (Exists.intro _ (Exists.intro _ (And.intro (c_X10_absent hI hS a1 a2 a3 ) (And.intro (lw_bnd rfl (lx_c1 hc (by decide)) (lx_c1 hs0 (by decide)) rfl) (fun r9 A9 h9 => ?_)))))))
  obtain ⟨v1249, f1249, rfl, hS1249, y1249, rfl, by1249⟩ := h9
  refine pq_id1 (pq_pop (pq_aload_n2 (pq_aload_n0 (pq_iload_n3 (pq_iconst (pq_iadd ?_))))))
  intro m4 em4
  have e4 : m4.toInt = i.toInt + 1 := lx_ad1 hi hL em4
  refine pq_iaload ?_
  refine Exists.intro _ (Exists.intro _ (And.intro (Or.inr hro) (And.intro (lx_bn1 hi e4) ?_)))
  have ha1_4 : a1 = xs m4.toInt.toNat := by rw [ha1, em4, ← m_a1]
  rw [← ha1_4]
  refine pq_aload_n0 (pq_iload_n3 (pq_iconst (pq_iadd ?_)))
  intro m5 em5
  have e5 : m5.toInt = i.toInt + 2 := lx_ad2 hi hL em5
  refine pq_iaload ?_
  refine Exists.intro _ (Exists.intro _ (And.intro (Or.inr hro) (And.intro (lx_bn2 hi e5) ?_)))
  have ha2_5 : a2 = xs m5.toInt.toNat := by rw [ha2, em5, ← m_a2]
  rw [← ha2_5]
  refine pq_aload_n0 (pq_iload_n3 (pq_iconst (pq_iadd ?_)))
  intro m6 em6
  have e6 : m6.toInt = i.toInt + 3 := lx_ad3 hi hL em6
  refine pq_iaload ?_
  refine Exists.intro _ (Exists.intro _ (And.intro (Or.inr hro) (And.intro (lx_bn3 hi e6) ?_)))
  have ha3_6 : a3 = xs m6.toInt.toNat := by rw [ha3, em6, ← m_a3]
  rw [← ha3_6]
  refine pq_iv3_11 ?_
  rw [cw_md D dj]
  refine And.intro (Exists.intro _ (md_o)) (Exists.intro _ (Exists.intro _ (Exists.intro _ (Exists.intro _ (And.intro (c_X11_absent D mv mf hv hf a1 a2 a3 ) (And.intro (lw_bnd rfl (lx_c2 hc (by decide)) (lx_c2 hs0 (by decide)) rfl) (fun r9 A9 h9 => ?_)))))))
  obtain ⟨y1269, rfl, rfl, by1269⟩ := h9
  refine pq_id1 (pq_pop (pq_goto ?_))
  clear hu9
  exact cont _ _ _ ⟨A00, K, nn, dn, q, w, e, v1249, f1249, mq, mv, mf, M, (cw_md D dj).symm, rfl, hI, hS1249, D, hv, hf, dj, fun j hj => by exact hw j hj, by omega, by omega, hR1, hR2, hg, (by omega), hN, hM, hB⟩ (by omega) (by omega)
end
end
