/-! two colours that stand nearest -/
theorem lastEq_ge {c : Nat → Int32} {x : Int32} : ∀ (k j : Nat), j < k → c j = x → (j : Int) ≤ lastEq c x k
  | 0, j, h, _ => by omega
  | k + 1, j, h, e => by
    show (j : Int) ≤ (if c k = x then (k : Int) else lastEq c x k)
    by_cases q : c k = x
    · rw [if_pos q]; omega
    · rw [if_neg q]
      by_cases r : j = k
      · subst r; exact absurd e q
      · exact lastEq_ge k j (by omega) e
theorem lastEq_is {c : Nat → Int32} {x : Int32} : ∀ k : Nat, 0 ≤ lastEq c x k → c (lastEq c x k).toNat = x
  | 0, h => absurd (show (0 : Int) ≤ -1 from h) (by decide)
  | k + 1, h => by
    by_cases q : c k = x
    · rw [lastEq_y q]; exact q
    · rw [lastEq_n q] at h ⊢; exact lastEq_is k h
theorem nextEq_is {c : Nat → Int32} {x : Int32} : ∀ n k : Nat, 0 ≤ nextEq c x k n → c (nextEq c x k n).toNat = x
  | 0, k, h => absurd (show (0 : Int) ≤ -1 from h) (by decide)
  | n + 1, k, h => by
    by_cases q : c k = x
    · have e : nextEq c x k (n + 1) = (k : Int) := if_pos q
      rw [e]; exact q
    · have e : nextEq c x k (n + 1) = nextEq c x (k + 1) n := if_neg q
      rw [e] at h ⊢; exact nextEq_is n (k + 1) h
theorem nextEq_le {c : Nat → Int32} {x : Int32} : ∀ (n k j : Nat), k ≤ j → j < k + n → c j = x → 0 ≤ nextEq c x k n ∧ nextEq c x k n ≤ (j : Int)
  | 0, _, _, h1, h2, _ => by omega
  | n + 1, k, j, h1, h2, h3 => by
    by_cases q : c k = x
    · have e : nextEq c x k (n + 1) = (k : Int) := if_pos q
      rw [e]; omega
    · have e : nextEq c x k (n + 1) = nextEq c x (k + 1) n := if_neg q
      rw [e]
      by_cases r : j = k
      · subst r; exact absurd h3 q
      · exact nextEq_le n (k + 1) j (by omega) (by omega) h3
def AS (c : Nat → Int32) (a b : Int32) (p q : Int) : Prop := p < q ∧ ((c p.toNat = a ∧ c q.toNat = b) ∨ (c p.toNat = b ∧ c q.toNat = a))
/-- the best of those with places p in P, q in Q -/
def AB (c : Nat → Int32) (n k : Int) (a b : Int32) (d p : Int) : Prop := (0 ≤ p ∧ 0 < d ∧ p + d < n ∧ p < k) ∧ AS c a b p (p + d) ∧ ∀ s t : Int, 0 ≤ s → s < k → t < n → AS c a b s t → d < t - s ∨ (d = t - s ∧ p ≤ s)
def AN (c : Nat → Int32) (n k : Int) (a b : Int32) : Prop := ∀ s t : Int, 0 ≤ s → s < k → t < n → ¬ AS c a b s t
/-! by their second place: one place more -/
theorem AB_w {c : Nat → Int32} {i : Int} {a b : Int32} {d p : Int} (h : AB c i i a b d p) (hi : 0 ≤ i) (hn : ∀ s : Int, 0 ≤ s → s < i → ¬ AS c a b s i) : AB c (i + 1) (i + 1) a b d p := by
  refine ⟨by have := h.1; omega, h.2.1, fun s t h1 h2 h3 h4 => ?_⟩
  have h5 := h4.1
  by_cases e : t = i
  · subst e; exact absurd h4 (hn s h1 h5)
  · exact h.2.2 s t h1 (by omega) (by omega) h4
theorem AN_w {c : Nat → Int32} {i : Int} {a b : Int32} (h : AN c i i a b) (hn : ∀ s : Int, 0 ≤ s → s < i → ¬ AS c a b s i) : AN c (i + 1) (i + 1) a b := fun s t h1 h2 h3 h4 => by
  have h5 := h4.1
  by_cases e : t = i
  · subst e; exact hn s h1 h5 h4
  · exact h s t h1 (by omega) (by omega) h4
theorem AB_new {c : Nat → Int32} {i o : Int} {a b : Int32} (h0 : 0 ≤ o ∧ o < i) (ho : AS c a b o i) (hm : ∀ s : Int, 0 ≤ s → s < i → AS c a b s i → s ≤ o) (hb : AN c i i a b ∨ ∃ d p, AB c i i a b d p ∧ i - o < d) : AB c (i + 1) (i + 1) a b (i - o) o := by
  refine ⟨by omega, by rw [show o + (i - o) = i by omega]; exact ho, fun s t h1 h2 h3 h4 => ?_⟩
  have h5 := h4.1
  by_cases e : t = i
  · subst e
    have := hm s h1 h5 h4
    omega
  · rcases hb with hb | ⟨d, p, hb, hd⟩
    · exact absurd h4 (hb s t h1 (by omega) (by omega))
    · have := hb.2.2 s t h1 (by omega) (by omega) h4
      omega
theorem AB_old {c : Nat → Int32} {i o d p : Int} {a b : Int32} (hm : ∀ s : Int, 0 ≤ s → s < i → AS c a b s i → s ≤ o) (hb : AB c i i a b d p) (hd : ¬ i - o < d) : AB c (i + 1) (i + 1) a b d p := by
  have h9 := hb.1
  refine ⟨by omega, hb.2.1, fun s t h1 h2 h3 h4 => ?_⟩
  have h5 := h4.1
  by_cases e : t = i
  · subst e
    have := hm s h1 h5 h4
    omega
  · exact hb.2.2 s t h1 (by omega) (by omega) h4
/-! what there is with the second place i -/
theorem AS_m {c : Nat → Int32} {i : Nat} {a b x y : Int32} (hab : ¬ a = b) (hx : (x = a ∧ y = b) ∨ (x = b ∧ y = a)) (hi : c i = x) : ∀ s : Int, 0 ≤ s → s < (i : Int) → AS c a b s (i : Int) → s ≤ lastEq c y i := fun s h1 h2 h3 => by
  have h4 : c s.toNat = y := by
    have h5 := h3.2
    rw [Int.toNat_natCast, hi] at h5
    rcases hx with ⟨e1, e2⟩ | ⟨e1, e2⟩
    · rcases h5 with q | q
      · exact absurd (e1.symm.trans q.2) hab
      · exact q.1.trans e2.symm
    · rcases h5 with q | q
      · exact q.1.trans e2.symm
      · exact absurd (q.2.symm.trans e1) hab
  have := lastEq_ge (c := c) (x := y) i s.toNat (by omega) h4
  omega
theorem AS_o {c : Nat → Int32} {i : Nat} {a b x y : Int32} (hx : (x = a ∧ y = b) ∨ (x = b ∧ y = a)) (hi : c i = x) (ho : 0 ≤ lastEq c y i) : AS c a b (lastEq c y i) (i : Int) := by
  have h1 := lastEq_lt c y i
  have h2 := lastEq_is i ho
  refine ⟨by omega, ?_⟩
  rw [Int.toNat_natCast, hi, h2]
  rcases hx with ⟨e1, e2⟩ | ⟨e1, e2⟩
  · exact Or.inr ⟨e2, e1⟩
  · exact Or.inl ⟨e2, e1⟩
theorem AS_n {c : Nat → Int32} {i : Nat} {a b : Int32} (h1 : ¬ c i = a) (h2 : ¬ c i = b) : ∀ s : Int, 0 ≤ s → s < (i : Int) → ¬ AS c a b s (i : Int) := fun s _ _ h3 => by
  have h5 := h3.2
  rw [Int.toNat_natCast] at h5
  rcases h5 with q | q
  · exact h2 q.2
  · exact h1 q.2
/-! by their first place: one place more -/
theorem AR_w {c : Nat → Int32} {n k d p : Int} {a b : Int32} (h : AB c n k a b d p) (hn : ∀ t : Int, t < n → ¬ AS c a b k t) : AB c n (k + 1) a b d p := by
  refine ⟨by have := h.1; omega, h.2.1, fun s t h1 h2 h3 h4 => ?_⟩
  by_cases e : s = k
  · subst e; exact absurd h4 (hn t h3)
  · exact h.2.2 s t h1 (by omega) h3 h4
theorem AM_w {c : Nat → Int32} {n k : Int} {a b : Int32} (h : AN c n k a b) (hn : ∀ t : Int, t < n → ¬ AS c a b k t) : AN c n (k + 1) a b := fun s t h1 h2 h3 h4 => by
  by_cases e : s = k
  · subst e; exact hn t h3 h4
  · exact h s t h1 (by omega) h3 h4
theorem AR_new {c : Nat → Int32} {n k q : Int} {a b : Int32} (h0 : 0 ≤ k ∧ k < q ∧ q < n) (hq : AS c a b k q) (hm : ∀ t : Int, t < n → AS c a b k t → q ≤ t) (hb : AN c n k a b ∨ ∃ d p, AB c n k a b d p ∧ q - k < d) : AB c n (k + 1) a b (q - k) k := by
  refine ⟨by omega, by rw [show k + (q - k) = q by omega]; exact hq, fun s t h1 h2 h3 h4 => ?_⟩
  by_cases e : s = k
  · subst e
    have := hm t h3 h4
    omega
  · rcases hb with hb | ⟨d, p, hb, hd⟩
    · exact absurd h4 (hb s t h1 (by omega) h3)
    · have := hb.2.2 s t h1 (by omega) h3 h4
      omega
theorem AR_old {c : Nat → Int32} {n k q d p : Int} {a b : Int32} (hm : ∀ t : Int, t < n → AS c a b k t → q ≤ t) (hb : AB c n k a b d p) (hd : ¬ q - k < d) : AB c n (k + 1) a b d p := by
  have h9 := hb.1
  refine ⟨by omega, hb.2.1, fun s t h1 h2 h3 h4 => ?_⟩
  by_cases e : s = k
  · subst e
    have := hm t h3 h4
    omega
  · exact hb.2.2 s t h1 (by omega) h3 h4
theorem AS_f {c : Nat → Int32} {n : Int} {k : Nat} {a b x y : Int32} (hab : ¬ a = b) (hx : (x = a ∧ y = b) ∨ (x = b ∧ y = a)) (hk : c k = x) (hn : (k : Int) < n) {t : Int} (h1 : t < n) (h2 : AS c a b (k : Int) t) : 0 ≤ nextEq c y (k + 1) (n - (k + 1)).toNat ∧ nextEq c y (k + 1) (n - (k + 1)).toNat ≤ t := by
  have h3 := h2.1
  have h4 : c t.toNat = y := by
    have h5 := h2.2
    rw [Int.toNat_natCast, hk] at h5
    rcases hx with ⟨e1, e2⟩ | ⟨e1, e2⟩
    · rcases h5 with q | q
      · exact q.2.trans e2.symm
      · exact absurd (e1.symm.trans q.1) hab
    · rcases h5 with q | q
      · exact absurd (q.1.symm.trans e1) hab
      · exact q.2.trans e2.symm
  have := nextEq_le (c := c) (x := y) (n - (k + 1)).toNat (k + 1) t.toNat (by omega) (by omega) h4
  omega
def APT (c : Nat → Int32) (n : Int) (a b : Int32) (t x : Int) : Prop := (¬ (((0 ≤ a.toInt ∧ a.toInt ≤ 23) ∧ (0 ≤ b.toInt ∧ b.toInt ≤ 23) ∧ ¬ a.toInt = b.toInt) ∧ 0 ≤ t ∧ t ≤ 1) ∧ x = -1) ∨ ((((0 ≤ a.toInt ∧ a.toInt ≤ 23) ∧ (0 ≤ b.toInt ∧ b.toInt ≤ 23) ∧ ¬ a.toInt = b.toInt) ∧ 0 ≤ t ∧ t ≤ 1) ∧ ((AN c n n a b ∧ x = -1) ∨ ∃ d p, AB c n n a b d p ∧ ((t = 0 ∧ x = d) ∨ (t = 1 ∧ x = p))))
theorem AS_eq {c d : Nat → Int32} {n p q : Int} {a b : Int32} (hc : ∀ j : Nat, (j : Int) < n → c j = d j) (h0 : 0 ≤ p) (hq : q < n) (h : AS c a b p q) : AS d a b p q := by
  have h1 := h.1
  refine ⟨h1, ?_⟩
  rw [← hc p.toNat (by omega), ← hc q.toNat (by omega)]
  exact h.2
theorem AB_u {c d : Nat → Int32} {n e p e2 p2 : Int} {a b : Int32} (hc : ∀ j : Nat, (j : Int) < n → c j = d j) (h1 : AB c n n a b e p) (h2 : AB d n n a b e2 p2) : e = e2 ∧ p = p2 := by
  have k1 := h1.1
  have k2 := h2.1
  have q1 := h1.2.2 p2 (p2 + e2) (by omega) (by omega) (by omega) (AS_eq (fun j hj => (hc j hj).symm) (by omega) (by omega) h2.2.1)
  have q2 := h2.2.2 p (p + e) (by omega) (by omega) (by omega) (AS_eq hc (by omega) (by omega) h1.2.1)
  omega
theorem APT_u {c d : Nat → Int32} {n t x y : Int} {a b : Int32} (hc : ∀ j : Nat, (j : Int) < n → c j = d j) (h1 : APT c n a b t x) (h2 : APT d n a b t y) : x = y := by
  rcases h1 with ⟨p1, p2⟩ | ⟨p1, ⟨p2, p3⟩ | ⟨e, p, p2, p3⟩⟩
  · rcases h2 with ⟨q1, q2⟩ | ⟨q1, _⟩
    · omega
    · exact absurd q1 p1
  · rcases h2 with ⟨q1, q2⟩ | ⟨q1, ⟨q2, q3⟩ | ⟨e2, s2, q2, q3⟩⟩
    · omega
    · omega
    · have k2 := q2.1
      exact absurd (AS_eq (fun j hj => (hc j hj).symm) (by omega) (by omega) q2.2.1) (p2 s2 (s2 + e2) (by omega) (by omega) (by omega))
  · rcases h2 with ⟨q1, q2⟩ | ⟨q1, ⟨q2, q3⟩ | ⟨e2, s2, q2, q3⟩⟩
    · exact absurd p1 q1
    · have k1 := p2.1
      exact absurd (AS_eq hc (by omega) (by omega) p2.2.1) (q2 p (p + e) (by omega) (by omega) (by omega))
    · have := AB_u hc p2 q2
      omega
def AI (c : Nat → Int32) (n k : Int) (a b : Int32) (d p N : Int) : Prop := (p = -1 ∧ d = N ∧ AN c n k a b) ∨ ((0 ≤ p ∧ p ≤ 160 ∧ 0 < d ∧ d ≤ 160) ∧ AB c n k a b d p)
theorem AS_n1 {c : Nat → Int32} {n : Int} {k : Nat} {a b : Int32} (h1 : ¬ c k = a) (h2 : ¬ c k = b) : ∀ t : Int, t < n → ¬ AS c a b (k : Int) t := fun t _ h3 => by
  have h5 := h3.2
  rw [Int.toNat_natCast] at h5
  rcases h5 with q | q
  · exact h1 q.1
  · exact h2 q.1
theorem AI_r0 {c : Nat → Int32} {n d p N : Int} {k : Nat} {a b : Int32} (h : AI c n k a b d p N) (hn : ∀ t : Int, t < n → ¬ AS c a b (k : Int) t) : AI c n ((k : Int) + 1) a b d p N := by
  rcases h with ⟨h1, h2, h3⟩ | ⟨h1, h2⟩
  · exact Or.inl ⟨h1, h2, AM_w h3 hn⟩
  · exact Or.inr ⟨h1, AR_w h2 hn⟩
theorem AI_r1 {c : Nat → Int32} {n d p q : Int} {k : Nat} {a b x y : Int32} (hn : n ≤ 160) (h : AI c n k a b d p 268435456) (hab : ¬ a = b) (hx : (x = a ∧ y = b) ∨ (x = b ∧ y = a)) (hk : c k = x) (hkn : (k : Int) < n) (hq : (nextEq c y (k + 1) (n - (k + 1)).toNat = -1 ∧ q = 268435456) ∨ (0 ≤ nextEq c y (k + 1) (n - (k + 1)).toNat ∧ q = nextEq c y (k + 1) (n - (k + 1)).toNat)) : (q - k < d ∧ ¬ q = 268435456 → AI c n ((k : Int) + 1) a b (q - k) k 268435456) ∧ (¬ (q - k < d ∧ ¬ q = 268435456) → AI c n ((k : Int) + 1) a b d p 268435456) := by
  have h9 := nextEq_lt c y (k + 1) (n - (k + 1)).toNat
  rcases hq with ⟨q1, q2⟩ | ⟨q1, q2⟩
  · refine ⟨fun h8 => absurd q2 h8.2, fun _ => AI_r0 h (fun t ht hs => ?_)⟩
    have := AS_f hab hx hk hkn ht hs
    omega
  · have hq2 : AS c a b (k : Int) q := by
      refine ⟨by omega, ?_⟩
      have e := nextEq_is _ _ q1
      rw [← q2] at e
      rw [Int.toNat_natCast, hk, e]
      rcases hx with ⟨e1, e2⟩ | ⟨e1, e2⟩
      · exact Or.inl ⟨e1, e2⟩
      · exact Or.inr ⟨e1, e2⟩
    have hm : ∀ t : Int, t < n → AS c a b (k : Int) t → q ≤ t := fun t ht hs => by
      have := AS_f hab hx hk hkn ht hs
      omega
    refine ⟨fun h8 => Or.inr ⟨by omega, AR_new (by omega) hq2 hm ?_⟩, fun h8 => ?_⟩
    · rcases h with ⟨h1, h2, h3⟩ | ⟨h1, h2⟩
      · exact Or.inl h3
      · exact Or.inr ⟨_, _, h2, h8.1⟩
    · rcases h with ⟨h1, h2, h3⟩ | ⟨h1, h2⟩
      · omega
      · exact Or.inr ⟨h1, AR_old hm h2 (by omega)⟩
theorem AI_w0 {c : Nat → Int32} {d p : Int} {i : Nat} {a b : Int32} (h : AI c i i a b d p (-1)) (hn : ∀ s : Int, 0 ≤ s → s < (i : Int) → ¬ AS c a b s (i : Int)) : AI c ((i : Int) + 1) ((i : Int) + 1) a b d p (-1) := by
  rcases h with ⟨h1, h2, h3⟩ | ⟨h1, h2⟩
  · exact Or.inl ⟨h1, h2, AN_w h3 hn⟩
  · exact Or.inr ⟨h1, AB_w h2 (by omega) hn⟩
theorem AI_w1 {c : Nat → Int32} {d p o : Int} {i : Nat} {a b x y : Int32} (hi : (i : Int) ≤ 160) (h : AI c i i a b d p (-1)) (hab : ¬ a = b) (hx : (x = a ∧ y = b) ∨ (x = b ∧ y = a)) (hk : c i = x) (ho : o = lastEq c y i) : (o = -1 → AI c ((i : Int) + 1) ((i : Int) + 1) a b d p (-1)) ∧ (0 ≤ o → (d = -1 ∨ i - o < d) → AI c ((i : Int) + 1) ((i : Int) + 1) a b (i - o) o (-1)) ∧ (0 ≤ o → ¬ (d = -1 ∨ i - o < d) → AI c ((i : Int) + 1) ((i : Int) + 1) a b d p (-1)) := by
  have h9 := lastEq_lt c y i
  have hm : ∀ s : Int, 0 ≤ s → s < (i : Int) → AS c a b s (i : Int) → s ≤ o := fun s h1 h2 h3 => by
    rw [ho]; exact AS_m hab hx hk s h1 h2 h3
  refine ⟨fun h8 => AI_w0 h (fun s h1 h2 h3 => by have := hm s h1 h2 h3; omega), fun h7 h8 => Or.inr ⟨by omega, AB_new (by omega) (by rw [ho]; exact AS_o hx hk (by omega)) hm ?_⟩, fun h7 h8 => ?_⟩
  · rcases h with ⟨h1, h2, h3⟩ | ⟨h1, h2⟩
    · exact Or.inl h3
    · exact Or.inr ⟨_, _, h2, by omega⟩
  · rcases h with ⟨h1, h2, h3⟩ | ⟨h1, h2⟩
    · omega
    · exact Or.inr ⟨h1, AB_old hm h2 (by omega)⟩
