section
variable {A0 : pm_H} {g : pm_G} {K nn dn : Nat} {q : Nat → Nat} {w : Nat → Int32} {e : Nat → Nat → Int32} {v : Nat → Int32} {f : Nat → Nat → Int32}
def cw_q2 (K : Nat) (q : Nat → Nat) (a b1 b2 b3 : Nat) : Nat → Nat := fun i => if i = 40 + 4 * K then a else if i = 40 + 4 * K + 1 then b1 else if i = 40 + 4 * K + 2 then b2 else if i = 40 + 4 * K + 3 then b3 else q i
def cw_w2 (K : Nat) (w : Nat → Int32) : Nat → Int32 := fun i => if 40 + 4 * K ≤ i then 0 else w i
def cw_e2 (K : Nat) (e : Nat → Nat → Int32) : Nat → Nat → Int32 := fun i => if 40 + 4 * K ≤ i then (fun _ => 0) else e i
theorem cw_q2_lt {a b1 b2 b3 i : Nat} (h : i < 40 + 4 * K) : cw_q2 K q a b1 b2 b3 i = q i := by
  unfold cw_q2
  rw [if_neg (by omega), if_neg (by omega), if_neg (by omega), if_neg (by omega)]
theorem cw_w2_lt {i : Nat} (h : i < 40 + 4 * K) : cw_w2 K w i = w i := if_neg (by omega)
theorem cw_e2_lt {i : Nat} (h : i < 40 + 4 * K) : cw_e2 K e i = e i := if_neg (by omega)
theorem cw_c2_lt {a b1 b2 b3 i : Nat} (hn : nn < 40 + 4 * K) (hd : dn < 40 + 4 * K) (hK : 1 ≤ K) (h : i < 40 + 4 * K) (h10 : i ≠ 10) : cw_c g (K + 1) nn dn (cw_q2 K q a b1 b2 b3) (cw_w2 K w) (cw_e2 K e) v f i = cw_c g K nn dn q w e v f i := by
  unfold cw_c
  by_cases h1 : i < 12
  · rw [if_pos h1, if_pos h1]
    have w0 : cw_w2 K w 0 = w 0 := cw_w2_lt (by omega)
    have w1 : cw_w2 K w 1 = w 1 := cw_w2_lt (by omega)
    have w2 : cw_w2 K w 2 = w 2 := cw_w2_lt (by omega)
    have w3 : cw_w2 K w 3 = w 3 := cw_w2_lt (by omega)
    have qq : ∀ j, j < 40 → cw_q2 K q a b1 b2 b3 j = q j := fun j hj => cw_q2_lt (by omega)
    have qn : cw_q2 K q a b1 b2 b3 nn = q nn := cw_q2_lt hn
    have qd : cw_q2 K q a b1 b2 b3 dn = q dn := cw_q2_lt hd
    have qw : cw_ww (cw_q2 K q a b1 b2 b3) = cw_ww q := by
      funext j
      unfold cw_ww
      by_cases hj : j < 9
      · rw [if_pos hj, if_pos hj, qq _ (by omega)]
      · rw [if_neg hj, if_neg hj]
    rcases (show i = 0 ∨ i = 1 ∨ i = 2 ∨ i = 3 ∨ i = 4 ∨ i = 5 ∨ i = 6 ∨ i = 7 ∨ i = 8 ∨ i = 9 ∨ i = 10 ∨ i = 11 by omega) with rfl | rfl | rfl | rfl | rfl | rfl | rfl | rfl | rfl | rfl | rfl | rfl
    · simp only [cw_fix, qq 1 (by decide), qq 2 (by decide), qq 3 (by decide), qq 4 (by decide), qq 5 (by decide), qq 6 (by decide), qq 7 (by decide), qq 8 (by decide), qq 9 (by decide)]
    · simp only [cw_fix, qq 10 (by decide), qq 12 (by decide), qq 13 (by decide), qn, qd, w0, w1, w2]
    · simp only [cw_fix, qq 14 (by decide), qq 15 (by decide)]
    · simp only [cw_fix, qq 16 (by decide), qq 17 (by decide)]
    · simp only [cw_fix, qq 18 (by decide), qq 19 (by decide), qq 20 (by decide)]
    · simp only [cw_fix, qq 21 (by decide)]
    · simp only [cw_fix, qq 22 (by decide), qq 23 (by decide), qq 24 (by decide)]
    · simp only [cw_fix, qq 25 (by decide)]
    · simp only [cw_fix, qq 11 (by decide)]
    · simp only [cw_fix, qq 35 (by decide), qq 36 (by decide), qq 37 (by decide), qq 38 (by decide), qq 39 (by decide), w3]
    · exact absurd rfl h10
    · simp only [cw_fix, qw]
  · rw [if_neg h1, if_neg h1]
    by_cases h2 : i < 40
    · rw [if_pos h2, if_pos h2, cw_e2_lt h]
    · rw [if_neg h2, if_neg h2]
      by_cases h3 : i % 4 = 0
      · rw [if_pos h3, if_pos h3, cw_q2_lt (show i + 1 < 40 + 4 * K by omega), cw_q2_lt (show i + 2 < 40 + 4 * K by omega), cw_q2_lt (show i + 3 < 40 + 4 * K by omega), cw_w2_lt h, cw_w2_lt (show i + 1 < 40 + 4 * K by omega)]
      · rw [if_neg h3, if_neg h3, cw_e2_lt h]
theorem cw_rr2 {a b1 b2 b3 : Nat} : cw_rr (K + 1) (cw_q2 K q a b1 b2 b3) = va_up (cw_rr K q) K (some a) := by
  funext j
  unfold cw_rr
  by_cases h1 : j = K
  · subst h1
    simp [va_up, cw_q2]
  · by_cases h2 : j < K
    · simp only [va_up, if_neg h1, if_pos h2, if_pos (show j < K + 1 by omega)]
      rw [cw_q2_lt (by omega)]
    · simp only [va_up, if_neg h1, if_neg h2, if_neg (show ¬ j < K + 1 by omega)]
end
