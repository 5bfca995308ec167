/-! a new row; the draft of an edit -/
theorem gw_char {A0 H : pm_H} {N : Nat} {q : Nat → Nat} {c : Nat → va_E} (h1 : ∀ i, i < N → H (q i) = some (c i)) (h2 : ∀ x, (∀ i, i < N → x ≠ q i) → H x = A0 x) : H = gw A0 N q c := by
  funext x
  unfold gw
  cases hx : (List.range N).find? (fun j => decide (x = q j)) with
  | none =>
    refine h2 x (fun i hi e => ?_)
    have := List.find?_eq_none.mp hx i (List.mem_range.mpr hi)
    simp [e] at this
  | some j =>
    have h3 : x = q j := by simpa using List.find?_some hx
    have h4 := List.mem_range.mp (List.mem_of_find?_eq_some hx)
    rw [h3]
    exact h1 j h4
section
variable {l : Launch} {g : pm_G}
set_option maxRecDepth 100000 in
theorem c_X7_init {A : pm_H} {a : Nat} (hA : A a = some (pm_ob 7 (pm_df 7))) : pm_Mt l g 2 1 3 480 [.ref a] A (fun r A' => r = none ∧ ∃ b1 b2 b3 : Nat, (A b1 = none ∧ A b2 = none ∧ A b3 = none) ∧ (b1 ≠ b2 ∧ b1 ≠ b3 ∧ b2 ≠ b3 ∧ b1 ≠ a ∧ b2 ≠ a ∧ b3 ≠ a) ∧ A' a = some (pm_ob 7 [.ref b1, .ref b2, .ref b3, .int 0, .int 0]) ∧ (A' b1 = some (pm_ia g 160 (fun _ => 0)) ∧ A' b2 = some (pm_ia g 160 (fun _ => 0)) ∧ A' b3 = some (pm_ia g 160 (fun _ => 0))) ∧ ∀ x, x ≠ a → x ≠ b1 → x ≠ b2 → x ≠ b3 → A' x = A x) := by
  refine mt_X7_init rfl (fun J hC => ?_)
  have hd : pm_df 7 = [.null, .null, .null, .int 0, .int 0] := rfl
  rw [hd] at hA
  refine hC.1 0 0 _ _ rfl _ _ _ _ _ ?_
  refine And.intro rfl ?_
  refine And.intro rfl (And.intro rfl (fun b1 h1 => ?_))
  have n1 : b1 ≠ a := fun e => by rw [e, hA] at h1; cases h1
  refine Exists.intro _ (And.intro ((pm_up_n n1.symm).trans hA) (And.intro rfl ?_))
  refine And.intro rfl (And.intro rfl (fun b2 h2 => ?_))
  have n2 : b2 ≠ a := fun e => by rw [e, pm_up_s] at h2; cases h2
  rw [pm_up_n n2] at h2
  have n3 : b2 ≠ b1 := fun e => by rw [e, pm_up_s] at h2; cases h2
  rw [pm_up_n n3] at h2
  refine Exists.intro _ (And.intro ((pm_up_n n2.symm).trans pm_up_s) (And.intro rfl ?_))
  refine And.intro rfl (And.intro rfl (fun b3 h3 => ?_))
  have n4 : b3 ≠ a := fun e => by rw [e, pm_up_s] at h3; cases h3
  rw [pm_up_n n4] at h3
  have n5 : b3 ≠ b2 := fun e => by rw [e, pm_up_s] at h3; cases h3
  rw [pm_up_n n5, pm_up_n n4] at h3
  have n6 : b3 ≠ b1 := fun e => by rw [e, pm_up_s] at h3; cases h3
  rw [pm_up_n n6] at h3
  refine Exists.intro _ (And.intro ((pm_up_n n4.symm).trans pm_up_s) (And.intro rfl ?_))
  refine ⟨rfl, rfl, rfl, b1, b2, b3, ⟨h1, h2, h3⟩, ⟨n3.symm, n6.symm, n5.symm, n1, n2, n4⟩, pm_up_s, ⟨?_, ?_, ?_⟩, ?_⟩
  · rw [pm_up_n n1, pm_up_n n6.symm, pm_up_n n1, pm_up_n n3.symm, pm_up_n n1, pm_up_s]
  · rw [pm_up_n n2, pm_up_n n5.symm, pm_up_n n2, pm_up_s]
  · rw [pm_up_n n4, pm_up_s]
  · intro x e0 e1 e2 e3
    rw [pm_up_n e0, pm_up_n e3, pm_up_n e0, pm_up_n e2, pm_up_n e0, pm_up_n e1]
end
section
variable {A0 : pm_H} {g : pm_G} {K nn dn : Nat} {q : Nat → Nat} {w : Nat → Int32} {e : Nat → Nat → Int32} {v : Nat → Int32} {f : Nat → Nat → Int32}
/-- the addresses, numbers and rows with one row more -/
def cw_q2 (K : Nat) (q : Nat → Nat) (a b1 b2 b3 : Nat) : Nat → Nat := fun i => if i = 40 + 4 * K then a else if i = 40 + 4 * K + 1 then b1 else if i = 40 + 4 * K + 2 then b2 else if i = 40 + 4 * K + 3 then b3 else q i
def cw_w2 (K : Nat) (w : Nat → Int32) : Nat → Int32 := fun i => if 40 + 4 * K ≤ i then 0 else w i
def cw_e2 (K : Nat) (e : Nat → Nat → Int32) : Nat → Nat → Int32 := fun i => if 40 + 4 * K ≤ i then (fun _ => 0) else e i
theorem cw_q2_lt {a b1 b2 b3 i : Nat} (h : i < 40 + 4 * K) : cw_q2 K q a b1 b2 b3 i = q i := by
  unfold cw_q2
  rw [if_neg (by omega), if_neg (by omega), if_neg (by omega), if_neg (by omega)]
theorem cw_w2_lt {i : Nat} (h : i < 40 + 4 * K) : cw_w2 K w i = w i := if_neg (by omega)
theorem cw_e2_lt {i : Nat} (h : i < 40 + 4 * K) : cw_e2 K e i = e i := if_neg (by omega)
theorem cw_c2_lt {a b1 b2 b3 i : Nat} (hn : nn < 40 + 4 * K) (hd : dn < 40 + 4 * K) (hK : 1 ≤ K) (h : i < 40 + 4 * K) (h10 : i ≠ 10) : cw_c g (K + 1) nn dn (cw_q2 K q a b1 b2 b3) (cw_w2 K w) (cw_e2 K e) v f i = cw_c g K nn dn q w e v f i := by
  unfold cw_c
  by_cases h1 : i < 12
  · rw [if_pos h1, if_pos h1]
    have w0 : cw_w2 K w 0 = w 0 := cw_w2_lt (by omega)
    have w1 : cw_w2 K w 1 = w 1 := cw_w2_lt (by omega)
    have w2 : cw_w2 K w 2 = w 2 := cw_w2_lt (by omega)
    have w3 : cw_w2 K w 3 = w 3 := cw_w2_lt (by omega)
    have qq : ∀ j, j < 40 → cw_q2 K q a b1 b2 b3 j = q j := fun j hj => cw_q2_lt (by omega)
    have qn : cw_q2 K q a b1 b2 b3 nn = q nn := cw_q2_lt hn
    have qd : cw_q2 K q a b1 b2 b3 dn = q dn := cw_q2_lt hd
    have qw : cw_ww (cw_q2 K q a b1 b2 b3) = cw_ww q := by
      funext j
      unfold cw_ww
      by_cases hj : j < 9
      · rw [if_pos hj, if_pos hj, qq _ (by omega)]
      · rw [if_neg hj, if_neg hj]
    rcases (show i = 0 ∨ i = 1 ∨ i = 2 ∨ i = 3 ∨ i = 4 ∨ i = 5 ∨ i = 6 ∨ i = 7 ∨ i = 8 ∨ i = 9 ∨ i = 10 ∨ i = 11 by omega) with rfl | rfl | rfl | rfl | rfl | rfl | rfl | rfl | rfl | rfl | rfl | rfl
    · simp only [cw_fix, qq 1 (by decide), qq 2 (by decide), qq 3 (by decide), qq 4 (by decide), qq 5 (by decide), qq 6 (by decide), qq 7 (by decide), qq 8 (by decide), qq 9 (by decide)]
    · simp only [cw_fix, qq 10 (by decide), qq 12 (by decide), qq 13 (by decide), qn, qd, w0, w1, w2]
    · simp only [cw_fix, qq 14 (by decide), qq 15 (by decide)]
    · simp only [cw_fix, qq 16 (by decide), qq 17 (by decide)]
    · simp only [cw_fix, qq 18 (by decide), qq 19 (by decide), qq 20 (by decide)]
    · simp only [cw_fix, qq 21 (by decide)]
    · simp only [cw_fix, qq 22 (by decide), qq 23 (by decide), qq 24 (by decide)]
    · simp only [cw_fix, qq 25 (by decide)]
    · simp only [cw_fix, qq 11 (by decide)]
    · simp only [cw_fix, qq 35 (by decide), qq 36 (by decide), qq 37 (by decide), qq 38 (by decide), qq 39 (by decide), w3]
    · exact absurd rfl h10
    · simp only [cw_fix, qw]
  · rw [if_neg h1, if_neg h1]
    by_cases h2 : i < 40
    · rw [if_pos h2, if_pos h2, cw_e2_lt h]
    · rw [if_neg h2, if_neg h2]
      by_cases h3 : i % 4 = 0
      · rw [if_pos h3, if_pos h3, cw_q2_lt (show i + 1 < 40 + 4 * K by omega), cw_q2_lt (show i + 2 < 40 + 4 * K by omega), cw_q2_lt (show i + 3 < 40 + 4 * K by omega), cw_w2_lt h, cw_w2_lt (show i + 1 < 40 + 4 * K by omega)]
      · rw [if_neg h3, if_neg h3, cw_e2_lt h]
theorem cw_rr2 {a b1 b2 b3 : Nat} : cw_rr (K + 1) (cw_q2 K q a b1 b2 b3) = va_up (cw_rr K q) K (some a) := by
  funext j
  unfold cw_rr
  by_cases h1 : j = K
  · subst h1
    simp [va_up, cw_q2]
  · by_cases h2 : j < K
    · simp only [va_up, if_neg h1, if_pos h2, if_pos (show j < K + 1 by omega)]
      rw [cw_q2_lt (by omega)]
    · simp only [va_up, if_neg h1, if_neg h2, if_neg (show ¬ j < K + 1 by omega)]
theorem cw_I2 (hI : cw_I K nn dn q w e) (hK : K < 41) {a b1 b2 b3 : Nat} (ha : ∀ i, i < 40 + 4 * K → a ≠ q i) (h1 : ∀ i, i < 40 + 4 * K → b1 ≠ q i) (h2 : ∀ i, i < 40 + 4 * K → b2 ≠ q i) (h3 : ∀ i, i < 40 + 4 * K → b3 ≠ q i) (hb : b1 ≠ b2 ∧ b1 ≠ b3 ∧ b2 ≠ b3 ∧ b1 ≠ a ∧ b2 ≠ a ∧ b3 ≠ a) : cw_I (K + 1) nn dn (cw_q2 K q a b1 b2 b3) (cw_w2 K w) (cw_e2 K e) := by
  obtain ⟨D, hW, hZ, hE⟩ := hI
  refine ⟨?_, ?_, ?_, ?_⟩
  · have key : ∀ i, i < 40 + 4 * (K + 1) → (i < 40 + 4 * K ∧ cw_q2 K q a b1 b2 b3 i = q i) ∨ (i = 40 + 4 * K ∧ cw_q2 K q a b1 b2 b3 i = a) ∨ (i = 40 + 4 * K + 1 ∧ cw_q2 K q a b1 b2 b3 i = b1) ∨ (i = 40 + 4 * K + 2 ∧ cw_q2 K q a b1 b2 b3 i = b2) ∨ (i = 40 + 4 * K + 3 ∧ cw_q2 K q a b1 b2 b3 i = b3) := by
      intro i hi
      by_cases h : i < 40 + 4 * K
      · exact Or.inl ⟨h, cw_q2_lt h⟩
      · rcases (show i = 40 + 4 * K ∨ i = 40 + 4 * K + 1 ∨ i = 40 + 4 * K + 2 ∨ i = 40 + 4 * K + 3 by omega) with rfl | rfl | rfl | rfl
        · exact Or.inr (Or.inl ⟨rfl, by simp [cw_q2]⟩)
        · exact Or.inr (Or.inr (Or.inl ⟨rfl, by simp [cw_q2]⟩))
        · exact Or.inr (Or.inr (Or.inr (Or.inl ⟨rfl, by simp [cw_q2]⟩)))
        · exact Or.inr (Or.inr (Or.inr (Or.inr ⟨rfl, by simp [cw_q2]⟩)))
    intro i j hi hj hij
    obtain ⟨b12, b13, b23, b1a, b2a, b3a⟩ := hb
    rcases key i hi with ⟨x, ex⟩ | ⟨x, ex⟩ | ⟨x, ex⟩ | ⟨x, ex⟩ | ⟨x, ex⟩ <;> rcases key j hj with ⟨y, ey⟩ | ⟨y, ey⟩ | ⟨y, ey⟩ | ⟨y, ey⟩ | ⟨y, ey⟩ <;> rw [ex, ey] at hij <;> first | exact D i j x y hij | (rw [x, y]; done) | exact absurd hij.symm (ha i x) | exact absurd hij.symm (h1 i x) | exact absurd hij.symm (h2 i x) | exact absurd hij.symm (h3 i x) | exact absurd hij (ha j y) | exact absurd hij (h1 j y) | exact absurd hij (h2 j y) | exact absurd hij (h3 j y) | exact absurd hij b12 | exact absurd hij b13 | exact absurd hij b23 | exact absurd hij b1a | exact absurd hij b2a | exact absurd hij b3a | exact absurd hij.symm b12 | exact absurd hij.symm b13 | exact absurd hij.symm b23 | exact absurd hij.symm b1a | exact absurd hij.symm b2a | exact absurd hij.symm b3a
  · have w0 : cw_w2 K w 0 = w 0 := cw_w2_lt (by omega)
    have w1 : cw_w2 K w 1 = w 1 := cw_w2_lt (by omega)
    have w3 : cw_w2 K w 3 = w 3 := cw_w2_lt (by omega)
    unfold cw_W at hW ⊢
    rw [w0, w1, w3]
    omega
  · intro o ho hm
    unfold cw_w2
    split
    · decide
    · exact hZ o ho hm
  · intro o ho hm j
    unfold cw_e2
    constructor
    · split
      · exact (by decide : 0 ≤ (0 : Int32).toInt ∧ (0 : Int32).toInt ≤ 23)
      · exact (hE o ho hm j).1
    · split
      · exact (by decide : -1 ≤ (0 : Int32).toInt ∧ (0 : Int32).toInt ≤ 159)
      · exact (hE o ho hm j).2
end
section
variable {l : Launch} {g : pm_G} {A0 : pm_H} {K nn dn : Nat} {q : Nat → Nat} {w : Nat → Int32} {e : Nat → Nat → Int32} {v : Nat → Int32} {f : Nat → Nat → Int32}
end
