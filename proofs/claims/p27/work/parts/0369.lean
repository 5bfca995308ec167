
theorem si_app {L : List pl_P} {a m b : Int} (h0 : 0 ≤ a) (h1 : a ≤ m) (h2 : m ≤ b) : si L a b = si L a m ++ si L m b := by
  unfold si sl
  rw [show b.toNat - a.toNat = (m.toNat - a.toNat) + (b.toNat - m.toNat) by omega, List.take_add, List.drop_drop, show a.toNat + (m.toNat - a.toNat) = m.toNat by omega]
theorem fl_len {L : List pl_P} {a z b c : Int} (h0 : 0 ≤ a) (h1 : a ≤ z) (h2 : z ≤ b) (_ : b ≤ (L.length : Int)) : (((si L a z).filter (fun p => decide (p.1.toInt = c))).length : Int) ≤ (((si L a b).filter (fun p => decide (p.1.toInt = c))).length : Int) := by
  rw [si_app (m := z) h0 h1 h2, List.filter_append, List.length_append]
  omega
theorem st_ct (M : List pl_P) (c : Nat) : (M.filter (fun p => decide (0 ≤ p.1.toInt ∧ p.1.toInt < (c : Int)))).length + (M.filter (fun p => decide (p.1.toInt = (c : Int)))).length = (M.filter (fun p => decide (0 ≤ p.1.toInt ∧ p.1.toInt < ((c + 1 : Nat) : Int)))).length := by
  induction M with
  | nil => rfl
  | cons x r ih =>
    rw [List.filter_cons, List.filter_cons, List.filter_cons]
    by_cases h1 : 0 ≤ x.1.toInt ∧ x.1.toInt < (c : Int)
    · rw [if_pos (by simpa using h1), if_neg (by simp; omega), if_pos (by simp; omega), List.length_cons, List.length_cons]
      omega
    · by_cases h2 : x.1.toInt = (c : Int)
      · rw [if_neg (by simpa using h1), if_pos (by simpa using h2), if_pos (by simp; omega), List.length_cons, List.length_cons]
        omega
      · rw [if_neg (by simpa using h1), if_neg (by simpa using h2), if_neg (by simp; omega)]
        exact ih
theorem st_eq (M : List pl_P) : ∀ c : Nat, (st_l M c).length = (M.filter (fun p => decide (0 ≤ p.1.toInt ∧ p.1.toInt < (c : Int)))).length
  | 0 => by
    have e : M.filter (fun p => decide (0 ≤ p.1.toInt ∧ p.1.toInt < ((0 : Nat) : Int))) = [] := List.filter_eq_nil_iff.mpr (fun p _ h => by
      have := of_decide_eq_true h
      omega)
    rw [e]; rfl
  | c + 1 => by
    rw [← st_ct M c, ← st_eq M c]
    exact List.length_append
theorem st_len (M : List pl_P) (c : Nat) : (st_l M c).length ≤ M.length := by
  rw [st_eq]
  exact List.length_filter_le _ _
theorem si_r1 {n : Int32} {c m : Nat → Int32} {L : List pl_P} (h : rp n c m L) {z : Int} (h0 : 0 ≤ z) (hz : z < (L.length : Int)) : (si L z (z + 1)).reverse = si L z (z + 1) := by
  rw [si_c h h0 (by omega) (by omega), si_n (L := L) (a := z + 1) (b := z + 1) (Int.le_refl _)]
  rfl
def cw_Qg2 (A0 : pm_H) (g : pm_G) (K nn : Nat) (q : Nat → Nat) (w : Nat → Int32) (e : Nat → Nat → Int32) (v : Nat → Int32) (f : Nat → Nat → Int32) : Option Value → pm_H → Prop := fun r A' => ∃ (K2 dn2 : Nat) (q2 : Nat → Nat) (w2 : Nat → Int32) (e2 : Nat → Nat → Int32), r = none ∧ A' = cw A0 g K2 nn dn2 q2 w2 e2 v f ∧ cw_I K2 nn dn2 q2 w2 e2 ∧ cw_X A0 K q K2 q2 ∧ ((w 0).toInt + 2 ≤ K2 ∨ K2 = 41) ∧ (w2 0 = w 0 ∧ w2 1 = w 1 ∧ w2 2 = w 2 ∧ w2 3 = w 3) ∧ e2 15 = e 15 ∧ (dn2 : Int) = 40 + 4 * (((w 0).toInt + 1) % 41) ∧ (∀ i9, 40 ≤ i9 → i9 < 40 + 4 * K → (i9 < dn2 ∨ dn2 + 4 ≤ i9) → w2 i9 = w i9 ∧ e2 i9 = e i9) ∧ (w2 dn2).toInt = 0
theorem va_us {f : Nat → Nat → Int32} {i : Nat} {r : Nat → Int32} : va_up f i r i = r := if_pos rfl
theorem va_un {f : Nat → Nat → Int32} {i j : Nat} {r : Nat → Int32} (h : j ≠ i) : va_up f i r j = f j := if_neg h
