
theorem hL_b {K K2 nn dn : Nat} {w w1 : Nat → Int32} {e e1 : Nat → Nat → Int32} (ho : cw_ro K nn) (ho2 : cw_ro K2 dn) (hdn : (dn : Int) = 40 + 4 * (((w 0).toInt + 1) % 41)) (fr : ∀ i9, 40 ≤ i9 → i9 < 40 + 4 * K → (i9 < dn ∨ dn + 4 ≤ i9) → w1 i9 = w i9 ∧ e1 i9 = e i9) : ∀ L, rp (w nn) (e (nn + 1)) (e (nn + 2)) L → (nn : Int) = 40 + 4 * ((w 0).toInt % 41) → nn ≠ dn ∧ rp (w1 nn) (e1 (nn + 1)) (e1 (nn + 2)) L := fun L h1 h2 => by
  unfold cw_ro at ho ho2
  have a0 : nn ≠ dn := by omega
  exact ⟨a0, rp_fr h1 (congrArg Int32.toInt (fr nn (by omega) (by omega) (by omega)).1) (fr (nn + 1) (by omega) (by omega) (by omega)).2 (fr (nn + 2) (by omega) (by omega) (by omega)).2⟩
theorem hL_k {K nn dn : Nat} {w w1 w2 : Nat → Int32} {e e1 e2 : Nat → Nat → Int32} (h : ∀ L, rp (w nn) (e (nn + 1)) (e (nn + 2)) L → (nn : Int) = 40 + 4 * ((w 0).toInt % 41) → nn ≠ dn ∧ rp (w1 nn) (e1 (nn + 1)) (e1 (nn + 2)) L) (ho : cw_ro K nn) (ho2 : cw_ro K dn) (fr : ∀ i9, 40 ≤ i9 → (i9 < dn ∨ dn + 4 ≤ i9) → w2 i9 = w1 i9 ∧ e2 i9 = e1 i9) : ∀ L, rp (w nn) (e (nn + 1)) (e (nn + 2)) L → (nn : Int) = 40 + 4 * ((w 0).toInt % 41) → nn ≠ dn ∧ rp (w2 nn) (e2 (nn + 1)) (e2 (nn + 2)) L := fun L h1 h2 => by
  obtain ⟨a0, a9⟩ := h L h1 h2
  unfold cw_ro at ho ho2
  exact ⟨a0, rp_fr a9 (congrArg Int32.toInt (fr nn (by omega) (by omega)).1) (fr (nn + 1) (by omega) (by omega)).2 (fr (nn + 2) (by omega) (by omega)).2⟩

