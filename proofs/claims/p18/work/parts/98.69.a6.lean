/-! the class: what a draft's places had for bonds, kept beside the draft -/
def cw_Qu (A0 : pm_H) (g : pm_G) (K nn dn : Nat) (q : Nat → Nat) (P : Option Value → (Nat → Int32) → (Nat → Nat → Int32) → (Nat → Int32) → (Nat → Nat → Int32) → Prop) : Option Value → pm_H → Prop := fun r A' => ∃ (w2 : Nat → Int32) (e2 : Nat → Nat → Int32) (v2 : Nat → Int32) (f2 : Nat → Nat → Int32), A' = cw A0 g K nn dn q w2 e2 v2 f2 ∧ cw_I K nn dn q w2 e2 ∧ cw_S v2 f2 ∧ P r w2 e2 v2 f2
theorem bo_l {c m a : Nat → Int32} {n p : Int} (h2 : 0 ≤ p → p < n → (a p.toNat).toInt = lastEq c (c p.toNat) p.toNat) (hp : 0 ≤ p ∧ p < n) {r : Int32} (hr : r = nmA m n (a p.toNat).toInt) : r = bo c m p := by
  have h1 := lastEq_lt c (c p.toNat) p.toNat
  have h3 := h2 hp.1 hp.2
  subst hr; unfold bo
  rw [h3]
  by_cases h : 0 ≤ lastEq c (c p.toNat) p.toNat
  · rw [nmA_y (by omega), nmA_y (by omega)]
  · rw [nmA_n (by omega), nmA_n (by omega)]
def TB (w : Nat → Int32) (e f : Nat → Nat → Int32) (o : Nat) (n : Int) (c m : Nat → Int32) : Prop := ∀ i : Nat, (i : Int) < (w o).toInt → f 12 i = tcb n c m (e (o + 2) i)
theorem TB_app {w w2 : Nat → Int32} {e f e2 f2 : Nat → Nat → Int32} {o : Nat} {n : Int} {c m : Nat → Int32} {x b : Int32} (h : TB w e f o n c m) (h0 : 0 ≤ (w o).toInt) (hw : (w2 o).toInt = (w o).toInt + 1) (he : e2 (o + 2) = upd (e (o + 2)) (w o).toInt.toNat x) (hf : f2 12 = upd (f 12) (w o).toInt.toNat b) (hb : b = tcb n c m x) : TB w2 e2 f2 o n c m := fun i hi => by
  rw [he, hf]
  by_cases e1 : i = (w o).toInt.toNat
  · rw [e1, pk_us, pk_us]; exact hb
  · rw [pk_un e1, pk_un e1]; exact h i (by omega)
/-- behind some of an edit's steps: the row before it stands, the draft's bonds are told -/
def TQ (w : Nat → Int32) (e : Nat → Nat → Int32) (nn : Nat) (w1 : Nat → Int32) (e1 f1 : Nat → Nat → Int32) (dn : Nat) : Prop := (nn : Int) = 40 + 4 * ((w 0).toInt % 41) → UQ (w nn).toInt (e (nn + 2)) → bd (w nn) (e (nn + 1)) (e (nn + 3)) → (∀ i : Nat, (i : Int) < (w nn).toInt → (e (nn + 2) i).toInt < (w 1).toInt) → nn ≠ dn ∧ w1 nn = w nn ∧ e1 (nn + 1) = e (nn + 1) ∧ e1 (nn + 2) = e (nn + 2) ∧ e1 (nn + 3) = e (nn + 3) ∧ (w 1).toInt ≤ (w1 1).toInt ∧ TB w1 e1 f1 dn (w nn).toInt (e (nn + 1)) (e (nn + 2))
theorem TQ_b {w : Nat → Int32} {e : Nat → Nat → Int32} {K K2 nn dn : Nat} {w1 : Nat → Int32} {e1 f1 : Nat → Nat → Int32} (ho : cw_ro K nn) (ho2 : cw_ro K2 dn) (hd : (dn : Int) = 40 + 4 * (((w 0).toInt + 1) % 41)) (fr : ∀ i9, 40 ≤ i9 → i9 < 40 + 4 * K → (i9 < dn ∨ dn + 4 ≤ i9) → w1 i9 = w i9 ∧ e1 i9 = e i9) (hw : w1 1 = w 1) (hz : (w1 dn).toInt = 0) : TQ w e nn w1 e1 f1 dn := fun h1 _ _ _ => by
  unfold cw_ro at ho ho2
  have a0 : nn ≠ dn := by omega
  exact ⟨a0, (fr nn (by omega) (by omega) (by omega)).1, (fr (nn + 1) (by omega) (by omega) (by omega)).2, (fr (nn + 2) (by omega) (by omega) (by omega)).2, (fr (nn + 3) (by omega) (by omega) (by omega)).2, by rw [hw]; exact Int.le_refl _, fun i hi => by omega⟩
theorem TQ_k {w : Nat → Int32} {e : Nat → Nat → Int32} {K nn dn : Nat} {w1 w2 : Nat → Int32} {e1 f1 e2 f2 : Nat → Nat → Int32} (hT : TQ w e nn w1 e1 f1 dn) (ho : cw_ro K nn) (ho2 : cw_ro K dn) (fr : ∀ i9, 40 ≤ i9 → (i9 < dn ∨ dn + 4 ≤ i9) → w2 i9 = w1 i9 ∧ e2 i9 = e1 i9) (hw : (w1 1).toInt ≤ (w2 1).toInt) (ht : nn ≠ dn → UQ (w1 nn).toInt (e1 (nn + 2)) → bd (w1 nn) (e1 (nn + 1)) (e1 (nn + 3)) → TB w1 e1 f1 dn (w1 nn).toInt (e1 (nn + 1)) (e1 (nn + 2)) → TB w2 e2 f2 dn (w1 nn).toInt (e1 (nn + 1)) (e1 (nn + 2))) : TQ w e nn w2 e2 f2 dn := fun h1 h2 h3 h4 => by
  obtain ⟨a0, a1, a2, a3, a4, a5, a6⟩ := hT h1 h2 h3 h4
  unfold cw_ro at ho ho2
  rw [a1, a2, a3, a4] at ht
  exact ⟨a0, (fr nn (by omega) (by omega)).1.trans a1, (fr (nn + 1) (by omega) (by omega)).2.trans a2, (fr (nn + 2) (by omega) (by omega)).2.trans a3, (fr (nn + 3) (by omega) (by omega)).2.trans a4, by omega, ht a0 h2 h3 a6⟩
theorem TQ_a {w : Nat → Int32} {e : Nat → Nat → Int32} {K nn dn : Nat} {w1 w2 : Nat → Int32} {e1 f1 e2 f2 : Nat → Nat → Int32} (hT : TQ w e nn w1 e1 f1 dn) (ho : cw_ro K nn) (ho2 : cw_ro K dn) (fr : ∀ i9, 40 ≤ i9 → (i9 < dn ∨ dn + 4 ≤ i9) → w2 i9 = w1 i9 ∧ e2 i9 = e1 i9) (hw : (w1 1).toInt ≤ (w2 1).toInt) (ht : ∀ (n : Int) (c m : Nat → Int32), (∀ i : Nat, (i : Int) < n → ¬ m i = w1 1) → TB w1 e1 f1 dn n c m → TB w2 e2 f2 dn n c m) : TQ w e nn w2 e2 f2 dn := fun h1 h2 h3 h4 => by
  obtain ⟨a0, a1, a2, a3, a4, a5, a6⟩ := hT h1 h2 h3 h4
  unfold cw_ro at ho ho2
  exact ⟨a0, (fr nn (by omega) (by omega)).1.trans a1, (fr (nn + 1) (by omega) (by omega)).2.trans a2, (fr (nn + 2) (by omega) (by omega)).2.trans a3, (fr (nn + 3) (by omega) (by omega)).2.trans a4, by omega, ht _ _ _ (fun i hi e9 => by have := h4 i hi; rw [e9] at this; omega) a6⟩
