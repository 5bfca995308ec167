
def cw_W (K nn dn : Nat) (w : Nat → Int32) : Prop := (1 ≤ K ∧ K ≤ 41) ∧ (40 ≤ nn ∧ nn < 40 + 4 * K ∧ nn % 4 = 0) ∧ (40 ≤ dn ∧ dn < 40 + 4 * K ∧ dn % 4 = 0) ∧ (0 ≤ (w 0).toInt ∧ (w 0).toInt ≤ 100000) ∧ ((w 0).toInt + 1 ≤ K ∨ K = 41) ∧ (0 ≤ (w 1).toInt ∧ (w 1).toInt ≤ 10000) ∧ (0 ≤ (w 3).toInt ∧ (w 3).toInt ≤ 30)
def cw_Z (w : Nat → Int32) : Prop := ∀ o : Nat, 40 ≤ o → o % 4 = 0 → 0 ≤ (w o).toInt ∧ (w o).toInt ≤ 160
def cw_E (e : Nat → Nat → Int32) : Prop := ∀ o : Nat, 40 ≤ o → o % 4 = 0 → ∀ j : Nat, (0 ≤ (e (o + 1) j).toInt ∧ (e (o + 1) j).toInt ≤ 23) ∧ (-1 ≤ (e (o + 3) j).toInt ∧ (e (o + 3) j).toInt ≤ 159)
def cw_S (v : Nat → Int32) (f : Nat → Nat → Int32) : Prop := (0 ≤ (v 0).toInt ∧ (v 0).toInt ≤ 24) ∧ (∀ j : Nat, 0 ≤ (f 16 j).toInt ∧ (f 16 j).toInt ≤ 23) ∧ ∀ j : Nat, -1 ≤ (f 13 j).toInt ∧ (f 13 j).toInt ≤ 159
def cw_I (K nn dn : Nat) (q : Nat → Nat) (w : Nat → Int32) (e : Nat → Nat → Int32) : Prop := gw_D (40 + 4 * K) q ∧ cw_W K nn dn w ∧ cw_Z w ∧ cw_E e
theorem cw_S_v {v : Nat → Int32} {f : Nat → Nat → Int32} (h : cw_S v f) (s : Nat) (x : Int32) (hs : s ≠ 0) : cw_S (upd v s x) f := ⟨by rw [pk_un (Ne.symm hs)]; exact h.1, h.2⟩
theorem cw_S_v0 {v : Nat → Int32} {f : Nat → Nat → Int32} (h : cw_S v f) (x : Int32) (hx : 0 ≤ x.toInt ∧ x.toInt ≤ 24) : cw_S (upd v 0 x) f := ⟨by rw [pk_us]; exact hx, h.2⟩
theorem cw_S_fr {v : Nat → Int32} {f : Nat → Nat → Int32} (h : cw_S v f) (i : Nat) (r : Nat → Int32) (h1 : i ≠ 16) (h2 : i ≠ 13) : cw_S v (va_up f i r) := ⟨h.1, by
  have e1 : va_up f i r 16 = f 16 := by simp [va_up, Ne.symm h1]
  have e2 : va_up f i r 13 = f 13 := by simp [va_up, Ne.symm h2]
  rw [e1, e2]; exact h.2⟩
theorem cw_S_f16 {v : Nat → Int32} {f : Nat → Nat → Int32} (h : cw_S v f) (k : Nat) (x : Int32) (hx : 0 ≤ x.toInt ∧ x.toInt ≤ 23) : cw_S v (va_up f 16 (upd (f 16) k x)) := by
  refine ⟨h.1, fun j => ?_, h.2.2⟩
  show 0 ≤ (upd (f 16) k x j).toInt ∧ (upd (f 16) k x j).toInt ≤ 23
  by_cases hj : j = k
  · subst hj; rw [pk_us]; exact hx
  · rw [pk_un hj]; exact h.2.1 j
theorem cw_S_f13 {v : Nat → Int32} {f : Nat → Nat → Int32} (h : cw_S v f) (k : Nat) (x : Int32) (hx : -1 ≤ x.toInt ∧ x.toInt ≤ 159) : cw_S v (va_up f 13 (upd (f 13) k x)) := by
  refine ⟨h.1, h.2.1, fun j => ?_⟩
  show -1 ≤ (upd (f 13) k x j).toInt ∧ (upd (f 13) k x j).toInt ≤ 159
  by_cases hj : j = k
  · subst hj; rw [pk_us]; exact hx
  · rw [pk_un hj]; exact h.2.2 j
theorem cw_E_up {e : Nat → Nat → Int32} (h : cw_E e) (i : Nat) (r : Nat → Int32) (h1 : 40 ≤ i → i % 4 = 1 → ∀ j, 0 ≤ (r j).toInt ∧ (r j).toInt ≤ 23) (h3 : 40 ≤ i → i % 4 = 3 → ∀ j, -1 ≤ (r j).toInt ∧ (r j).toInt ≤ 159) : cw_E (va_up e i r) := by
  intro o ho hm j
  constructor
  · by_cases hi : o + 1 = i
    · simp only [va_up, if_pos hi]; exact h1 (by omega) (by omega) j
    · simp only [va_up, if_neg hi]; exact (h o ho hm j).1
  · by_cases hi : o + 3 = i
    · simp only [va_up, if_pos hi]; exact h3 (by omega) (by omega) j
    · simp only [va_up, if_neg hi]; exact (h o ho hm j).2
theorem cw_E_1 {e : Nat → Nat → Int32} (h : cw_E e) {o : Nat} (ho : 40 ≤ o ∧ o % 4 = 0) (k : Nat) (x : Int32) (hx : 0 ≤ x.toInt ∧ x.toInt ≤ 23) : cw_E (va_up e (o + 1) (upd (e (o + 1)) k x)) := cw_E_up h _ _ (fun _ _ j => by
  by_cases hj : j = k
  · subst hj; rw [pk_us]; exact hx
  · rw [pk_un hj]; exact (h o ho.1 ho.2 j).1) (fun _ h => by omega)
theorem cw_E_2 {e : Nat → Nat → Int32} (h : cw_E e) {o : Nat} (ho : 40 ≤ o ∧ o % 4 = 0) (r : Nat → Int32) : cw_E (va_up e (o + 2) r) := cw_E_up h _ _ (fun _ h => by omega) (fun _ h => by omega)
theorem cw_E_3 {e : Nat → Nat → Int32} (h : cw_E e) {o : Nat} (ho : 40 ≤ o ∧ o % 4 = 0) (k : Nat) (x : Int32) (hx : -1 ≤ x.toInt ∧ x.toInt ≤ 159) : cw_E (va_up e (o + 3) (upd (e (o + 3)) k x)) := cw_E_up h _ _ (fun _ h => by omega) (fun _ _ j => by
  by_cases hj : j = k
  · subst hj; rw [pk_us]; exact hx
  · rw [pk_un hj]; exact (h o ho.1 ho.2 j).2)
theorem cw_Z_up {w : Nat → Int32} (h : cw_Z w) (s : Nat) (x : Int32) (hs : s < 40 ∨ s % 4 = 1 ∨ (0 ≤ x.toInt ∧ x.toInt ≤ 160)) : cw_Z (upd w s x) := by
  intro o h1 h2
  by_cases ho : o = s
  · subst ho
    rw [pk_us]
    rcases hs with h | h | h
    · omega
    · omega
    · exact h
  · rw [pk_un ho]; exact h o h1 h2
theorem cw_rr_c {K : Nat} (q : Nat → Nat) (j : Nat) : cw_rr K q j = none ∨ ∃ o, cw_rr K q j = some (q o) ∧ cw_ro K o := by
  unfold cw_rr
  by_cases h : j < K
  · rw [if_pos h]
    exact Or.inr ⟨_, rfl, by unfold cw_ro; omega⟩
  · rw [if_neg h]
    exact Or.inl rfl
theorem cw_sz {K nn dn : Nat} {q : Nat → Nat} {w : Nat → Int32} {e : Nat → Nat → Int32} (hI : cw_I K nn dn q w e) {o : Nat} (ho : cw_ro K o) : 0 ≤ (w o).toInt ∧ (w o).toInt ≤ 160 := hI.2.2.1 o ho.1 ho.2.2
theorem cw_col {K nn dn : Nat} {q : Nat → Nat} {w : Nat → Int32} {e : Nat → Nat → Int32} (hI : cw_I K nn dn q w e) {o : Nat} (ho : cw_ro K o) (j : Nat) : 0 ≤ (e (o + 1) j).toInt ∧ (e (o + 1) j).toInt ≤ 23 := (hI.2.2.2 o ho.1 ho.2.2 j).1
theorem cw_ahd {K nn dn : Nat} {q : Nat → Nat} {w : Nat → Int32} {e : Nat → Nat → Int32} (hI : cw_I K nn dn q w e) {o : Nat} (ho : cw_ro K o) (j : Nat) : -1 ≤ (e (o + 3) j).toInt ∧ (e (o + 3) j).toInt ≤ 159 := (hI.2.2.2 o ho.1 ho.2.2 j).2
theorem cw_S_fl {v : Nat → Int32} {f : Nat → Nat → Int32} (h : cw_S v f) (n : Nat) (x : Int32) (hx : -1 ≤ x.toInt ∧ x.toInt ≤ 159) : cw_S v (va_up f 13 (fun j => if j < n then x else f 13 j)) := by
  refine ⟨h.1, h.2.1, fun j => ?_⟩
  show -1 ≤ (if j < n then x else f 13 j).toInt ∧ (if j < n then x else f 13 j).toInt ≤ 159
  split
  · exact hx
  · exact h.2.2 j
/-! the ends of its contracts -/
def cw_Qs (A0 : pm_H) (g : pm_G) (K nn dn : Nat) (q : Nat → Nat) (w : Nat → Int32) (e : Nat → Nat → Int32) (P : Option Value → (Nat → Int32) → (Nat → Nat → Int32) → Prop) : Option Value → pm_H → Prop := fun r A' => ∃ (v2 : Nat → Int32) (f2 : Nat → Nat → Int32), A' = cw A0 g K nn dn q w e v2 f2 ∧ cw_S v2 f2 ∧ P r v2 f2
def cw_Qt (A0 : pm_H) (g : pm_G) (K nn dn : Nat) (q : Nat → Nat) (P : Option Value → (Nat → Int32) → (Nat → Nat → Int32) → Prop) : Option Value → pm_H → Prop := fun r A' => ∃ (w2 : Nat → Int32) (e2 : Nat → Nat → Int32) (v2 : Nat → Int32) (f2 : Nat → Nat → Int32), A' = cw A0 g K nn dn q w2 e2 v2 f2 ∧ cw_I K nn dn q w2 e2 ∧ cw_S v2 f2 ∧ P r w2 e2
def cw_X (A0 : pm_H) (K : Nat) (q : Nat → Nat) (K2 : Nat) (q2 : Nat → Nat) : Prop := K ≤ K2 ∧ (∀ i, i < 40 + 4 * K → q2 i = q i) ∧ ∀ i, 40 + 4 * K ≤ i → i < 40 + 4 * K2 → A0 (q2 i) = none
theorem cw_X_r {A0 : pm_H} {K : Nat} {q : Nat → Nat} : cw_X A0 K q K q := ⟨Nat.le_refl _, fun _ _ => rfl, fun _ h1 h2 => absurd h2 (by omega)⟩
def cw_Qb (A0 : pm_H) (g : pm_G) (K nn : Nat) (q : Nat → Nat) (P : Option Value → Nat → Nat → Nat → (Nat → Int32) → (Nat → Nat → Int32) → Prop) : Option Value → pm_H → Prop := fun r A' => ∃ (K2 nn2 dn2 : Nat) (q2 : Nat → Nat) (w2 : Nat → Int32) (e2 : Nat → Nat → Int32) (v2 : Nat → Int32) (f2 : Nat → Nat → Int32), A' = cw A0 g K2 nn2 dn2 q2 w2 e2 v2 f2 ∧ cw_I K2 nn2 dn2 q2 w2 e2 ∧ cw_S v2 f2 ∧ cw_X A0 K q K2 q2 ∧ P r K2 nn2 dn2 w2 e2
