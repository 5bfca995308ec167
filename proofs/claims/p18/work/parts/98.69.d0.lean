/-! rows as they stood behind an edit: the reference's slots -/
def rC (f : Nat → Nat → Int32) (i : Int) : Nat → Int32 := fun j => f 12 (160 * (i % 40).toNat + j)
def rM (f : Nat → Nat → Int32) (i : Int) : Nat → Int32 := fun j => f 13 (160 * (i % 40).toNat + j)
def rN (f : Nat → Nat → Int32) (i : Int) : Int32 := f 14 (i % 40).toNat
def rT (f : Nat → Nat → Int32) (i : Int) : Int32 := f 15 (i % 40).toNat
def kno (e i : Int) : Prop := 0 ≤ i ∧ i ≤ e ∧ e - 40 < i
def WSV (e i : Int) (c m : Nat → Int32) (n : Int32) (p t x : Int) : Prop := (¬ kno e i ∧ x = -1) ∨ (kno e i ∧ ((p = -1 ∧ x = n.toInt) ∨ (¬ p = -1 ∧ x = (TL c m n.toInt p t).toInt)))
theorem WSV_u {e i p t x y : Int} {c m d k : Nat → Int32} {n n2 : Int32} {L : List pl_P} (h1 : kno e i → rp n c m L) (h2 : kno e i → rp n2 d k L) (a : WSV e i c m n p t x) (b : WSV e i d k n2 p t y) : x = y := by
  rcases a with ⟨a1, a2⟩ | ⟨a1, a2⟩
  · rcases b with ⟨b1, b2⟩ | ⟨b1, b2⟩
    · omega
    · exact absurd b1 a1
  · rcases b with ⟨b1, b2⟩ | ⟨b1, b2⟩
    · exact absurd a1 b1
    · have r1 := h1 a1
      have r2 := h2 a1
      have hn : n.toInt = n2.toInt := r1.1.trans r2.1.symm
      have hc : ∀ j : Nat, (j : Int) < n2.toInt → c j = d j := fun j hj => by have q := r2.1; rw [(r1.2 j (by omega)).1, (r2.2 j (by omega)).1]
      have hm : ∀ j : Nat, (j : Int) < n2.toInt → m j = k j := fun j hj => by have q := r2.1; rw [(r1.2 j (by omega)).2, (r2.2 j (by omega)).2]
      rcases a2 with ⟨a3, a4⟩ | ⟨a3, a4⟩
      · rcases b2 with ⟨b3, b4⟩ | ⟨b3, b4⟩
        · omega
        · exact absurd a3 b3
      · rcases b2 with ⟨b3, b4⟩ | ⟨b3, b4⟩
        · exact absurd b3 a3
        · rw [a4, b4, hn, TL_eq hc hm]
def CTD (e i : Int) (c : Nat → Int32) (n l r x : Int) : Prop := (¬ kno e i ∧ x = -1) ∨ (kno e i ∧ x = CNT c n l r)
def TCD (e i : Int) (t x : Int) : Prop := (¬ (kno e i ∧ 1 ≤ i) ∧ x = -1) ∨ ((kno e i ∧ 1 ≤ i) ∧ x = t)
theorem cw_rr_f {K : Nat} (q : Nat → Nat) (j : Nat) : (cw_rr K q j = none ∧ K ≤ j) ∨ ∃ o, cw_rr K q j = some (q o) ∧ cw_ro K o ∧ o = 40 + 4 * j := by
  unfold cw_rr
  by_cases h : j < K
  · rw [if_pos h]; exact Or.inr ⟨40 + 4 * j, rfl, ⟨by omega, by omega, by omega⟩, rfl⟩
  · rw [if_neg h]; exact Or.inl ⟨rfl, by omega⟩
