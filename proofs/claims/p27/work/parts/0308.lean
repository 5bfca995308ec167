
theorem al_nd9 {A : pm_H} {L : List (Nat × va_E)} {a : Nat} {r : Nat → Nat} {ea e : va_E} (nd : (L.map Prod.fst).Nodup) (h1 : al A L a = none) (h2 : ∀ j, j < 9 → al A L (r j) = none) (h3 : ∀ j, j < 9 → r j ≠ a) (h4 : ∀ x y, x < 9 → y < 9 → r x = r y → x = y) : (((r 8, e) :: (r 7, e) :: (r 6, e) :: (r 5, e) :: (r 4, e) :: (r 3, e) :: (r 2, e) :: (r 1, e) :: (r 0, e) :: (a, ea) :: L).map Prod.fst).Nodup := by
  have key : ∀ n, n ≤ 9 → ∀ M : List (Nat × va_E), (∀ p ∈ M, (p.1 = a ∨ (∃ k, k < n ∧ p.1 = r k)) ∨ p ∈ L) → (M.map Prod.fst).Nodup → n < 9 → (((r n, e) :: M).map Prod.fst).Nodup := by
    intro n _ M hM ndM hn
    rw [List.map_cons, List.nodup_cons]
    refine ⟨fun hm => ?_, ndM⟩
    obtain ⟨p, hp, he⟩ := List.mem_map.mp hm
    rcases hM p hp with (ha | ⟨k, hk, hr⟩) | hl
    · exact h3 n hn (by rw [← ha]; exact he.symm)
    · have := h4 n k hn (by omega) (by rw [← hr]; exact he.symm)
      omega
    · exact (al_none (h2 n hn)).1 p hl he.symm
  have b0 : (((a, ea) :: L).map Prod.fst).Nodup := al_nd nd h1
  have m0 : ∀ p ∈ (a, ea) :: L, (p.1 = a ∨ (∃ k, k < 0 ∧ p.1 = r k)) ∨ p ∈ L := fun p hp => by
    rcases List.mem_cons.mp hp with h | h
    · rw [h]; exact Or.inl (Or.inl rfl)
    · exact Or.inr h
  have st : ∀ n (M : List (Nat × va_E)), (∀ p ∈ M, (p.1 = a ∨ (∃ k, k < n ∧ p.1 = r k)) ∨ p ∈ L) → ∀ p ∈ (r n, e) :: M, (p.1 = a ∨ (∃ k, k < n + 1 ∧ p.1 = r k)) ∨ p ∈ L := fun n M hM p hp => by
    rcases List.mem_cons.mp hp with h | h
    · rw [h]; exact Or.inl (Or.inr ⟨n, by omega, rfl⟩)
    · rcases hM p h with (h5 | ⟨k, h5, h6⟩) | h5
      · exact Or.inl (Or.inl h5)
      · exact Or.inl (Or.inr ⟨k, by omega, h6⟩)
      · exact Or.inr h5
  have b1 := key 0 (by omega) _ m0 b0 (by omega)
  have m1 := st 0 _ m0
  have b2 := key 1 (by omega) _ m1 b1 (by omega)
  have m2 := st 1 _ m1
  have b3 := key 2 (by omega) _ m2 b2 (by omega)
  have m3 := st 2 _ m2
  have b4 := key 3 (by omega) _ m3 b3 (by omega)
  have m4 := st 3 _ m3
  have b5 := key 4 (by omega) _ m4 b4 (by omega)
  have m5 := st 4 _ m4
  have b6 := key 5 (by omega) _ m5 b5 (by omega)
  have m6 := st 5 _ m5
  have b7 := key 6 (by omega) _ m6 b6 (by omega)
  have m7 := st 6 _ m6
  have b8 := key 7 (by omega) _ m7 b7 (by omega)
  have m8 := st 7 _ m7
  exact key 8 (by omega) _ m8 b8 (by omega)

