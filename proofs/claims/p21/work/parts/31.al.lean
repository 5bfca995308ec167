/-! cells one by one, newest first -/
def al (A : pm_H) : List (Nat × va_E) → pm_H
  | [] => A
  | p :: r => pm_up (al A r) p.1 p.2
theorem al_none {A : pm_H} {b : Nat} : ∀ {L : List (Nat × va_E)}, al A L b = none → (∀ p ∈ L, b ≠ p.1) ∧ A b = none
  | [], h => ⟨fun _ h => absurd h List.not_mem_nil, h⟩
  | p :: r, h => by
    have h1 : pm_up (al A r) p.1 p.2 b = none := h
    by_cases hb : b = p.1
    · rw [hb, pm_up_s] at h1; cases h1
    · rw [pm_up_n hb] at h1
      obtain ⟨h2, h3⟩ := al_none h1
      exact ⟨List.forall_mem_cons.mpr ⟨hb, h2⟩, h3⟩
theorem al_nd {A : pm_H} {b : Nat} {e : va_E} {L : List (Nat × va_E)} (nd : (L.map Prod.fst).Nodup) (h : al A L b = none) : (((b, e) :: L).map Prod.fst).Nodup := by
  rw [List.map_cons, List.nodup_cons]
  refine ⟨fun hm => ?_, nd⟩
  obtain ⟨p, hp, he⟩ := List.mem_map.mp hm
  exact (al_none h).1 p hp he.symm
theorem al_out {A : pm_H} {x : Nat} : ∀ {L : List (Nat × va_E)}, (∀ p ∈ L, x ≠ p.1) → al A L x = A x
  | [], _ => rfl
  | p :: r, h => by
    show pm_up (al A r) p.1 p.2 x = A x
    rw [pm_up_n (h p List.mem_cons_self), al_out (fun q hq => h q (List.mem_cons_of_mem _ hq))]
theorem al_get {A : pm_H} {a : Nat} {e : va_E} : ∀ {L : List (Nat × va_E)} {k : Nat}, (L.map Prod.fst).Nodup → L[k]? = some (a, e) → al A L a = some e
  | [], k, _, h => by simp at h
  | p :: r, 0, _, h => by
    simp only [List.getElem?_cons_zero, Option.some.injEq] at h
    subst h
    exact pm_up_s
  | p :: r, k + 1, nd, h => by
    rw [List.getElem?_cons_succ] at h
    rw [List.map_cons, List.nodup_cons] at nd
    have hn : a ≠ p.1 := fun q => nd.1 (by rw [← q]; exact List.mem_map.mpr ⟨(a, e), List.mem_of_getElem? h, rfl⟩)
    show pm_up (al A r) p.1 p.2 a = some e
    rw [pm_up_n hn]
    exact al_get nd.2 h
theorem pm_up_c {A : pm_H} {a b : Nat} {e e' : va_E} (h : a ≠ b) : pm_up (pm_up A a e) b e' = pm_up (pm_up A b e') a e := by
  funext q
  by_cases h1 : q = a
  · subst h1
    rw [pm_up_n h, pm_up_s, pm_up_s]
  · by_cases h2 : q = b
    · subst h2
      rw [pm_up_s, pm_up_n h1, pm_up_s]
    · rw [pm_up_n h2, pm_up_n h1, pm_up_n h1, pm_up_n h2]
theorem al_set0 {A : pm_H} {a : Nat} {e e0 : va_E} : ∀ {L : List (Nat × va_E)} {k : Nat}, (L.map Prod.fst).Nodup → L[k]? = some (a, e0) → pm_up (al A L) a e = al A (L.set k (a, e))
  | [], k, _, h => by simp at h
  | p :: r, 0, _, h => by
    simp only [List.getElem?_cons_zero, Option.some.injEq] at h
    subst h
    show pm_up (pm_up (al A r) a e0) a e = pm_up (al A r) a e
    exact pm_up_up
  | p :: r, k + 1, nd, h => by
    rw [List.getElem?_cons_succ] at h
    rw [List.map_cons, List.nodup_cons] at nd
    have hn : p.1 ≠ a := fun q => nd.1 (by rw [q]; exact List.mem_map.mpr ⟨(a, e0), List.mem_of_getElem? h, rfl⟩)
    show pm_up (pm_up (al A r) p.1 p.2) a e = pm_up (al A (r.set k (a, e))) p.1 p.2
    rw [pm_up_c hn, al_set0 nd.2 h]
theorem al_set {A : pm_H} {a : Nat} {e e0 : va_E} {L L' : List (Nat × va_E)} {k : Nat} (nd : (L.map Prod.fst).Nodup) (h : L[k]? = some (a, e0)) (h' : L.set k (a, e) = L') : pm_up (al A L) a e = al A L' := by rw [← h']; exact al_set0 nd h
theorem al_upm {g : pm_G} {A : pm_H} {L : List (Nat × va_E)} {a : Nat} {r : Nat → Nat} (h3 : ∀ j, j < 9 → r j ≠ a) (h4 : ∀ x y, x < 9 → y < 9 → r x = r y → x = y) : pm_upm g (al A L) a r 9 161 = al A ((r 8, pm_ia g 161 (fun _ => 0)) :: (r 7, pm_ia g 161 (fun _ => 0)) :: (r 6, pm_ia g 161 (fun _ => 0)) :: (r 5, pm_ia g 161 (fun _ => 0)) :: (r 4, pm_ia g 161 (fun _ => 0)) :: (r 3, pm_ia g 161 (fun _ => 0)) :: (r 2, pm_ia g 161 (fun _ => 0)) :: (r 1, pm_ia g 161 (fun _ => 0)) :: (r 0, pm_ia g 161 (fun _ => 0)) :: (a, pm_ma g 9 (fun j => if j < 9 then some (r j) else none)) :: L) := by
  funext q
  show pm_upm g (al A L) a r 9 161 q = pm_up (pm_up (pm_up (pm_up (pm_up (pm_up (pm_up (pm_up (pm_up (pm_up (al A L) a _) (r 0) _) (r 1) _) (r 2) _) (r 3) _) (r 4) _) (r 5) _) (r 6) _) (r 7) _) (r 8) _ q
  unfold pm_upm
  by_cases ha : q = a
  · rw [if_pos ha]
    subst ha
    rw [pm_up_n (h3 8 (by decide)).symm, pm_up_n (h3 7 (by decide)).symm, pm_up_n (h3 6 (by decide)).symm, pm_up_n (h3 5 (by decide)).symm, pm_up_n (h3 4 (by decide)).symm, pm_up_n (h3 3 (by decide)).symm, pm_up_n (h3 2 (by decide)).symm, pm_up_n (h3 1 (by decide)).symm, pm_up_n (h3 0 (by decide)).symm, pm_up_s]
  · rw [if_neg ha]
    by_cases hj : ∃ j, j < 9 ∧ q = r j
    · rw [if_pos hj]
      obtain ⟨j, hj9, rfl⟩ := hj
      unfold pm_up
      by_cases e8 : r j = r 8
      · rw [if_pos e8]
      · rw [if_neg e8]
        by_cases e7 : r j = r 7
        · rw [if_pos e7]
        · rw [if_neg e7]
          by_cases e6 : r j = r 6
          · rw [if_pos e6]
          · rw [if_neg e6]
            by_cases e5 : r j = r 5
            · rw [if_pos e5]
            · rw [if_neg e5]
              by_cases e4 : r j = r 4
              · rw [if_pos e4]
              · rw [if_neg e4]
                by_cases e3 : r j = r 3
                · rw [if_pos e3]
                · rw [if_neg e3]
                  by_cases e2 : r j = r 2
                  · rw [if_pos e2]
                  · rw [if_neg e2]
                    by_cases e1 : r j = r 1
                    · rw [if_pos e1]
                    · rw [if_neg e1]
                      by_cases e0 : r j = r 0
                      · rw [if_pos e0]
                      · exfalso
                        rcases (show j = 0 ∨ j = 1 ∨ j = 2 ∨ j = 3 ∨ j = 4 ∨ j = 5 ∨ j = 6 ∨ j = 7 ∨ j = 8 by omega) with rfl | rfl | rfl | rfl | rfl | rfl | rfl | rfl | rfl
                        · exact e0 rfl
                        · exact e1 rfl
                        · exact e2 rfl
                        · exact e3 rfl
                        · exact e4 rfl
                        · exact e5 rfl
                        · exact e6 rfl
                        · exact e7 rfl
                        · exact e8 rfl
    · rw [if_neg hj]
      have hq : ∀ j, j < 9 → q ≠ r j := fun j h9 e9 => hj ⟨j, h9, e9⟩
      rw [pm_up_n (hq 8 (by decide)), pm_up_n (hq 7 (by decide)), pm_up_n (hq 6 (by decide)), pm_up_n (hq 5 (by decide)), pm_up_n (hq 4 (by decide)), pm_up_n (hq 3 (by decide)), pm_up_n (hq 2 (by decide)), pm_up_n (hq 1 (by decide)), pm_up_n (hq 0 (by decide)), pm_up_n ha]
theorem al_nd9 {A : pm_H} {L : List (Nat × va_E)} {a : Nat} {r : Nat → Nat} {ea e : va_E} (nd : (L.map Prod.fst).Nodup) (h1 : al A L a = none) (h2 : ∀ j, j < 9 → al A L (r j) = none) (h3 : ∀ j, j < 9 → r j ≠ a) (h4 : ∀ x y, x < 9 → y < 9 → r x = r y → x = y) : (((r 8, e) :: (r 7, e) :: (r 6, e) :: (r 5, e) :: (r 4, e) :: (r 3, e) :: (r 2, e) :: (r 1, e) :: (r 0, e) :: (a, ea) :: L).map Prod.fst).Nodup := by
  have key : ∀ n, n ≤ 9 → ∀ M : List (Nat × va_E), (∀ p ∈ M, (p.1 = a ∨ (∃ k, k < n ∧ p.1 = r k)) ∨ p ∈ L) → (M.map Prod.fst).Nodup → n < 9 → (((r n, e) :: M).map Prod.fst).Nodup := by
    intro n _ M hM ndM hn
    rw [List.map_cons, List.nodup_cons]
    refine ⟨fun hm => ?_, ndM⟩
    obtain ⟨p, hp, he⟩ := List.mem_map.mp hm
    rcases hM p hp with (ha | ⟨k, hk, hr⟩) | hl
    · exact h3 n hn (by rw [← ha]; exact he.symm)
    · have := h4 n k hn (by omega) (by rw [← hr]; exact he.symm)
      omega
    · exact (al_none (h2 n hn)).1 p hl he.symm
  have b0 : (((a, ea) :: L).map Prod.fst).Nodup := al_nd nd h1
  have m0 : ∀ p ∈ (a, ea) :: L, (p.1 = a ∨ (∃ k, k < 0 ∧ p.1 = r k)) ∨ p ∈ L := fun p hp => by
    rcases List.mem_cons.mp hp with h | h
    · rw [h]; exact Or.inl (Or.inl rfl)
    · exact Or.inr h
  have st : ∀ n (M : List (Nat × va_E)), (∀ p ∈ M, (p.1 = a ∨ (∃ k, k < n ∧ p.1 = r k)) ∨ p ∈ L) → ∀ p ∈ (r n, e) :: M, (p.1 = a ∨ (∃ k, k < n + 1 ∧ p.1 = r k)) ∨ p ∈ L := fun n M hM p hp => by
    rcases List.mem_cons.mp hp with h | h
    · rw [h]; exact Or.inl (Or.inr ⟨n, by omega, rfl⟩)
    · rcases hM p h with (h5 | ⟨k, h5, h6⟩) | h5
      · exact Or.inl (Or.inl h5)
      · exact Or.inl (Or.inr ⟨k, by omega, h6⟩)
      · exact Or.inr h5
  have b1 := key 0 (by omega) _ m0 b0 (by omega)
  have m1 := st 0 _ m0
  have b2 := key 1 (by omega) _ m1 b1 (by omega)
  have m2 := st 1 _ m1
  have b3 := key 2 (by omega) _ m2 b2 (by omega)
  have m3 := st 2 _ m2
  have b4 := key 3 (by omega) _ m3 b3 (by omega)
  have m4 := st 3 _ m3
  have b5 := key 4 (by omega) _ m4 b4 (by omega)
  have m5 := st 4 _ m4
  have b6 := key 5 (by omega) _ m5 b5 (by omega)
  have m6 := st 5 _ m5
  have b7 := key 6 (by omega) _ m6 b6 (by omega)
  have m7 := st 6 _ m6
  have b8 := key 7 (by omega) _ m7 b7 (by omega)
  have m8 := st 7 _ m7
  exact key 8 (by omega) _ m8 b8 (by omega)
