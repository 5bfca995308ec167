
def al (A : pm_H) : List (Nat × va_E) → pm_H
  | [] => A
  | p :: r => pm_up (al A r) p.1 p.2
theorem al_none {A : pm_H} {b : Nat} : ∀ {L : List (Nat × va_E)}, al A L b = none → (∀ p ∈ L, b ≠ p.1) ∧ A b = none
  | [], h => ⟨fun _ h => absurd h List.not_mem_nil, h⟩
  | p :: r, h => by
    have h1 : pm_up (al A r) p.1 p.2 b = none := h
    by_cases hb : b = p.1
    · rw [hb, pm_up_s] at h1; cases h1
    · rw [pm_up_n hb] at h1
      obtain ⟨h2, h3⟩ := al_none h1
      exact ⟨List.forall_mem_cons.mpr ⟨hb, h2⟩, h3⟩
theorem al_nd {A : pm_H} {b : Nat} {e : va_E} {L : List (Nat × va_E)} (nd : (L.map Prod.fst).Nodup) (h : al A L b = none) : (((b, e) :: L).map Prod.fst).Nodup := by
  rw [List.map_cons, List.nodup_cons]
  refine ⟨fun hm => ?_, nd⟩
  obtain ⟨p, hp, he⟩ := List.mem_map.mp hm
  exact (al_none h).1 p hp he.symm
theorem al_out {A : pm_H} {x : Nat} : ∀ {L : List (Nat × va_E)}, (∀ p ∈ L, x ≠ p.1) → al A L x = A x
  | [], _ => rfl
  | p :: r, h => by
    show pm_up (al A r) p.1 p.2 x = A x
    rw [pm_up_n (h p List.mem_cons_self), al_out (fun q hq => h q (List.mem_cons_of_mem _ hq))]
theorem al_get {A : pm_H} {a : Nat} {e : va_E} : ∀ {L : List (Nat × va_E)} {k : Nat}, (L.map Prod.fst).Nodup → L[k]? = some (a, e) → al A L a = some e
  | [], k, _, h => by simp at h
  | p :: r, 0, _, h => by
    simp only [List.getElem?_cons_zero, Option.some.injEq] at h
    subst h
    exact pm_up_s
  | p :: r, k + 1, nd, h => by
    rw [List.getElem?_cons_succ] at h
    rw [List.map_cons, List.nodup_cons] at nd
    have hn : a ≠ p.1 := fun q => nd.1 (by rw [← q]; exact List.mem_map.mpr ⟨(a, e), List.mem_of_getElem? h, rfl⟩)
    show pm_up (al A r) p.1 p.2 a = some e
    rw [pm_up_n hn]
    exact al_get nd.2 h
theorem pm_up_c {A : pm_H} {a b : Nat} {e e' : va_E} (h : a ≠ b) : pm_up (pm_up A a e) b e' = pm_up (pm_up A b e') a e := by
  funext q
  by_cases h1 : q = a
  · subst h1
    rw [pm_up_n h, pm_up_s, pm_up_s]
  · by_cases h2 : q = b
    · subst h2
      rw [pm_up_s, pm_up_n h1, pm_up_s]
    · rw [pm_up_n h2, pm_up_n h1, pm_up_n h1, pm_up_n h2]
theorem al_set0 {A : pm_H} {a : Nat} {e e0 : va_E} : ∀ {L : List (Nat × va_E)} {k : Nat}, (L.map Prod.fst).Nodup → L[k]? = some (a, e0) → pm_up (al A L) a e = al A (L.set k (a, e))
  | [], k, _, h => by simp at h
  | p :: r, 0, _, h => by
    simp only [List.getElem?_cons_zero, Option.some.injEq] at h
    subst h
    show pm_up (pm_up (al A r) a e0) a e = pm_up (al A r) a e
    exact pm_up_up
  | p :: r, k + 1, nd, h => by
    rw [List.getElem?_cons_succ] at h
    rw [List.map_cons, List.nodup_cons] at nd
    have hn : p.1 ≠ a := fun q => nd.1 (by rw [q]; exact List.mem_map.mpr ⟨(a, e0), List.mem_of_getElem? h, rfl⟩)
    show pm_up (pm_up (al A r) p.1 p.2) a e = pm_up (al A (r.set k (a, e))) p.1 p.2
    rw [pm_up_c hn, al_set0 nd.2 h]
theorem al_set {A : pm_H} {a : Nat} {e e0 : va_E} {L L' : List (Nat × va_E)} {k : Nat} (nd : (L.map Prod.fst).Nodup) (h : L[k]? = some (a, e0)) (h' : L.set k (a, e) = L') : pm_up (al A L) a e = al A L' := by rw [← h']; exact al_set0 nd h
