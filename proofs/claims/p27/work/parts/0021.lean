
theorem pm_P1 {g : pm_G} {a : Nat} {e : va_E} {H : Heap} (h : va_at g.1 vwCl (a, e) H) : va_P g.1 vwCl [(a, e)] H := by
  intro k q hk
  have h0 : k < 1 := (List.getElem?_eq_some_iff.mp hk).1
  rw [show k = 0 by omega] at hk
  cases hk
  exact h
theorem pm_outer (c : ClassId) (N h0 : Nat) : ∀ i : Nat, Jvm.Free.Multi.outerC c N h0 i = arrV c N (fun j => va_rf (if j < i then some (h0 + 1 + j) else none))
  | 0 => by
    show ({ cls := c, slots := Array.replicate N .null, vm := .none } : Cell) = _
    rw [arrV_new]
    rfl
  | i + 1 => by
    show (Jvm.Free.Multi.outerC c N h0 i).setSlot i (.ref (h0 + 1 + i)) = _
    rw [pm_outer c N h0 i, arrV_store]
    congr 1
    funext j
    by_cases h : j = i
    · subst h
      simp [updV, va_rf]
    · have h2 : (j < i + 1) = (j < i) := by apply propext; omega
      simp [updV, h, h2]
