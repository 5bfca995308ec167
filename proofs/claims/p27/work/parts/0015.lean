
theorem pm_sir_v {K : Int32 → Nat → List Value → Prop} {st : List Value} (h : pm_sir K st) : ∃ x a r, st = .int x :: .ref a :: r ∧ K x a r := by
  unfold pm_sir at h; split at h
  · exact ⟨_, _, _, rfl, h⟩
  · exact h.elim
theorem pm_siir_v {K : Int32 → Int32 → Nat → List Value → Prop} {st : List Value} (h : pm_siir K st) : ∃ v x a r, st = .int v :: .int x :: .ref a :: r ∧ K v x a r := by
  unfold pm_siir at h; split at h
  · exact ⟨_, _, _, _, rfl, h⟩
  · exact h.elim
theorem pm_srir_v {K : Nat → Int32 → Nat → List Value → Prop} {st : List Value} (h : pm_srir K st) : ∃ v x a r, st = .ref v :: .int x :: .ref a :: r ∧ K v x a r := by
  unfold pm_srir at h; split at h
  · exact ⟨_, _, _, _, rfl, h⟩
  · exact h.elim
theorem pm_ga_v {fs : List Value} {k : Nat} {K : Value → Prop} (h : pm_ga fs k K) : ∃ v, pm_at fs k = some v ∧ K v := by
  unfold pm_ga at h; split at h
  · rename_i v e; exact ⟨v, e, h⟩
  · exact h.elim
theorem pm_pop_v : ∀ (k : Nat) (st acc as rest : List Value), pm_pop k st acc = some (as, rest) → ∃ bs, as = bs ++ acc ∧ bs.length = k ∧ st = bs.reverse ++ rest
  | 0, st, acc, as, rest, h => by
    simp only [pm_pop, Option.some.injEq, Prod.mk.injEq] at h
    exact ⟨[], by simp [h.1], rfl, by simp [h.2]⟩
  | k + 1, [], acc, as, rest, h => by simp [pm_pop] at h
  | k + 1, v :: st, acc, as, rest, h => by
    simp only [pm_pop] at h
    obtain ⟨bs, h1, h2, h3⟩ := pm_pop_v k st (v :: acc) as rest h
    exact ⟨bs ++ [v], by simp [h1], by simp [h2], by simp [h3]⟩
theorem pm_pv_v {k : Nat} {st : List Value} {K : List Value → Nat → List Value → Prop} (h : pm_pv k st K) : ∃ as b rest, as.length = k ∧ st = as.reverse ++ .ref b :: rest ∧ K as b rest := by
  unfold pm_pv at h; split at h
  · rename_i as b rest e
    obtain ⟨bs, h1, h2, h3⟩ := pm_pop_v _ _ _ _ _ e
    rw [List.append_nil] at h1
    subst h1
    exact ⟨as, b, rest, h2, h3, h⟩
  · exact h.elim
theorem pm_ps_v {k : Nat} {st : List Value} {K : List Value → List Value → Prop} (h : pm_ps k st K) : ∃ as rest, as.length = k ∧ st = as.reverse ++ rest ∧ K as rest := by
  unfold pm_ps at h; split at h
  · rename_i as rest e
    obtain ⟨bs, h1, h2, h3⟩ := pm_pop_v _ _ _ _ _ e
    rw [List.append_nil] at h1
    subst h1
    exact ⟨as, rest, h2, h3, h⟩
  · exact h.elim
