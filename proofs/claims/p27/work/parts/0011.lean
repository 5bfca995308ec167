
abbrev pm_H : Type := Nat → Option va_E
abbrev pm_G : Type := va_G × (ClassId × ClassId × ClassId)
abbrev pm_Op : Type := Instr × Nat × Nat × Nat × Int32
abbrev pm_L : Type := List (Option Value)
abbrev pm_J : Type := Nat → pm_L → List Value → pm_H → Nat → Nat → Prop
abbrev pm_ia (g : pm_G) (n : Nat) (f : Nat → Int32) : va_E := .inl (g.2.1, n, .inl f)
abbrev pm_ra (g : pm_G) (n : Nat) (f : Nat → Option Nat) : va_E := .inl (g.2.2.1, n, .inr (.inr (.inr (.inr f))))
abbrev pm_ma (g : pm_G) (n : Nat) (f : Nat → Option Nat) : va_E := .inl (g.2.2.2, n, .inr (.inr (.inr (.inr f))))
abbrev pm_ob (ci : Nat) (fs : List Value) : va_E := .inr (ci, fs)
def pm_up (A : pm_H) (a : Nat) (e : va_E) : pm_H := fun q => if q = a then some e else A q
theorem pm_up_s {A : pm_H} {a : Nat} {e : va_E} : pm_up A a e a = some e := if_pos rfl
theorem pm_up_n {A : pm_H} {a b : Nat} {e : va_E} (h : b ≠ a) : pm_up A a e b = A b := if_neg h
def pm_nl : Option Value → Option Value
  | some (.long _) => none
  | some (.double _) => none
  | a => a
def pm_st : pm_L → Nat → Value → pm_L
  | [], _, _ => []
  | _ :: r, 0, v => some v :: r
  | a :: r, 1, v => pm_nl a :: pm_st r 0 v
  | a :: r, i + 2, v => a :: pm_st r (i + 1) v
def pm_gt : pm_L → Nat → Option Value
  | [], _ => none
  | a :: _, 0 => a
  | _ :: r, i + 1 => pm_gt r i
def pm_un : pm_L → Nat → pm_L
  | [], _ => []
  | _ :: r, 0 => none :: r
  | a :: r, i + 1 => a :: pm_un r i
theorem pm_nl_some {a : Option Value} {w : Value} (h : pm_nl a = some w) : a = some w ∧ ¬ w.category = 2 := by
  cases a with
  | none => cases h
  | some v => cases v <;> first | (cases h; done) | (cases h; exact ⟨rfl, by simp [Value.category]⟩)
theorem pm_st_gt : ∀ (L : pm_L) (i j : Nat) (v w : Value), pm_gt (pm_st L i v) j = some w → (j = i ∧ w = v) ∨ (j ≠ i ∧ pm_gt L j = some w ∧ ¬ (j + 1 = i ∧ w.category = 2))
  | [], _, _, _, _, h => by simp [pm_st, pm_gt] at h
  | _ :: r, 0, 0, v, w, h => by simp [pm_st, pm_gt] at h; exact Or.inl ⟨rfl, h.symm⟩
  | _ :: r, 0, j + 1, v, w, h => by
    simp only [pm_st, pm_gt] at h
    exact Or.inr ⟨by omega, h, by omega⟩
  | a :: r, 1, 0, v, w, h => by
    simp only [pm_st, pm_gt] at h
    obtain ⟨h1, h2⟩ := pm_nl_some h
    exact Or.inr ⟨by omega, h1, fun q => h2 q.2⟩
  | a :: r, 1, j + 1, v, w, h => by
    simp only [pm_st, pm_gt] at h
    rcases pm_st_gt r 0 j v w h with ⟨h1, h2⟩ | ⟨h1, h2, h3⟩
    · exact Or.inl ⟨by omega, h2⟩
    · exact Or.inr ⟨by omega, h2, by omega⟩
  | a :: r, i + 2, 0, v, w, h => by
    simp only [pm_st, pm_gt] at h
    exact Or.inr ⟨by omega, h, by omega⟩
  | a :: r, i + 2, j + 1, v, w, h => by
    simp only [pm_st, pm_gt] at h
    rcases pm_st_gt r (i + 1) j v w h with ⟨h1, h2⟩ | ⟨h1, h2, h3⟩
    · exact Or.inl ⟨by omega, h2⟩
    · exact Or.inr ⟨by omega, h2, fun q => h3 ⟨by omega, q.2⟩⟩
theorem pm_un_gt : ∀ (L : pm_L) (i j : Nat) (w : Value), pm_gt (pm_un L i) j = some w → j ≠ i ∧ pm_gt L j = some w
  | [], _, _, _, h => by simp [pm_un, pm_gt] at h
  | _ :: r, 0, 0, w, h => by simp [pm_un, pm_gt] at h
  | _ :: r, 0, j + 1, w, h => by simp only [pm_un, pm_gt] at h; exact ⟨by omega, h⟩
  | a :: r, i + 1, 0, w, h => by simp only [pm_un, pm_gt] at h; exact ⟨by omega, h⟩
  | a :: r, i + 1, j + 1, w, h => by
    simp only [pm_un, pm_gt] at h
    obtain ⟨h1, h2⟩ := pm_un_gt r i j w h
    exact ⟨by omega, h2⟩
def pm_al : Nat → pm_L → List (Nat × Value)
  | _, [] => []
  | i, none :: r => pm_al (i + 1) r
  | i, some v :: r => (i, v) :: pm_al (i + 1) r
theorem pm_al_mem : ∀ (L : pm_L) (k j : Nat) (w : Value), (j, w) ∈ pm_al k L ↔ k ≤ j ∧ pm_gt L (j - k) = some w
  | [], k, j, w => by simp [pm_al, pm_gt]
  | none :: r, k, j, w => by
    rw [pm_al, pm_al_mem r (k + 1) j w]
    constructor
    · rintro ⟨h1, h2⟩
      refine ⟨by omega, ?_⟩
      rw [show j - k = (j - (k + 1)) + 1 by omega]
      exact h2
    · rintro ⟨h1, h2⟩
      rcases Nat.eq_or_lt_of_le h1 with h3 | h3
      · subst h3
        rw [Nat.sub_self] at h2
        cases h2
      · rw [show j - k = (j - (k + 1)) + 1 by omega] at h2
        exact ⟨h3, h2⟩
  | some v :: r, k, j, w => by
    rw [pm_al, List.mem_cons, pm_al_mem r (k + 1) j w]
    constructor
    · rintro (h | ⟨h1, h2⟩)
      · cases h
        rw [Nat.sub_self]
        exact ⟨Nat.le_refl _, rfl⟩
      · refine ⟨by omega, ?_⟩
        rw [show j - k = (j - (k + 1)) + 1 by omega]
        exact h2
    · rintro ⟨h1, h2⟩
      rcases Nat.eq_or_lt_of_le h1 with h3 | h3
      · subst h3
        rw [Nat.sub_self] at h2
        cases h2
        exact Or.inl rfl
      · rw [show j - k = (j - (k + 1)) + 1 by omega] at h2
        exact Or.inr ⟨h3, h2⟩
def pm_lv (ls : Array Slot) (nL : Nat) (L : pm_L) : Prop := lv_has ls nL (pm_al 0 L)
theorem pm_lv_at {ls : Array Slot} {nL : Nat} {L : pm_L} (h : pm_lv ls nL L) {i : Nat} {v : Value} (hi : pm_gt L i = some v) : ls[i]? = some (.val v) := h.2.2 (i, v) ((pm_al_mem L 0 i v).mpr ⟨Nat.zero_le _, hi⟩)
theorem pm_lv_k {L : pm_L} {i : Nat} {v : Value} (hi : pm_gt L i = some v) : ∃ k : Nat, (pm_al 0 L)[k]? = some (i, v) := by
  have h := (pm_al_mem L 0 i v).mpr ⟨Nat.zero_le _, hi⟩
  exact List.getElem?_of_mem h
theorem pm_lv_st {ls : Array Slot} {nL : Nat} {L : pm_L} {i : Nat} {v : Value} (h : lv_has ls nL ((i, v) :: (pm_al 0 L).filter (fun q => !(q.1 == i) && !(q.1 + 1 == i && q.2.category == 2)))) : pm_lv ls nL (pm_st L i v) := by
  refine ⟨h.1, h.2.1, fun q hq => h.2.2 q ?_⟩
  obtain ⟨j, w⟩ := q
  have h1 := ((pm_al_mem _ 0 j w).mp hq).2
  rw [Nat.sub_zero] at h1
  rcases pm_st_gt L i j v w h1 with ⟨e1, e2⟩ | ⟨e1, e2, e3⟩
  · subst e1; subst e2
    exact List.mem_cons_self
  · refine List.mem_cons_of_mem _ (List.mem_filter.mpr ⟨(pm_al_mem L 0 j w).mpr ⟨Nat.zero_le _, e2⟩, ?_⟩)
    have e4 : (j == i) = false := by simpa using e1
    simp only [e4, Bool.not_false, Bool.true_and, Bool.not_eq_true', Bool.and_eq_false_iff, beq_eq_false_iff_ne, ne_eq]
    by_cases q1 : j + 1 = i
    · exact Or.inr fun q2 => e3 ⟨q1, q2⟩
    · exact Or.inl q1
theorem pm_lv_st2 {ls : Array Slot} {nL : Nat} {L : pm_L} {i : Nat} {v : Value} (h : lv_has ls nL ((i, v) :: (pm_al 0 L).filter (fun q => !(q.1 == i) && (!(q.1 == i + 1) && !(q.1 + 1 == i && q.2.category == 2))))) : pm_lv ls nL (pm_un (pm_st L i v) (i + 1)) := by
  refine ⟨h.1, h.2.1, fun q hq => h.2.2 q ?_⟩
  obtain ⟨j, w⟩ := q
  have h1 := ((pm_al_mem _ 0 j w).mp hq).2
  rw [Nat.sub_zero] at h1
  obtain ⟨h0, h1⟩ := pm_un_gt _ _ _ _ h1
  rcases pm_st_gt L i j v w h1 with ⟨e1, e2⟩ | ⟨e1, e2, e3⟩
  · subst e1; subst e2
    exact List.mem_cons_self
  · refine List.mem_cons_of_mem _ (List.mem_filter.mpr ⟨(pm_al_mem L 0 j w).mpr ⟨Nat.zero_le _, e2⟩, ?_⟩)
    have e4 : (j == i) = false := by simpa using e1
    have e5 : (j == i + 1) = false := by simpa using h0
    simp only [e4, e5, Bool.not_false, Bool.true_and, Bool.not_eq_true', Bool.and_eq_false_iff, beq_eq_false_iff_ne, ne_eq]
    by_cases q1 : j + 1 = i
    · exact Or.inr fun q2 => e3 ⟨q1, q2⟩
    · exact Or.inl q1
def pm_l0 (nL : Nat) (args : List Value) : pm_L := args.map some ++ List.replicate (nL - args.length) none
theorem pm_gt_nil : ∀ (n j : Nat), pm_gt (List.replicate n none) j = none
  | 0, _ => rfl
  | _ + 1, 0 => rfl
  | n + 1, j + 1 => by rw [List.replicate_succ, pm_gt]; exact pm_gt_nil n j
theorem pm_l0_mem : ∀ (args : List Value) (n k j : Nat) (w : Value), (∀ v ∈ args, v.category = 1) → pm_gt (args.map some ++ List.replicate n none) j = some w → (k + j, w) ∈ lv_args k args
  | [], n, k, j, w, _, h => by
    rw [List.map_nil, List.nil_append, pm_gt_nil] at h
    cases h
  | v :: r, n, k, 0, w, _, h => by
    simp only [List.map_cons, List.cons_append, pm_gt] at h
    cases h
    exact List.mem_cons_self
  | v :: r, n, k, j + 1, w, hc, h => by
    simp only [List.map_cons, List.cons_append, pm_gt] at h
    have h1 := pm_l0_mem r n (k + 1) j w (fun x hx => hc x (List.mem_cons_of_mem _ hx)) h
    have h2 : ¬ v.category = 2 := by rw [hc v List.mem_cons_self]; omega
    rw [lv_args, if_neg h2, show k + (j + 1) = k + 1 + j by omega]
    exact List.mem_cons_of_mem _ h1
