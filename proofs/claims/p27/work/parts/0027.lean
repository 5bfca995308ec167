
theorem pm_AM.moved {u U : State} (hvm : u.vm.Alike U.vm) (h : pm_AM u) : pm_AM U := by
  obtain ⟨comp, c, k, h1, h2, h3, h4, h5⟩ := arrayOverA_spec h
  obtain ⟨k', hk', he⟩ := hvm.2.2 _ _ h3
  have hi : (U.vm.classes.findIdx? fun (x : Class) => match x.kind with | .array component _ => component == comp | _ => false) = some c := by
    refine (va_idx_bare U.vm comp).symm.trans ?_
    first | rw [hvm.bare_eq] | rw [← hvm.bare_eq]
    exact (va_idx_bare u.vm comp).trans h2
  have hkind : k'.kind = .array comp (.array .int) := by rw [he]; exact h4
  have f1 : U.vm.findClass (FieldType.array .int).toString = some comp := by rw [hvm.findClass]; exact h1
  have f2 : U.vm.findClass ("[" ++ (FieldType.array .int).toString) = some c := by rw [hvm.findClass]; exact h5
  unfold pm_AM Cond.before Cond.holds
  simp only [Cond.value]
  rw [f1, Option.bind_some]
  refine (congrArg (fun o : Option Nat => (o.bind (fun c => (U.vm.classes[c]?).map fun (k : Class) => match k.kind with | .array _ ty => decide (ty = FieldType.array .int) && decide (U.vm.findClass ("[" ++ (FieldType.array .int).toString) = some c) | _ => false) == some true)) hi).trans ?_
  simp [hk', hkind, f2]
theorem pm_K.same {g : pm_G} {u U : State} (h : u.vm = U.vm) (hK : pm_K g u) : pm_K g U := by
  have ha : u.vm.Alike U.vm := by rw [h]; exact Vm.Alike.refl _
  exact ⟨hK.1.moved ha, hK.2.1.moved ha, hK.2.2.1.moved ha, fun q hq => va_Nw.same rfl h (hK.2.2.2 q hq)⟩
theorem pm_K.warm {g : pm_G} {u U : State} (h : u.WarmedH U.vm) (hK : pm_K g u) : pm_K g U := by
  have ha : u.vm.Alike U.vm := h.alike
  exact ⟨hK.1.moved ha, hK.2.1.moved ha, hK.2.2.1.moved ha, fun q hq => va_Nw.warmM h (hK.2.2.2 q hq)⟩
theorem pm_good {n : Nat} (hn : n < 283) : GoodIn pm_W (pm_ws n) := by
  intro w hw
  rcases List.mem_cons.mp hw with h | h
  · rw [h]
    have h1 := pm_cw_ok _ (pm_me_mem hn)
    exact ⟨h1, good_of_word (List.mem_filter.mp h1).2⟩
  · exact ⟨h, good_of_word (List.mem_filter.mp h).2⟩
theorem pm_mok {n : Nat} (hn : n < 283) : Cond.initialized (pm_me n).1.cls ∈ pm_W ∧ ((pm_me n).1.cls ≠ "java/lang/invoke/MethodHandle" ∧ (pm_me n).1.cls ≠ "java/lang/invoke/VarHandle" ∧ (parseMethodDescriptor (pm_me n).1.desc).map (fun d => d.parameters.length) = some (pm_me n).2.2.2.2.1) ∧ (pm_me n).2.2.1 ≤ 21 ∧ ((pm_me n).2.2.2.2.2 = 0 → Cond.instanceMethod (pm_me n).1 ∈ pm_W ∧ Cond.selects (pm_me n).1.cls (pm_me n).1 (pm_me n).1 ∈ pm_W) ∧ ((pm_me n).2.2.2.2.2 = 1 → Cond.static (pm_me n).1 ∈ pm_W) ∧ ((pm_me n).2.2.2.2.2 = 2 → Cond.instanceMethod (pm_me n).1 ∈ pm_W ∧ (pm_me n).1.name = "<init>" ∧ (pm_me n).2.2.2.1 = none) := by
  obtain ⟨p, hp⟩ := pm_mt_ok _ (pm_me_mem hn)
  generalize pm_me n = e at hp ⊢
  obtain ⟨y, cd, mx, rt, na, kd⟩ := e
  simp only [pm_okm, Bool.and_eq_true, decide_eq_true_eq] at hp
  obtain ⟨h1, h2, h3, h4⟩ := hp
  refine ⟨pm_in_ok h1, h2, h3, fun hk => ?_, fun hk => ?_, fun hk => ?_⟩
  · have hk : kd = 0 := hk
    subst hk
    simp only [Bool.and_eq_true] at h4
    exact ⟨pm_in_ok h4.1, pm_in_ok h4.2⟩
  · have hk : kd = 1 := hk
    subst hk
    exact pm_in_ok h4
  · have hk : kd = 2 := hk
    subst hk
    simp only [Bool.and_eq_true, decide_eq_true_eq] at h4
    exact ⟨pm_in_ok h4.1, h4.2⟩
