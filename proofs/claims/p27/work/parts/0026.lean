section
variable {p : Program} {l : Launch} {e : Env} {R : Room} {s : State} {m : MethodId} {args : Array Value} {below : List Frame} {meth : Method} {c : Code} {H : Heap} {locs : List Loc} {cells slots : Nat} {Q : State → Prop}
variable {cc : ByteArray} {pc : Nat} {ls : Array Slot} {rest : List Value} {a : Nat} {g : pm_G} {A : pm_H} {own : Nat} {fr : Nat → Prop}
theorem pm_w_mna (hx : p.tables.exec = Jvm.exec) (hb : c.code = cc) (hown : s.vm.findClass (pm_nm 3) = some m.cls) (hts : ∀ w ∈ pm_W, w.before args s = true) (hK : pm_K g s) (hH : pm_hold g A H) {i k : Nat} (hi : i ≤ 1000) (hk : k ≤ 1000) (hc : cells + (1 + i) ≤ R.cells) (hs : slots + (i + i * k) ≤ R.slots) (hdg : decode cc pc = .ok (.multianewarray 9 2, 4))
    (kk : ∀ H1 : Heap, pm_hold g (pm_upm g A H.size (fun j => H.size + 1 + j) i k) H1 → H.size ≤ H1.size → (∀ q : Nat, q < H.size → H1[q]? = H[q]?) → W p l e R s m args below meth c H1 locs (cells + 1 + i) (slots + i + i * k) Q (F0 m (pc + 4) ls (.ref H.size :: rest))) : W p l e R s m args below meth c H locs cells slots Q (F0 m pc ls (.int (nI k) :: .int (nI i) :: rest)) := by
  have hN : (nI i).toNatClampNeg = i := nI_clamp (by omega)
  have hM : (nI k).toNatClampNeg = k := nI_clamp (by omega)
  intro T hT Xs
  have hcl : (Cond.classLink (pm_nm 3) 9 ("[" ++ (FieldType.array .int).toString)).before args s = true := hts _ pm_mal
  obtain ⟨vm₁, cA, comp, -, fA, fC, hO, -, X', step⟩ := Xs.multianewarray2F (ty := .int) hx hown hcl hK.2.2.1 (hts _ pm_arc) (g := F0 m pc ls (.int (nI k) :: .int (nI i) :: rest)) rfl (by rw [hb]; exact hdg) rfl (nI_pos (by omega)) (nI_pos (by omega)) (by rw [hN]; omega) (by rw [hM]; show k * 4 ≤ _; omega) (by rw [hM]; omega) rfl rfl (by rw [hN]; exact hc) (by rw [hN, hM]; exact hs)
  rw [hN, hM] at X' step
  have e1 : comp = g.2.1 := Option.some.inj (fC.symm.trans (hK.1.2 0 _ rfl).2)
  have e2 : cA = g.2.2.2 := Option.some.inj (fA.symm.trans (hK.1.2 2 _ rfl).2)
  subst e1; subst e2
  generalize hF : Jvm.Free.Multi.fill (T.setVm vm₁) g.2.2.2 g.2.1 i k (defaultValue .int) i = F at X' step
  have hTh : (T.setVm vm₁).heap = H := hT
  obtain ⟨f1, f2, -, -⟩ := Jvm.Free.Multi.fill_facts (T.setVm vm₁) g.2.2.2 g.2.1 i k (defaultValue .int) i
  rw [hF, hTh] at f1 f2
  have hold : ∀ x : Nat, x < H.size → F.heap[x]? = H[x]? := fun x hx => by
    have := Jvm.Free.Multi.fill_old (T.setVm vm₁) g.2.2.2 g.2.1 i k (defaultValue .int) (a := x) (by rw [hTh]; exact hx) i
    rw [hF, hTh] at this
    exact this
  have hrow : ∀ j : Nat, j < i → F.heap[H.size + 1 + j]? = some (Jvm.Free.Multi.innerC g.2.1 k (defaultValue .int)) := fun j hj => by
    have := Jvm.Free.Multi.fill_inner (T.setVm vm₁) g.2.2.2 g.2.1 i k (defaultValue .int) i j hj
    rw [hF, hTh] at this
    exact this
  have hI : Jvm.Free.Multi.innerC g.2.1 k (defaultValue .int) = vp_cell g.2.1 (k, .inl (fun _ => 0)) := arrV_new _ _ _
  have hOu : Jvm.Free.Multi.outerC g.2.2.2 i H.size i = vp_cell g.2.2.2 (i, .inr (.inr (.inr (.inr (fun j => if j < i then some (H.size + 1 + j) else none))))) := pm_outer _ _ _ _
  have hF1 : pm_hold g (pm_upm g A H.size (fun j => H.size + 1 + j) i k) F.heap := by
    intro q x hq
    unfold pm_upm at hq
    by_cases h1 : q = H.size
    · rw [if_pos h1] at hq
      cases hq
      subst h1
      show F.heap[H.size]? = some (vp_cell _ _)
      rw [f2, hOu]
    · rw [if_neg h1] at hq
      by_cases h2 : ∃ j, j < i ∧ q = H.size + 1 + j
      · rw [if_pos h2] at hq
        cases hq
        obtain ⟨j, hj, rfl⟩ := h2
        show F.heap[H.size + 1 + j]? = some (vp_cell _ _)
        rw [hrow j hj, hI]
      · rw [if_neg h2] at hq
        exact (hH q x hq).kept (hold q (hH q x hq).lt)
  obtain ⟨t, a1, b1⟩ := kk F.heap hF1 (by rw [f1]; omega) hold F rfl X'
  refine ⟨t, step t ?_, b1⟩
  rw [hT]
  exact a1
end
