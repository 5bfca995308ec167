section
variable {p : Program} {l : Launch} {e : Env} {R : Room} {s : State} {m : MethodId} {args : Array Value} {below : List Frame} {meth : Method} {c : Code} {H : Heap} {locs : List Loc} {cells slots : Nat} {Q : State → Prop}
variable {cc : ByteArray} {pc : Nat} {ls : Array Slot} {rest : List Value} {a : Nat} {g : pm_G} {A : pm_H} {own : Nat} {fr : Nat → Prop}
theorem pm_w_put (hx : p.tables.exec = Jvm.exec) (hb : c.code = cc) (hown : s.vm.findClass (pm_nm own) = some m.cls) (hts : ∀ w ∈ pm_W, w.before args s = true) (hK : pm_K g s) (hH : pm_hold g A H) {idx ci k : Nat} {fs : List Value} {v : Value} {isI : Bool} (hin : isI = true → meth.name = "<init>") (hm : (own, idx, ci, k) ∈ pm_fl) (hfin : ((pm_cT ci).2.1 k).2.2.2 = false ∨ (isI = true ∧ ((pm_cT ci).2.1 k).2.2.2 = true ∧ ((pm_cT ci).2.1 k).1 = pm_nm own)) (hn : narrow (pm_tys ci k) v = v) (hf : fits (pm_tys ci k) v = true) (ha : A a = some (pm_ob ci fs)) (hl : (pm_at fs k).isSome = true) (hdg : decode cc pc = .ok (.putfield idx, 3))
    (kk : ∀ (H1 : Heap) (i : Nat), pm_hold g (pm_up A a (pm_ob ci (fs.set k v))) H1 → H1.size = H.size → (∀ q : Nat, q ≠ a → H1[q]? = H[q]?) → W p l e R s m args below meth c H1 (locs ++ [⟨a, i⟩]) cells slots Q (F0 m (pc + 3) ls rest)) : W p l e R s m args below meth c H locs cells slots Q (F0 m pc ls (v :: .ref a :: rest)) := by
  obtain ⟨h1, h2, h3⟩ := pm_fl_ok _ hm
  have hap := va_apart (D := g.1) (cl := vwCl) (own := pm_nm own) (C := (pm_cT ci).1) (T := (pm_cT ci).2.1) (N := (pm_cT ci).2.2) hts (pm_u_ok ci h2) (pm_tys ci) (pm_ty_ok ci h2) (pm_nm_ok ci h2) hK.1 (pm_cl_at h2)
  have hl2 : k < fs.length := by
    rw [pm_at_get, Option.isSome_iff_exists] at hl
    obtain ⟨w, hw⟩ := hl
    exact (List.getElem?_eq_some_iff.mp hw).1
  obtain ⟨r, hr, cell, q1, q2, q3, q4⟩ := hH a _ ha
  have hr2 : r = pm_cT ci := Option.some.inj (hr.symm.trans (pm_cl_at h2))
  subst hr2
  obtain ⟨hSl, hfc, kC, hkC, hkind⟩ := hK.1.1 ci _ (pm_cl_at h2)
  obtain ⟨cf, kf, fi, f, hi, hsl⟩ := hSl k h3
  have hst := (u_facts hfc hkC (u_lays hts (pm_u_ok ci h2) h3) hi).1
  have fin : ∀ H' : Heap, H'[a]? = some (cell.setSlot f.slot v) → (∀ q, q ≠ a → H'[q]? = H[q]?) → pm_hold g (pm_up A a (pm_ob ci (fs.set k v))) H' := by
    intro H' e1 e3
    rw [hsl] at e1
    exact pm_hold_up hH ⟨_, pm_cl_at h2, t_OB.to (V := updV (vp_V fs) k v) ⟨_, e1, q2, q3, t_set q4 hap h3 v⟩ (fun j _ => vp_updV_set hl2 v j)⟩ e3
  have hlay := hts _ (pm_u_ok ci h2 _ (u_in_lay h3))
  unfold u_lay at hlay
  rcases hfin with hfin | ⟨hI, hfin, hdecl⟩
  · rw [if_neg (by rw [hfin]; decide)] at hlay
    have h6 := u_store hfc hkC hkind hlay hi (pm_ty_ok ci h2 k h3) hn hf
    refine W.putK hx hb (f := f) ⟨hown, hts _ h1, ⟨_, _, _, hi⟩, hst⟩ (by rw [q2]; exact h6) q1 q3 (by rw [hsl]; exact k2_hasslot (q4 k h3)) rfl rfl hdg fun H' e1 e2 e3 => ?_
    exact kk H' _ (fin H' e1 e3) e2 e3
  · rw [if_pos hfin] at hlay
    have hcf : m.cls = cf := by
      obtain ⟨_, _, c', _, _, _, -, -, hf', -, -, -, hown2, -⟩ := Cond.laysFinal_spec hlay
      have e1 : c' = cf := by have := hi.symm.trans hf'; simp at this; exact this.1.symm
      rw [hdecl] at hown2
      rw [← e1]; exact Option.some.inj (hown.symm.trans hown2)
    have h6 := u_fits hfc hkC hkind (Or.inr hlay) hi (pm_ty_ok ci h2 k h3) hn hf
    refine W.putFinK hx hb hown (hts _ h1) hi hst hcf (hin hI) (by rw [q2]; exact h6) q1 q3 (by rw [hsl]; exact k2_hasslot (q4 k h3)) rfl rfl hdg fun H' e1 e2 e3 => ?_
    exact kk H' _ (fin H' e1 e3) e2 e3
end
