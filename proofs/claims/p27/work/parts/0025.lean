section
variable {p : Program} {l : Launch} {e : Env} {R : Room} {s : State} {m : MethodId} {args : Array Value} {below : List Frame} {meth : Method} {c : Code} {H : Heap} {locs : List Loc} {cells slots : Nat} {Q : State → Prop}
variable {cc : ByteArray} {pc : Nat} {ls : Array Slot} {rest : List Value} {a : Nat} {g : pm_G} {A : pm_H} {own : Nat} {fr : Nat → Prop}
theorem pm_w_new (hx : p.tables.exec = Jvm.exec) (hb : c.code = cc) (hown : s.vm.findClass (pm_nm own) = some m.cls) (hts : ∀ w ∈ pm_W, w.before args s = true) (hK : pm_K g s) (hH : pm_hold g A H) {ci idx : Nat} (hm : (own, idx, ci) ∈ pm_cl) (hc : cells + 1 ≤ R.cells) (hs : slots + (pm_cT ci).2.2 ≤ R.slots) (hdg : decode cc pc = .ok (.new idx, 3))
    (kk : ∀ H1 : Heap, pm_hold g (pm_up A H.size (pm_ob ci (pm_df ci))) H1 → H1.size = H.size + 1 → (∀ q : Nat, q < H.size → H1[q]? = H[q]?) → W p l e R s m args below meth c H1 locs (cells + 1) (slots + (pm_cT ci).2.2) Q (F0 m (pc + 3) ls (.ref H.size :: rest))) : W p l e R s m args below meth c H locs cells slots Q (F0 m pc ls rest) := by
  obtain ⟨m1, m2⟩ := pm_cl_ok _ hm
  obtain ⟨n1, n2⟩ := pm_ci_ok ci m2
  have hKn := hK.1.1 ci _ (pm_cl_at m2)
  have m3 : (Cond.classLink (pm_nm own) idx (pm_cT ci).1).before args s = true := by rw [← n2]; exact hts _ m1
  refine W.newcK hx hb hown m3 (hts _ n1) (hts _ (pm_cz_ok ci m2)) rfl hdg hc hs hKn.2.1 rfl fun H1 kC hkC e1 z1 o1 => ?_
  refine kk H1 (pm_hold_new hH ⟨_, pm_cl_at m2, (u_born (pm_tys ci) hts (pm_u_ok ci m2) hKn hkC e1 (pm_ty_ok ci m2)).to (fun k hk => ?_)⟩ o1) z1 o1
  have hk' : k < (pm_cT ci).2.2 := hk
  show _ = (pm_df ci).getD k .null
  simp [pm_df, List.getD_eq_getElem?_getD, hk']
end
