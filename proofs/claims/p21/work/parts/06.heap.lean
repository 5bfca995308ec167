/-! one instruction that reads or writes cells, over the pure cells -/
theorem pm_P1 {g : pm_G} {a : Nat} {e : va_E} {H : Heap} (h : va_at g.1 vwCl (a, e) H) : va_P g.1 vwCl [(a, e)] H := by
  intro k q hk
  have h0 : k < 1 := (List.getElem?_eq_some_iff.mp hk).1
  rw [show k = 0 by omega] at hk
  cases hk
  exact h
theorem pm_outer (c : ClassId) (N h0 : Nat) : ∀ i : Nat, Jvm.Free.Multi.outerC c N h0 i = arrV c N (fun j => va_rf (if j < i then some (h0 + 1 + j) else none))
  | 0 => by
    show ({ cls := c, slots := Array.replicate N .null, vm := .none } : Cell) = _
    rw [arrV_new]
    rfl
  | i + 1 => by
    show (Jvm.Free.Multi.outerC c N h0 i).setSlot i (.ref (h0 + 1 + i)) = _
    rw [pm_outer c N h0 i, arrV_store]
    congr 1
    funext j
    by_cases h : j = i
    · subst h
      simp [updV, va_rf]
    · have h2 : (j < i + 1) = (j < i) := by apply propext; omega
      simp [updV, h, h2]
section PMH
variable {p : Program} {l : Launch} {e : Env} {R : Room} {s : State} {m : MethodId} {args : Array Value} {below : List Frame} {meth : Method} {c : Code} {H : Heap} {locs : List Loc} {cells slots : Nat} {Q : State → Prop}
variable {cc : ByteArray} {pc : Nat} {ls : Array Slot} {rest : List Value} {a : Nat} {g : pm_G} {A : pm_H} {own : Nat} {fr : Nat → Prop}
theorem pm_w_get (hx : p.tables.exec = Jvm.exec) (hb : c.code = cc) (hown : s.vm.findClass (pm_nm own) = some m.cls) (hts : ∀ w ∈ pm_W, w.before args s = true) (hK : pm_K g s) (hH : pm_hold g A H) {idx ci k : Nat} {fs : List Value} {v : Value} (hm : (own, idx, ci, k) ∈ pm_fl) (ha : A a = some (pm_ob ci fs)) (hv : pm_at fs k = some v) (hdg : decode cc pc = .ok (.getfield idx, 3))
    (kk : W p l e R s m args below meth c H locs cells slots Q (F0 m (pc + 3) ls (v :: rest))) : W p l e R s m args below meth c H locs cells slots Q (F0 m pc ls (.ref a :: rest)) := by
  obtain ⟨h1, h2, h3⟩ := pm_fl_ok _ hm
  exact va_get (D := g.1) (cl := vwCl) (C := (pm_cT ci).1) (T := (pm_cT ci).2.1) (N := (pm_cT ci).2.2) hx hb hts (pm_u_ok ci h2) hown hK.1 (pm_P1 (hH a _ ha)) 0 rfl (pm_cl_at h2) k h3 (hts _ h1) (fun _ h => h) (by rw [← pm_at_get]; exact hv) hdg kk
theorem pm_fit {ci k : Nat} {z : Nat} {v : Value} (hz : (match pm_tys ci k with
    | .int => decide (z = 0)
    | .object _ => decide (z = 1)
    | .array _ => decide (z = 1)
    | _ => false) = true) (hv : pm_vk z v = true) : narrow (pm_tys ci k) v = v ∧ fits (pm_tys ci k) v = true := by
  cases ht : pm_tys ci k <;> rw [ht] at hz <;> simp at hz <;> subst hz <;> cases v <;> simp [pm_vk] at hv <;> exact ⟨rfl, rfl⟩
theorem pm_w_put (hx : p.tables.exec = Jvm.exec) (hb : c.code = cc) (hown : s.vm.findClass (pm_nm own) = some m.cls) (hts : ∀ w ∈ pm_W, w.before args s = true) (hK : pm_K g s) (hH : pm_hold g A H) {idx ci k : Nat} {fs : List Value} {v : Value} {isI : Bool} (hin : isI = true → meth.name = "<init>") (hm : (own, idx, ci, k) ∈ pm_fl) (hfin : ((pm_cT ci).2.1 k).2.2.2 = false ∨ (isI = true ∧ ((pm_cT ci).2.1 k).2.2.2 = true ∧ ((pm_cT ci).2.1 k).1 = pm_nm own)) (hn : narrow (pm_tys ci k) v = v) (hf : fits (pm_tys ci k) v = true) (ha : A a = some (pm_ob ci fs)) (hl : (pm_at fs k).isSome = true) (hdg : decode cc pc = .ok (.putfield idx, 3))
    (kk : ∀ (H1 : Heap) (i : Nat), pm_hold g (pm_up A a (pm_ob ci (fs.set k v))) H1 → H1.size = H.size → (∀ q : Nat, q ≠ a → H1[q]? = H[q]?) → W p l e R s m args below meth c H1 (locs ++ [⟨a, i⟩]) cells slots Q (F0 m (pc + 3) ls rest)) : W p l e R s m args below meth c H locs cells slots Q (F0 m pc ls (v :: .ref a :: rest)) := by
  obtain ⟨h1, h2, h3⟩ := pm_fl_ok _ hm
  have hap := va_apart (D := g.1) (cl := vwCl) (own := pm_nm own) (C := (pm_cT ci).1) (T := (pm_cT ci).2.1) (N := (pm_cT ci).2.2) hts (pm_u_ok ci h2) (pm_tys ci) (pm_ty_ok ci h2) (pm_nm_ok ci h2) hK.1 (pm_cl_at h2)
  have hl2 : k < fs.length := by
    rw [pm_at_get, Option.isSome_iff_exists] at hl
    obtain ⟨w, hw⟩ := hl
    exact (List.getElem?_eq_some_iff.mp hw).1
  obtain ⟨r, hr, cell, q1, q2, q3, q4⟩ := hH a _ ha
  have hr2 : r = pm_cT ci := Option.some.inj (hr.symm.trans (pm_cl_at h2))
  subst hr2
  obtain ⟨hSl, hfc, kC, hkC, hkind⟩ := hK.1.1 ci _ (pm_cl_at h2)
  obtain ⟨cf, kf, fi, f, hi, hsl⟩ := hSl k h3
  have hst := (u_facts hfc hkC (u_lays hts (pm_u_ok ci h2) h3) hi).1
  have fin : ∀ H' : Heap, H'[a]? = some (cell.setSlot f.slot v) → (∀ q, q ≠ a → H'[q]? = H[q]?) → pm_hold g (pm_up A a (pm_ob ci (fs.set k v))) H' := by
    intro H' e1 e3
    rw [hsl] at e1
    exact pm_hold_up hH ⟨_, pm_cl_at h2, t_OB.to (V := updV (vp_V fs) k v) ⟨_, e1, q2, q3, t_set q4 hap h3 v⟩ (fun j _ => vp_updV_set hl2 v j)⟩ e3
  have hlay := hts _ (pm_u_ok ci h2 _ (u_in_lay h3))
  unfold u_lay at hlay
  rcases hfin with hfin | ⟨hI, hfin, hdecl⟩
  · rw [if_neg (by rw [hfin]; decide)] at hlay
    have h6 := u_store hfc hkC hkind hlay hi (pm_ty_ok ci h2 k h3) hn hf
    refine W.putK hx hb (f := f) ⟨hown, hts _ h1, ⟨_, _, _, hi⟩, hst⟩ (by rw [q2]; exact h6) q1 q3 (by rw [hsl]; exact k2_hasslot (q4 k h3)) rfl rfl hdg fun H' e1 e2 e3 => ?_
    exact kk H' _ (fin H' e1 e3) e2 e3
  · rw [if_pos hfin] at hlay
    have hcf : m.cls = cf := by
      obtain ⟨_, _, c', _, _, _, -, -, hf', -, -, -, hown2, -⟩ := Cond.laysFinal_spec hlay
      have e1 : c' = cf := by have := hi.symm.trans hf'; simp at this; exact this.1.symm
      rw [hdecl] at hown2
      rw [← e1]; exact Option.some.inj (hown.symm.trans hown2)
    have h6 := u_fits hfc hkC hkind (Or.inr hlay) hi (pm_ty_ok ci h2 k h3) hn hf
    refine W.putFinK hx hb hown (hts _ h1) hi hst hcf (hin hI) (by rw [q2]; exact h6) q1 q3 (by rw [hsl]; exact k2_hasslot (q4 k h3)) rfl rfl hdg fun H' e1 e2 e3 => ?_
    exact kk H' _ (fin H' e1 e3) e2 e3
theorem pm_w_iald (hx : p.tables.exec = Jvm.exec) (hb : c.code = cc) (hK : pm_K g s) (hH : pm_hold g A H) {n : Nat} {f : Nat → Int32} {x : Int32} (ha : A a = some (pm_ia g n f)) (hin : 0 ≤ x.toInt ∧ x.toInt < n) (hdg : decode cc pc = .ok (.iaload, 1))
    (kk : W p l e R s m args below meth c H locs cells slots Q (F0 m (pc + 1) ls (.int (f x.toInt.toNat) :: rest))) : W p l e R s m args below meth c H locs cells slots Q (F0 m pc ls (.int x :: .ref a :: rest)) :=
  va_iald (D := g.1) (cl := vwCl) hx hb hK.1 (pm_P1 (hH a _ ha)) 0 0 rfl rfl (pm_in_of hin) hdg kk
theorem pm_w_iast (hx : p.tables.exec = Jvm.exec) (hb : c.code = cc) (hK : pm_K g s) (hH : pm_hold g A H) {n : Nat} {f : Nat → Int32} {x v : Int32} (ha : A a = some (pm_ia g n f)) (hin : 0 ≤ x.toInt ∧ x.toInt < n) (hdg : decode cc pc = .ok (.iastore, 1))
    (kk : ∀ (H1 : Heap) (i : Nat), pm_hold g (pm_up A a (pm_ia g n (upd f x.toInt.toNat v))) H1 → H1.size = H.size → (∀ q : Nat, q ≠ a → H1[q]? = H[q]?) → W p l e R s m args below meth c H1 (locs ++ [⟨a, i⟩]) cells slots Q (F0 m (pc + 1) ls rest)) : W p l e R s m args below meth c H locs cells slots Q (F0 m pc ls (.int v :: .int x :: .ref a :: rest)) := by
  refine W.iast hx hb (hH a _ ha) ((hK.1.2 0 _ rfl).1 n (fun j => .int (f j))) (fun q => by cases q) (by show ¬ (x < 0 ∨ (arrV _ _ _).slots.size ≤ _); rw [arrV_size]; exact pm_in_of hin) rfl rfl hdg fun H1 e1 z oq => ?_
  refine kk H1 _ (pm_hold_up hH ?_ oq) z oq
  show H1[a]? = some (vp_cell _ _)
  rw [e1]
  simp only [vp_cell_i, vp_cell_q, arrV_store]
  congr 2
  funext q
  by_cases hq : q = x.toNatClampNeg
  · subst hq
    simp [updV, upd]
  · simp [updV, upd, hq]
theorem pm_w_aald (hx : p.tables.exec = Jvm.exec) (hb : c.code = cc) (hK : pm_K g s) (hH : pm_hold g A H) {n : Nat} {f : Nat → Option Nat} {x : Int32} (ha : A a = some (pm_ra g n f) ∨ A a = some (pm_ma g n f)) (hin : 0 ≤ x.toInt ∧ x.toInt < n) (hdg : decode cc pc = .ok (.aaload, 1))
    (kk : W p l e R s m args below meth c H locs cells slots Q (F0 m (pc + 1) ls (va_rf (f x.toInt.toNat) :: rest))) : W p l e R s m args below meth c H locs cells slots Q (F0 m pc ls (.int x :: .ref a :: rest)) := by
  have hlt : x.toNatClampNeg < n := Nat.not_le.mp fun q => (pm_in_of hin) (Or.inr q)
  rcases ha with ha | ha
  · exact va_aldq (D := g.1) (cl := vwCl) hx hb hK.1 (pm_P1 (hH a _ ha)) 0 1 rfl rfl (pm_in_of hin) hdg kk
  · exact W.aald (v := va_rf (f x.toNatClampNeg)) (ty := .array .int) hx hb (hH a _ ha) ((hK.1.2 2 _ rfl).1 n (fun j => va_rf (f j))) rfl (fun q => by cases q) (by show ¬ (x < 0 ∨ (arrV _ _ _).slots.size ≤ _); rw [arrV_size]; exact pm_in_of hin) (by show (arrV _ _ _).slots[_]? = _; rw [arrV_read _ _ hlt]) rfl rfl hdg kk
theorem pm_w_aast (hx : p.tables.exec = Jvm.exec) (hb : c.code = cc) (hK : pm_K g s) (hH : pm_hold g A H) {n v : Nat} {f : Nat → Option Nat} {fs : List Value} {x : Int32} (ha : A a = some (pm_ra g n f)) (hv : A v = some (pm_ob 7 fs)) (hin : 0 ≤ x.toInt ∧ x.toInt < n) (hdg : decode cc pc = .ok (.aastore, 1))
    (kk : ∀ (H1 : Heap) (i : Nat), pm_hold g (pm_up A a (pm_ra g n (va_up f x.toInt.toNat (some v)))) H1 → H1.size = H.size → (∀ q : Nat, q ≠ a → H1[q]? = H[q]?) → W p l e R s m args below meth c H1 (locs ++ [⟨a, i⟩]) cells slots Q (F0 m (pc + 1) ls rest)) : W p l e R s m args below meth c H locs cells slots Q (F0 m pc ls (.ref v :: .int x :: .ref a :: rest)) := by
  have hlt : x.toNatClampNeg < n := Nat.not_le.mp fun q => (pm_in_of hin) (Or.inr q)
  have h0 : ¬ x < 0 := fun q => (pm_in_of hin) (Or.inl q)
  obtain ⟨r', hr', cellV, g1, g2, g3, -⟩ := hH v _ hv
  have hcls := (hK.1.1 7 _ (pm_cl_at (by decide))).2
  obtain ⟨kA, comp, k1, k2, k3, -⟩ := (hK.1.2 1 _ rfl).2
  have hcomp : comp = g.1.1 7 := Option.some.inj (k3.symm.trans hcls.1)
  subst hcomp
  obtain ⟨kC, hkC, -⟩ := hcls.2
  refine W.aast hx hb (hH a _ ha) (fun q h => by cases h) (fun h => by cases h) k1 k2 rfl hkC ⟨h0, by show _ < (arrV _ _ _).slots.size; rw [arrV_size]; exact hlt⟩ g1 (fun q h => by rw [g3] at h; cases h) (by rw [g2]; exact hkC) (by rw [g2]; exact va_assign hcls) rfl rfl hdg fun H1 e1 z oq => ?_
  refine kk H1 _ (pm_hold_up hH ?_ oq) z oq
  show H1[a]? = some (vp_cell _ _)
  rw [e1]
  simp only [vp_cell_i, vp_cell_q, arrV_store]
  congr 2
  funext q
  by_cases hq : q = x.toNatClampNeg
  · subst hq
    simp [updV, va_up, va_rf]
  · simp [updV, va_up, hq]
theorem pm_w_alen (hx : p.tables.exec = Jvm.exec) (hb : c.code = cc) (hK : pm_K g s) (hH : pm_hold g A H) {n : Nat} {f : Nat → Int32} (ha : A a = some (pm_ia g n f)) (hdg : decode cc pc = .ok (.arraylength, 1))
    (kk : W p l e R s m args below meth c H locs cells slots Q (F0 m (pc + 1) ls (.int (nI n) :: rest))) : W p l e R s m args below meth c H locs cells slots Q (F0 m pc ls (.ref a :: rest)) :=
  W.alen (n := nI n) hx hb (hH a _ ha) ((hK.1.2 0 _ rfl).1 n (fun j => .int (f j))) (by show (arrV _ _ _).slots.size.toInt32 = _; rw [arrV_size]; rfl) rfl rfl hdg kk
theorem pm_w_newa (hx : p.tables.exec = Jvm.exec) (hb : c.code = cc) (hts : ∀ w ∈ pm_W, w.before args s = true) (hK : pm_K g s) (hH : pm_hold g A H) {i : Nat} (hi : i ≤ 100000) (hc : cells + 1 ≤ R.cells) (hs : slots + i ≤ R.slots) (hdg : decode cc pc = .ok (.newarray .int, 2))
    (kk : ∀ H1 : Heap, pm_hold g (pm_up A H.size (pm_ia g i (fun _ => 0))) H1 → H1.size = H.size + 1 → (∀ q : Nat, q < H.size → H1[q]? = H[q]?) → W p l e R s m args below meth c H1 locs (cells + 1) (slots + i) Q (F0 m (pc + 2) ls (.ref H.size :: rest))) : W p l e R s m args below meth c H locs cells slots Q (F0 m pc ls (.int (nI i) :: rest)) := by
  refine va_newaK (atype := .int) hx hb (hts _ pm_arc) rfl hdg rfl (nI_pos (by omega)) (nI_clamp (by omega)) (by show i * 4 ≤ _; omega) hc hs rfl fun H1 cA e1 z1 o1 hAr hNm => ?_
  have hcA : cA = g.2.1 := Option.some.inj (hNm.symm.trans (hK.1.2 0 _ rfl).2)
  subst hcA
  refine kk H1 (pm_hold_new hH ?_ o1) z1 o1
  exact e1
theorem pm_w_newq (hx : p.tables.exec = Jvm.exec) (hb : c.code = cc) (hown : s.vm.findClass (pm_nm own) = some m.cls) (hts : ∀ w ∈ pm_W, w.before args s = true) (hK : pm_K g s) (hH : pm_hold g A H) {i idx : Nat} (hm : (own, idx, 7) ∈ pm_cl) (hi : i ≤ 100000) (hc : cells + 1 ≤ R.cells) (hs : slots + i ≤ R.slots) (hdg : decode cc pc = .ok (.anewarray idx, 3))
    (kk : ∀ H1 : Heap, pm_hold g (pm_up A H.size (pm_ra g i (fun _ => none))) H1 → H1.size = H.size + 1 → (∀ q : Nat, q < H.size → H1[q]? = H[q]?) → W p l e R s m args below meth c H1 locs (cells + 1) (slots + i) Q (F0 m (pc + 3) ls (.ref H.size :: rest))) : W p l e R s m args below meth c H locs cells slots Q (F0 m pc ls (.int (nI i) :: rest)) := by
  have hN : (nI i).toNatClampNeg = i := nI_clamp (by omega)
  refine W.anew (C := RX7) hx hb hown (hts _ (pm_cl_ok _ hm).1) (va_AO.use hK.2.1) rfl hdg rfl (nI_pos (by omega)) (by rw [hN]; omega) hc (by rw [hN]; exact hs) fun cA kA comp f1 f2 f3 f4 => ?_
  rw [hN]
  obtain ⟨kA', comp', k1, k2, k3, k4⟩ := (hK.1.2 1 _ rfl).2
  have hcA : cA = g.2.2.1 := Option.some.inj (f1.symm.trans k4)
  subst hcA
  have o1 : ∀ q : Nat, q < H.size → (H.push ({ cls := g.2.2.1, slots := Array.replicate i .null, vm := .none } : Cell))[q]? = H[q]? := fun q hq => by rw [Array.getElem?_push, if_neg (Nat.ne_of_lt hq)]
  refine kk _ (pm_hold_new hH ?_ o1) (by rw [Array.size_push]) o1
  show _ = some (vp_cell _ _)
  rw [Array.getElem?_push_size, arrV_new]
  rfl
theorem pm_w_new (hx : p.tables.exec = Jvm.exec) (hb : c.code = cc) (hown : s.vm.findClass (pm_nm own) = some m.cls) (hts : ∀ w ∈ pm_W, w.before args s = true) (hK : pm_K g s) (hH : pm_hold g A H) {ci idx : Nat} (hm : (own, idx, ci) ∈ pm_cl) (hc : cells + 1 ≤ R.cells) (hs : slots + (pm_cT ci).2.2 ≤ R.slots) (hdg : decode cc pc = .ok (.new idx, 3))
    (kk : ∀ H1 : Heap, pm_hold g (pm_up A H.size (pm_ob ci (pm_df ci))) H1 → H1.size = H.size + 1 → (∀ q : Nat, q < H.size → H1[q]? = H[q]?) → W p l e R s m args below meth c H1 locs (cells + 1) (slots + (pm_cT ci).2.2) Q (F0 m (pc + 3) ls (.ref H.size :: rest))) : W p l e R s m args below meth c H locs cells slots Q (F0 m pc ls rest) := by
  obtain ⟨m1, m2⟩ := pm_cl_ok _ hm
  obtain ⟨n1, n2⟩ := pm_ci_ok ci m2
  have hKn := hK.1.1 ci _ (pm_cl_at m2)
  have m3 : (Cond.classLink (pm_nm own) idx (pm_cT ci).1).before args s = true := by rw [← n2]; exact hts _ m1
  refine W.newcK hx hb hown m3 (hts _ n1) (hts _ (pm_cz_ok ci m2)) rfl hdg hc hs hKn.2.1 rfl fun H1 kC hkC e1 z1 o1 => ?_
  refine kk H1 (pm_hold_new hH ⟨_, pm_cl_at m2, (u_born (pm_tys ci) hts (pm_u_ok ci m2) hKn hkC e1 (pm_ty_ok ci m2)).to (fun k hk => ?_)⟩ o1) z1 o1
  have hk' : k < (pm_cT ci).2.2 := hk
  show _ = (pm_df ci).getD k .null
  simp [pm_df, List.getD_eq_getElem?_getD, hk']
theorem pm_w_mna (hx : p.tables.exec = Jvm.exec) (hb : c.code = cc) (hown : s.vm.findClass (pm_nm 3) = some m.cls) (hts : ∀ w ∈ pm_W, w.before args s = true) (hK : pm_K g s) (hH : pm_hold g A H) {i k : Nat} (hi : i ≤ 1000) (hk : k ≤ 1000) (hc : cells + (1 + i) ≤ R.cells) (hs : slots + (i + i * k) ≤ R.slots) (hdg : decode cc pc = .ok (.multianewarray 9 2, 4))
    (kk : ∀ H1 : Heap, pm_hold g (pm_upm g A H.size (fun j => H.size + 1 + j) i k) H1 → H.size ≤ H1.size → (∀ q : Nat, q < H.size → H1[q]? = H[q]?) → W p l e R s m args below meth c H1 locs (cells + 1 + i) (slots + i + i * k) Q (F0 m (pc + 4) ls (.ref H.size :: rest))) : W p l e R s m args below meth c H locs cells slots Q (F0 m pc ls (.int (nI k) :: .int (nI i) :: rest)) := by
  have hN : (nI i).toNatClampNeg = i := nI_clamp (by omega)
  have hM : (nI k).toNatClampNeg = k := nI_clamp (by omega)
  intro T hT Xs
  have hcl : (Cond.classLink (pm_nm 3) 9 ("[" ++ (FieldType.array .int).toString)).before args s = true := hts _ pm_mal
  obtain ⟨vm₁, cA, comp, -, fA, fC, hO, -, X', step⟩ := Xs.multianewarray2F (ty := .int) hx hown hcl hK.2.2.1 (hts _ pm_arc) (g := F0 m pc ls (.int (nI k) :: .int (nI i) :: rest)) rfl (by rw [hb]; exact hdg) rfl (nI_pos (by omega)) (nI_pos (by omega)) (by rw [hN]; omega) (by rw [hM]; show k * 4 ≤ _; omega) (by rw [hM]; omega) rfl rfl (by rw [hN]; exact hc) (by rw [hN, hM]; exact hs)
  rw [hN, hM] at X' step
  have e1 : comp = g.2.1 := Option.some.inj (fC.symm.trans (hK.1.2 0 _ rfl).2)
  have e2 : cA = g.2.2.2 := Option.some.inj (fA.symm.trans (hK.1.2 2 _ rfl).2)
  subst e1; subst e2
  generalize hF : Jvm.Free.Multi.fill (T.setVm vm₁) g.2.2.2 g.2.1 i k (defaultValue .int) i = F at X' step
  have hTh : (T.setVm vm₁).heap = H := hT
  obtain ⟨f1, f2, -, -⟩ := Jvm.Free.Multi.fill_facts (T.setVm vm₁) g.2.2.2 g.2.1 i k (defaultValue .int) i
  rw [hF, hTh] at f1 f2
  have hold : ∀ x : Nat, x < H.size → F.heap[x]? = H[x]? := fun x hx => by
    have := Jvm.Free.Multi.fill_old (T.setVm vm₁) g.2.2.2 g.2.1 i k (defaultValue .int) (a := x) (by rw [hTh]; exact hx) i
    rw [hF, hTh] at this
    exact this
  have hrow : ∀ j : Nat, j < i → F.heap[H.size + 1 + j]? = some (Jvm.Free.Multi.innerC g.2.1 k (defaultValue .int)) := fun j hj => by
    have := Jvm.Free.Multi.fill_inner (T.setVm vm₁) g.2.2.2 g.2.1 i k (defaultValue .int) i j hj
    rw [hF, hTh] at this
    exact this
  have hI : Jvm.Free.Multi.innerC g.2.1 k (defaultValue .int) = vp_cell g.2.1 (k, .inl (fun _ => 0)) := arrV_new _ _ _
  have hOu : Jvm.Free.Multi.outerC g.2.2.2 i H.size i = vp_cell g.2.2.2 (i, .inr (.inr (.inr (.inr (fun j => if j < i then some (H.size + 1 + j) else none))))) := pm_outer _ _ _ _
  have hF1 : pm_hold g (pm_upm g A H.size (fun j => H.size + 1 + j) i k) F.heap := by
    intro q x hq
    unfold pm_upm at hq
    by_cases h1 : q = H.size
    · rw [if_pos h1] at hq
      cases hq
      subst h1
      show F.heap[H.size]? = some (vp_cell _ _)
      rw [f2, hOu]
    · rw [if_neg h1] at hq
      by_cases h2 : ∃ j, j < i ∧ q = H.size + 1 + j
      · rw [if_pos h2] at hq
        cases hq
        obtain ⟨j, hj, rfl⟩ := h2
        show F.heap[H.size + 1 + j]? = some (vp_cell _ _)
        rw [hrow j hj, hI]
      · rw [if_neg h2] at hq
        exact (hH q x hq).kept (hold q (hH q x hq).lt)
  obtain ⟨t, a1, b1⟩ := kk F.heap hF1 (by rw [f1]; omega) hold F rfl X'
  refine ⟨t, step t ?_, b1⟩
  rw [hT]
  exact a1
end PMH
