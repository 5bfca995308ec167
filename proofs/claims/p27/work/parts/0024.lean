section
variable {p : Program} {l : Launch} {e : Env} {R : Room} {s : State} {m : MethodId} {args : Array Value} {below : List Frame} {meth : Method} {c : Code} {H : Heap} {locs : List Loc} {cells slots : Nat} {Q : State → Prop}
variable {cc : ByteArray} {pc : Nat} {ls : Array Slot} {rest : List Value} {a : Nat} {g : pm_G} {A : pm_H} {own : Nat} {fr : Nat → Prop}
theorem pm_w_iald (hx : p.tables.exec = Jvm.exec) (hb : c.code = cc) (hK : pm_K g s) (hH : pm_hold g A H) {n : Nat} {f : Nat → Int32} {x : Int32} (ha : A a = some (pm_ia g n f)) (hin : 0 ≤ x.toInt ∧ x.toInt < n) (hdg : decode cc pc = .ok (.iaload, 1))
    (kk : W p l e R s m args below meth c H locs cells slots Q (F0 m (pc + 1) ls (.int (f x.toInt.toNat) :: rest))) : W p l e R s m args below meth c H locs cells slots Q (F0 m pc ls (.int x :: .ref a :: rest)) :=
  va_iald (D := g.1) (cl := vwCl) hx hb hK.1 (pm_P1 (hH a _ ha)) 0 0 rfl rfl (pm_in_of hin) hdg kk
theorem pm_w_iast (hx : p.tables.exec = Jvm.exec) (hb : c.code = cc) (hK : pm_K g s) (hH : pm_hold g A H) {n : Nat} {f : Nat → Int32} {x v : Int32} (ha : A a = some (pm_ia g n f)) (hin : 0 ≤ x.toInt ∧ x.toInt < n) (hdg : decode cc pc = .ok (.iastore, 1))
    (kk : ∀ (H1 : Heap) (i : Nat), pm_hold g (pm_up A a (pm_ia g n (upd f x.toInt.toNat v))) H1 → H1.size = H.size → (∀ q : Nat, q ≠ a → H1[q]? = H[q]?) → W p l e R s m args below meth c H1 (locs ++ [⟨a, i⟩]) cells slots Q (F0 m (pc + 1) ls rest)) : W p l e R s m args below meth c H locs cells slots Q (F0 m pc ls (.int v :: .int x :: .ref a :: rest)) := by
  refine W.iast hx hb (hH a _ ha) ((hK.1.2 0 _ rfl).1 n (fun j => .int (f j))) (fun q => by cases q) (by show ¬ (x < 0 ∨ (arrV _ _ _).slots.size ≤ _); rw [arrV_size]; exact pm_in_of hin) rfl rfl hdg fun H1 e1 z oq => ?_
  refine kk H1 _ (pm_hold_up hH ?_ oq) z oq
  show H1[a]? = some (vp_cell _ _)
  rw [e1]
  simp only [vp_cell_i, vp_cell_q, arrV_store]
  congr 2
  funext q
  by_cases hq : q = x.toNatClampNeg
  · subst hq
    simp [updV, upd]
  · simp [updV, upd, hq]
theorem pm_w_aald (hx : p.tables.exec = Jvm.exec) (hb : c.code = cc) (hK : pm_K g s) (hH : pm_hold g A H) {n : Nat} {f : Nat → Option Nat} {x : Int32} (ha : A a = some (pm_ra g n f) ∨ A a = some (pm_ma g n f)) (hin : 0 ≤ x.toInt ∧ x.toInt < n) (hdg : decode cc pc = .ok (.aaload, 1))
    (kk : W p l e R s m args below meth c H locs cells slots Q (F0 m (pc + 1) ls (va_rf (f x.toInt.toNat) :: rest))) : W p l e R s m args below meth c H locs cells slots Q (F0 m pc ls (.int x :: .ref a :: rest)) := by
  have hlt : x.toNatClampNeg < n := Nat.not_le.mp fun q => (pm_in_of hin) (Or.inr q)
  rcases ha with ha | ha
  · exact va_aldq (D := g.1) (cl := vwCl) hx hb hK.1 (pm_P1 (hH a _ ha)) 0 1 rfl rfl (pm_in_of hin) hdg kk
  · exact W.aald (v := va_rf (f x.toNatClampNeg)) (ty := .array .int) hx hb (hH a _ ha) ((hK.1.2 2 _ rfl).1 n (fun j => va_rf (f j))) rfl (fun q => by cases q) (by show ¬ (x < 0 ∨ (arrV _ _ _).slots.size ≤ _); rw [arrV_size]; exact pm_in_of hin) (by show (arrV _ _ _).slots[_]? = _; rw [arrV_read _ _ hlt]) rfl rfl hdg kk
theorem pm_w_aast (hx : p.tables.exec = Jvm.exec) (hb : c.code = cc) (hK : pm_K g s) (hH : pm_hold g A H) {n v : Nat} {f : Nat → Option Nat} {fs : List Value} {x : Int32} (ha : A a = some (pm_ra g n f)) (hv : A v = some (pm_ob 7 fs)) (hin : 0 ≤ x.toInt ∧ x.toInt < n) (hdg : decode cc pc = .ok (.aastore, 1))
    (kk : ∀ (H1 : Heap) (i : Nat), pm_hold g (pm_up A a (pm_ra g n (va_up f x.toInt.toNat (some v)))) H1 → H1.size = H.size → (∀ q : Nat, q ≠ a → H1[q]? = H[q]?) → W p l e R s m args below meth c H1 (locs ++ [⟨a, i⟩]) cells slots Q (F0 m (pc + 1) ls rest)) : W p l e R s m args below meth c H locs cells slots Q (F0 m pc ls (.ref v :: .int x :: .ref a :: rest)) := by
  have hlt : x.toNatClampNeg < n := Nat.not_le.mp fun q => (pm_in_of hin) (Or.inr q)
  have h0 : ¬ x < 0 := fun q => (pm_in_of hin) (Or.inl q)
  obtain ⟨r', hr', cellV, g1, g2, g3, -⟩ := hH v _ hv
  have hcls := (hK.1.1 7 _ (pm_cl_at (by decide))).2
  obtain ⟨kA, comp, k1, k2, k3, -⟩ := (hK.1.2 1 _ rfl).2
  have hcomp : comp = g.1.1 7 := Option.some.inj (k3.symm.trans hcls.1)
  subst hcomp
  obtain ⟨kC, hkC, -⟩ := hcls.2
  refine W.aast hx hb (hH a _ ha) (fun q h => by cases h) (fun h => by cases h) k1 k2 rfl hkC ⟨h0, by show _ < (arrV _ _ _).slots.size; rw [arrV_size]; exact hlt⟩ g1 (fun q h => by rw [g3] at h; cases h) (by rw [g2]; exact hkC) (by rw [g2]; exact va_assign hcls) rfl rfl hdg fun H1 e1 z oq => ?_
  refine kk H1 _ (pm_hold_up hH ?_ oq) z oq
  show H1[a]? = some (vp_cell _ _)
  rw [e1]
  simp only [vp_cell_i, vp_cell_q, arrV_store]
  congr 2
  funext q
  by_cases hq : q = x.toNatClampNeg
  · subst hq
    simp [updV, va_up, va_rf]
  · simp [updV, va_up, hq]
theorem pm_w_alen (hx : p.tables.exec = Jvm.exec) (hb : c.code = cc) (hK : pm_K g s) (hH : pm_hold g A H) {n : Nat} {f : Nat → Int32} (ha : A a = some (pm_ia g n f)) (hdg : decode cc pc = .ok (.arraylength, 1))
    (kk : W p l e R s m args below meth c H locs cells slots Q (F0 m (pc + 1) ls (.int (nI n) :: rest))) : W p l e R s m args below meth c H locs cells slots Q (F0 m pc ls (.ref a :: rest)) :=
  W.alen (n := nI n) hx hb (hH a _ ha) ((hK.1.2 0 _ rfl).1 n (fun j => .int (f j))) (by show (arrV _ _ _).slots.size.toInt32 = _; rw [arrV_size]; rfl) rfl rfl hdg kk
theorem pm_w_newa (hx : p.tables.exec = Jvm.exec) (hb : c.code = cc) (hts : ∀ w ∈ pm_W, w.before args s = true) (hK : pm_K g s) (hH : pm_hold g A H) {i : Nat} (hi : i ≤ 100000) (hc : cells + 1 ≤ R.cells) (hs : slots + i ≤ R.slots) (hdg : decode cc pc = .ok (.newarray .int, 2))
    (kk : ∀ H1 : Heap, pm_hold g (pm_up A H.size (pm_ia g i (fun _ => 0))) H1 → H1.size = H.size + 1 → (∀ q : Nat, q < H.size → H1[q]? = H[q]?) → W p l e R s m args below meth c H1 locs (cells + 1) (slots + i) Q (F0 m (pc + 2) ls (.ref H.size :: rest))) : W p l e R s m args below meth c H locs cells slots Q (F0 m pc ls (.int (nI i) :: rest)) := by
  refine va_newaK (atype := .int) hx hb (hts _ pm_arc) rfl hdg rfl (nI_pos (by omega)) (nI_clamp (by omega)) (by show i * 4 ≤ _; omega) hc hs rfl fun H1 cA e1 z1 o1 hAr hNm => ?_
  have hcA : cA = g.2.1 := Option.some.inj (hNm.symm.trans (hK.1.2 0 _ rfl).2)
  subst hcA
  refine kk H1 (pm_hold_new hH ?_ o1) z1 o1
  exact e1
theorem pm_w_newq (hx : p.tables.exec = Jvm.exec) (hb : c.code = cc) (hown : s.vm.findClass (pm_nm own) = some m.cls) (hts : ∀ w ∈ pm_W, w.before args s = true) (hK : pm_K g s) (hH : pm_hold g A H) {i idx : Nat} (hm : (own, idx, 7) ∈ pm_cl) (hi : i ≤ 100000) (hc : cells + 1 ≤ R.cells) (hs : slots + i ≤ R.slots) (hdg : decode cc pc = .ok (.anewarray idx, 3))
    (kk : ∀ H1 : Heap, pm_hold g (pm_up A H.size (pm_ra g i (fun _ => none))) H1 → H1.size = H.size + 1 → (∀ q : Nat, q < H.size → H1[q]? = H[q]?) → W p l e R s m args below meth c H1 locs (cells + 1) (slots + i) Q (F0 m (pc + 3) ls (.ref H.size :: rest))) : W p l e R s m args below meth c H locs cells slots Q (F0 m pc ls (.int (nI i) :: rest)) := by
  have hN : (nI i).toNatClampNeg = i := nI_clamp (by omega)
  refine W.anew (C := RX7) hx hb hown (hts _ (pm_cl_ok _ hm).1) (va_AO.use hK.2.1) rfl hdg rfl (nI_pos (by omega)) (by rw [hN]; omega) hc (by rw [hN]; exact hs) fun cA kA comp f1 f2 f3 f4 => ?_
  rw [hN]
  obtain ⟨kA', comp', k1, k2, k3, k4⟩ := (hK.1.2 1 _ rfl).2
  have hcA : cA = g.2.2.1 := Option.some.inj (f1.symm.trans k4)
  subst hcA
  have o1 : ∀ q : Nat, q < H.size → (H.push ({ cls := g.2.2.1, slots := Array.replicate i .null, vm := .none } : Cell))[q]? = H[q]? := fun q hq => by rw [Array.getElem?_push, if_neg (Nat.ne_of_lt hq)]
  refine kk _ (pm_hold_new hH ?_ o1) (by rw [Array.size_push]) o1
  show _ = some (vp_cell _ _)
  rw [Array.getElem?_push_size, arrV_new]
  rfl
end
