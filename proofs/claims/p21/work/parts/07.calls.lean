/-! a call, by its contract over the pure cells -/
theorem pm_AM.moved {u U : State} (hvm : u.vm.Alike U.vm) (h : pm_AM u) : pm_AM U := by
  obtain ⟨comp, c, k, h1, h2, h3, h4, h5⟩ := arrayOverA_spec h
  obtain ⟨k', hk', he⟩ := hvm.2.2 _ _ h3
  have hi : (U.vm.classes.findIdx? fun (x : Class) => match x.kind with | .array component _ => component == comp | _ => false) = some c := by
    refine (va_idx_bare U.vm comp).symm.trans ?_
    first | rw [hvm.bare_eq] | rw [← hvm.bare_eq]
    exact (va_idx_bare u.vm comp).trans h2
  have hkind : k'.kind = .array comp (.array .int) := by rw [he]; exact h4
  have f1 : U.vm.findClass (FieldType.array .int).toString = some comp := by rw [hvm.findClass]; exact h1
  have f2 : U.vm.findClass ("[" ++ (FieldType.array .int).toString) = some c := by rw [hvm.findClass]; exact h5
  unfold pm_AM Cond.before Cond.holds
  simp only [Cond.value]
  rw [f1, Option.bind_some]
  refine (congrArg (fun o : Option Nat => (o.bind (fun c => (U.vm.classes[c]?).map fun (k : Class) => match k.kind with | .array _ ty => decide (ty = FieldType.array .int) && decide (U.vm.findClass ("[" ++ (FieldType.array .int).toString) = some c) | _ => false) == some true)) hi).trans ?_
  simp [hk', hkind, f2]
theorem pm_K.same {g : pm_G} {u U : State} (h : u.vm = U.vm) (hK : pm_K g u) : pm_K g U := by
  have ha : u.vm.Alike U.vm := by rw [h]; exact Vm.Alike.refl _
  exact ⟨hK.1.moved ha, hK.2.1.moved ha, hK.2.2.1.moved ha, fun q hq => va_Nw.same rfl h (hK.2.2.2 q hq)⟩
theorem pm_K.warm {g : pm_G} {u U : State} (h : u.WarmedH U.vm) (hK : pm_K g u) : pm_K g U := by
  have ha : u.vm.Alike U.vm := h.alike
  exact ⟨hK.1.moved ha, hK.2.1.moved ha, hK.2.2.1.moved ha, fun q hq => va_Nw.warmM h (hK.2.2.2 q hq)⟩
theorem pm_good {n : Nat} (hn : n < 283) : GoodIn pm_W (pm_ws n) := by
  intro w hw
  rcases List.mem_cons.mp hw with h | h
  · rw [h]
    have h1 := pm_cw_ok _ (pm_me_mem hn)
    exact ⟨h1, good_of_word (List.mem_filter.mp h1).2⟩
  · exact ⟨h, good_of_word (List.mem_filter.mp h).2⟩
theorem pm_mok {n : Nat} (hn : n < 283) : Cond.initialized (pm_me n).1.cls ∈ pm_W ∧ ((pm_me n).1.cls ≠ "java/lang/invoke/MethodHandle" ∧ (pm_me n).1.cls ≠ "java/lang/invoke/VarHandle" ∧ (parseMethodDescriptor (pm_me n).1.desc).map (fun d => d.parameters.length) = some (pm_me n).2.2.2.2.1) ∧ (pm_me n).2.2.1 ≤ 21 ∧ ((pm_me n).2.2.2.2.2 = 0 → Cond.instanceMethod (pm_me n).1 ∈ pm_W ∧ Cond.selects (pm_me n).1.cls (pm_me n).1 (pm_me n).1 ∈ pm_W) ∧ ((pm_me n).2.2.2.2.2 = 1 → Cond.static (pm_me n).1 ∈ pm_W) ∧ ((pm_me n).2.2.2.2.2 = 2 → Cond.instanceMethod (pm_me n).1 ∈ pm_W ∧ (pm_me n).1.name = "<init>" ∧ (pm_me n).2.2.2.1 = none) := by
  obtain ⟨p, hp⟩ := pm_mt_ok _ (pm_me_mem hn)
  generalize pm_me n = e at hp ⊢
  obtain ⟨y, cd, mx, rt, na, kd⟩ := e
  simp only [pm_okm, Bool.and_eq_true, decide_eq_true_eq] at hp
  obtain ⟨h1, h2, h3, h4⟩ := hp
  refine ⟨pm_in_ok h1, h2, h3, fun hk => ?_, fun hk => ?_, fun hk => ?_⟩
  · have hk : kd = 0 := hk
    subst hk
    simp only [Bool.and_eq_true] at h4
    exact ⟨pm_in_ok h4.1, pm_in_ok h4.2⟩
  · have hk : kd = 1 := hk
    subst hk
    exact pm_in_ok h4
  · have hk : kd = 2 := hk
    subst hk
    simp only [Bool.and_eq_true, decide_eq_true_eq] at h4
    exact ⟨pm_in_ok h4.1, h4.2⟩
section PMC
variable {p : Program} {l : Launch} {e : Env} {R : Room} {s : State} {m : MethodId} {args : Array Value} {below : List Frame} {meth : Method} {c : Code} {H : Heap} {locs : List Loc} {cells slots : Nat} {Q : State → Prop}
variable {cc : ByteArray} {pc : Nat} {ls : Array Slot} {rest : List Value} {a : Nat} {g : pm_G} {A : pm_H} {own nL : Nat} {fr : Nat → Prop}
theorem pm_w_after {mc ms : Nat} {st0 : List Value} {av : Array Value} {Q' : Option Value → pm_H → Prop} (hr : va_Run p l e R s m args below meth c H locs cells slots mc ms (F0 m pc ls st0) rest (pm_Qc g A H.size Q' av) (pm_fr A H.size)) (hd : ∀ q, A q ≠ none → fr q) (hS : va_S fr s.heap H locs) (hA : ∀ q, s.heap.size ≤ q → fr q)
    (kk : ∀ (r : Option Value) (A' : pm_H) (H1 : Heap) (locs1 : List Loc), Q' r A' → pm_hold g A' H1 → (∀ q, A' q ≠ none → fr q) → va_S fr s.heap H1 locs1 → W p l e R s m args below meth c H1 locs1 (cells + mc) (slots + ms) Q (F0 m (pc + 3) ls (r.toList ++ rest))) : W p l e R s m args below meth c H locs cells slots Q (F0 m pc ls st0) := by
  have hf : ∀ q, pm_fr A H.size q → fr q := fun q h => by
    rcases h with h | h
    · exact hd q h
    · exact hA q (Nat.le_trans hS.1 h)
  intro T hT X
  obtain ⟨v, st₀, t, T', L, h0, X', hL, e1, e2, ⟨r, A', ho, hq, hh, hdm, hz, hk⟩, st⟩ := hr T hT X
  cases ho
  rw [h0] at hz hk
  obtain ⟨t2, a1, b1⟩ := kk v A' T'.heap (locs ++ L) hq (by rw [e1]; exact hh) (fun q h => hf q (hdm q h))
    ⟨Nat.le_trans hS.1 (by rw [e1]; exact hz), fun q h1 h2 => by rw [e1, hk q (Nat.lt_of_lt_of_le h1 hS.1) (fun z => h2 (hf q z))]; exact hS.2.1 q h1 h2, fun q hq => by
      rcases List.mem_append.mp hq with h | h
      · exact hS.2.2 q h
      · exact hf _ (hL q h)⟩ T' rfl X'
  exact ⟨t2, st t2 a1, b1⟩
theorem pm_blind {as : List Value} {sz : Nat} : FrameBlind (va_Pc as (fun U => U.heap.size = sz ∧ pm_hold g A U.heap ∧ pm_K g U)) := by
  intro a U g' mk h
  obtain ⟨h1, h2, h3, h4⟩ := h
  exact ⟨h1, h2, h3, pm_K.same (u := U) (U := U.calling g' mk a) rfl h4⟩
theorem pm_cb (hts : ∀ w ∈ pm_W, w.before args s = true) {n idx d' mc' ms' : Nat} (hm : (own, idx, n) ∈ pm_ml) (hf : d' + 1 ≤ R.frames) (hl : 40 * (d' + 1) ≤ R.locals) : CallB R s args (pm_nm own) idx (pm_me n).1 (pm_me n).2.1 (pm_me n).2.2.1 (pm_me n).2.2.2.1 (pm_ws n) ({ frames := d', cells := mc', slots := ms', locals := 40 * d' }) mc' ms' (pm_me n).2.2.2.2.1 := by
  obtain ⟨h1, h2⟩ := pm_ml_ok _ hm
  obtain ⟨k1, k2, k3, -⟩ := pm_mok h2
  have k3 : (pm_me n).2.2.1 ≤ 21 := k3
  exact callB_of _ hts (pm_good h2) rfl rfl rfl (hts _ k1) (hts _ h1) k2 ⟨hf, by show 8 + (_ + 11) + 40 * d' ≤ _; omega⟩
theorem pm_w_callV (hx : p.tables.exec = Jvm.exec) (hb : c.code = cc) (hml : c.maxLocals = nL) (hown : s.vm.findClass (pm_nm own) = some m.cls) (hts : ∀ w ∈ pm_W, w.before args s = true) (hK : pm_K g s) (hA : ∀ q, s.heap.size ≤ q → fr q) (hH : pm_hold g A H) (hd : ∀ q, A q ≠ none → fr q) (hS : va_S fr s.heap H locs) (hls : ls.size = nL)
    {n idx d' mc' ms' ci b : Nat} {as fs : List Value} {Q' : Option Value → pm_H → Prop} (hM : pm_Mt l g n d' mc' ms' (.ref b :: as) A Q') (hm : (own, idx, n) ∈ pm_ml) (hk0 : (pm_me n).2.2.2.2.2 = 0) (hna : as.length = (pm_me n).2.2.2.2.1) (hci : ci < 12) (hcn : pm_nm ci = (pm_me n).1.cls) (hb0 : A b = some (pm_ob ci fs)) (hf : d' + 1 ≤ R.frames) (hl : 40 * (d' + 1) ≤ R.locals) (hrc : cells + mc' ≤ R.cells) (hrs : slots + ms' ≤ R.slots) (hrm : (rest.map fun v => v.category).sum ≤ 8) (hdg : decode cc pc = .ok (.invokevirtual idx, 3))
    (kk : ∀ (r : Option Value) (A' : pm_H) (H1 : Heap) (locs1 : List Loc), Q' r A' → pm_hold g A' H1 → (∀ q, A' q ≠ none → fr q) → va_S fr s.heap H1 locs1 → W p l e R s m args below meth c H1 locs1 (cells + mc') (slots + ms') Q (F0 m (pc + 3) ls (r.toList ++ rest))) : W p l e R s m args below meth c H locs cells slots Q (F0 m pc ls (as.reverse ++ .ref b :: rest)) := by
  obtain ⟨h1, h2⟩ := pm_ml_ok _ hm
  obtain ⟨-, -, -, k4, -⟩ := pm_mok h2
  obtain ⟨k5, k6⟩ := k4 hk0
  refine pm_w_after (va_runV (C := (pm_me n).1.cls) (b := b) (As := as) (rest := rest) ⟨hx, hb, hml, hown, hts⟩ (hM H.size) ⟨pm_cb hts hm hf hl, hts _ k5, hts _ k6⟩ ⟨pm_blind, ?_, fun U hU hW => ⟨rfl, by rw [hU], by rw [hU]; exact hH, hK.warm hW⟩⟩ rfl hna hls rfl (lv_room hrm) hdg ⟨hrc, hrs⟩) hd hS hA kk
  rw [← hcn, (pm_ci_ok ci hci).2]
  exact va_recv hK.1 (pm_P1 (hH b _ hb0)) (ci := ci) (q0 := 0) (pm_cl_at hci) rfl
theorem pm_w_callS (hx : p.tables.exec = Jvm.exec) (hb : c.code = cc) (hml : c.maxLocals = nL) (hown : s.vm.findClass (pm_nm own) = some m.cls) (hts : ∀ w ∈ pm_W, w.before args s = true) (hK : pm_K g s) (hA : ∀ q, s.heap.size ≤ q → fr q) (hH : pm_hold g A H) (hd : ∀ q, A q ≠ none → fr q) (hS : va_S fr s.heap H locs) (hls : ls.size = nL)
    {n idx d' mc' ms' : Nat} {as : List Value} {Q' : Option Value → pm_H → Prop} (hM : pm_Mt l g n d' mc' ms' as A Q') (hm : (own, idx, n) ∈ pm_ml) (hk0 : (pm_me n).2.2.2.2.2 = 1) (hna : as.length = (pm_me n).2.2.2.2.1) (hf : d' + 1 ≤ R.frames) (hl : 40 * (d' + 1) ≤ R.locals) (hrc : cells + mc' ≤ R.cells) (hrs : slots + ms' ≤ R.slots) (hrm : (rest.map fun v => v.category).sum ≤ 8) (hdg : decode cc pc = .ok (.invokestatic idx, 3))
    (kk : ∀ (r : Option Value) (A' : pm_H) (H1 : Heap) (locs1 : List Loc), Q' r A' → pm_hold g A' H1 → (∀ q, A' q ≠ none → fr q) → va_S fr s.heap H1 locs1 → W p l e R s m args below meth c H1 locs1 (cells + mc') (slots + ms') Q (F0 m (pc + 3) ls (r.toList ++ rest))) : W p l e R s m args below meth c H locs cells slots Q (F0 m pc ls (as.reverse ++ rest)) := by
  obtain ⟨h1, h2⟩ := pm_ml_ok _ hm
  obtain ⟨-, -, -, -, k4, -⟩ := pm_mok h2
  exact pm_w_after (va_runS (As := as) (rest := rest) ⟨hx, hb, hml, hown, hts⟩ (hM H.size) ⟨pm_cb hts hm hf hl, hts _ (k4 hk0)⟩ ⟨pm_blind, fun U hU hW => ⟨rfl, by rw [hU], by rw [hU]; exact hH, hK.warm hW⟩⟩ rfl hna hls rfl (lv_room hrm) hdg ⟨hrc, hrs⟩) hd hS hA kk
theorem pm_w_callI (hx : p.tables.exec = Jvm.exec) (hb : c.code = cc) (hml : c.maxLocals = nL) (hown : s.vm.findClass (pm_nm own) = some m.cls) (hts : ∀ w ∈ pm_W, w.before args s = true) (hK : pm_K g s) (hA : ∀ q, s.heap.size ≤ q → fr q) (hH : pm_hold g A H) (hd : ∀ q, A q ≠ none → fr q) (hS : va_S fr s.heap H locs) (hls : ls.size = nL)
    {n idx d' mc' ms' b : Nat} {Q' : Option Value → pm_H → Prop} (hM : pm_Mt l g n d' mc' ms' [.ref b] A Q') (hm : (own, idx, n) ∈ pm_ml) (hk0 : (pm_me n).2.2.2.2.2 = 2) (hna : 0 = (pm_me n).2.2.2.2.1) (hf : d' + 1 ≤ R.frames) (hl : 40 * (d' + 1) ≤ R.locals) (hrc : cells + mc' ≤ R.cells) (hrs : slots + ms' ≤ R.slots) (hrm : (rest.map fun v => v.category).sum ≤ 8) (hdg : decode cc pc = .ok (.invokespecial idx, 3))
    (kk : ∀ (r : Option Value) (A' : pm_H) (H1 : Heap) (locs1 : List Loc), Q' r A' → pm_hold g A' H1 → (∀ q, A' q ≠ none → fr q) → va_S fr s.heap H1 locs1 → W p l e R s m args below meth c H1 locs1 (cells + mc') (slots + ms') Q (F0 m (pc + 3) ls (r.toList ++ rest))) : W p l e R s m args below meth c H locs cells slots Q (F0 m pc ls (.ref b :: rest)) := by
  obtain ⟨h1, h2⟩ := pm_ml_ok _ hm
  obtain ⟨-, -, -, -, -, k4⟩ := pm_mok h2
  obtain ⟨k5, k6, k7⟩ := k4 hk0
  have cb := pm_cb (R := R) (mc' := mc') (ms' := ms') hts hm hf hl
  rw [k7] at cb
  exact pm_w_after (va_runI (As := []) (rest := rest) ⟨hx, hb, hml, hown, hts⟩ (hM H.size) ⟨cb, k6, hts _ k5⟩ ⟨pm_blind, fun U hU hW => ⟨rfl, by rw [hU], by rw [hU]; exact hH, hK.warm hW⟩⟩ rfl hna hls rfl (lv_room hrm) hdg ⟨hrc, hrs⟩) hd hS hA kk
theorem pm_w_callN (hx : p.tables.exec = Jvm.exec) (hb : c.code = cc) (hml : c.maxLocals = nL) (hown : s.vm.findClass (pm_nm own) = some m.cls) (hts : ∀ w ∈ pm_W, w.before args s = true) (hK : pm_K g s) (hA : ∀ q, s.heap.size ≤ q → fr q) (hH : pm_hold g A H) (hd : ∀ q, A q ≠ none → fr q) (hS : va_S fr s.heap H locs) (hls : ls.size = nL)
    {n idx d' mc' ms' b hs : Nat} {Q' : Option Value → pm_H → Prop} (hM : pm_Mt l g n d' mc' ms' [.ref b] A Q') (hm : (own, idx, n, hs) ∈ pm_nl2) (hk0 : (pm_me n).2.2.2.2.2 = 2) (hna : 0 = (pm_me n).2.2.2.2.1) (hf : d' + 1 ≤ R.frames) (hl : 40 * (d' + 1) ≤ R.locals) (hrc : cells + mc' ≤ R.cells) (hrs : slots + ms' ≤ R.slots) (hrm : (rest.map fun v => v.category).sum ≤ 8) (hdg : decode cc pc = .ok (.invokespecial idx, 3))
    (kk : ∀ (r : Option Value) (A' : pm_H) (H1 : Heap) (locs1 : List Loc), Q' r A' → pm_hold g A' H1 → (∀ q, A' q ≠ none → fr q) → va_S fr s.heap H1 locs1 → W p l e R s m args below meth c H1 locs1 (cells + mc') (slots + ms') Q (F0 m (pc + 3) ls (r.toList ++ rest))) : W p l e R s m args below meth c H locs cells slots Q (F0 m pc ls (.ref b :: rest)) := by
  obtain ⟨-, h2⟩ := pm_nl2_ok _ hm
  obtain ⟨k1, k2, k3, -, -, k4⟩ := pm_mok h2
  have k3 : (pm_me n).2.2.1 ≤ 21 := k3
  obtain ⟨k5, k6, k7⟩ := k4 hk0
  have hz := hK.2.2.2 _ hm
  simp only [pm_nlw] at hz
  have cb : va_CN R s args (pm_nm own) idx (pm_me n).1 (pm_nm hs) (pm_me n).2.1 (pm_me n).2.2.1 (pm_me n).2.2.2.1 (pm_ws n) ({ frames := d', cells := mc', slots := ms', locals := 40 * d' }) mc' ms' (pm_me n).2.2.2.2.1 := va_cnB _ hts (pm_good h2) rfl rfl rfl hz (hts _ k1) k2 ⟨hf, by show 8 + (_ + 11) + 40 * d' ≤ _; omega⟩
  rw [k7] at cb
  exact pm_w_after (va_runIN (As := []) (rest := rest) ⟨hx, hb, hml, hown, hts⟩ (hM H.size) ⟨cb, k6, hts _ k5⟩ ⟨pm_blind, fun U hU hW => ⟨rfl, by rw [hU], by rw [hU]; exact hH, hK.warm hW⟩⟩ rfl hna hls rfl (lv_room hrm) hdg ⟨hrc, hrs⟩) hd hS hA kk
end PMC
