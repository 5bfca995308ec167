section
variable {p : Program} {l : Launch} {e : Env} {R : Room} {s : State} {m : MethodId} {args : Array Value} {below : List Frame} {meth : Method} {c : Code} {H : Heap} {locs : List Loc} {cells slots : Nat} {Q : State → Prop}
variable {cc : ByteArray} {pc : Nat} {ls : Array Slot} {rest : List Value} {a : Nat} {g : pm_G} {A : pm_H} {own nL : Nat} {fr : Nat → Prop}
theorem pm_w_after {mc ms : Nat} {st0 : List Value} {av : Array Value} {Q' : Option Value → pm_H → Prop} (hr : va_Run p l e R s m args below meth c H locs cells slots mc ms (F0 m pc ls st0) rest (pm_Qc g A H.size Q' av) (pm_fr A H.size)) (hd : ∀ q, A q ≠ none → fr q) (hS : va_S fr s.heap H locs) (hA : ∀ q, s.heap.size ≤ q → fr q)
    (kk : ∀ (r : Option Value) (A' : pm_H) (H1 : Heap) (locs1 : List Loc), Q' r A' → pm_hold g A' H1 → (∀ q, A' q ≠ none → fr q) → va_S fr s.heap H1 locs1 → W p l e R s m args below meth c H1 locs1 (cells + mc) (slots + ms) Q (F0 m (pc + 3) ls (r.toList ++ rest))) : W p l e R s m args below meth c H locs cells slots Q (F0 m pc ls st0) := by
  have hf : ∀ q, pm_fr A H.size q → fr q := fun q h => by
    rcases h with h | h
    · exact hd q h
    · exact hA q (Nat.le_trans hS.1 h)
  intro T hT X
  obtain ⟨v, st₀, t, T', L, h0, X', hL, e1, e2, ⟨r, A', ho, hq, hh, hdm, hz, hk⟩, st⟩ := hr T hT X
  cases ho
  rw [h0] at hz hk
  obtain ⟨t2, a1, b1⟩ := kk v A' T'.heap (locs ++ L) hq (by rw [e1]; exact hh) (fun q h => hf q (hdm q h))
    ⟨Nat.le_trans hS.1 (by rw [e1]; exact hz), fun q h1 h2 => by rw [e1, hk q (Nat.lt_of_lt_of_le h1 hS.1) (fun z => h2 (hf q z))]; exact hS.2.1 q h1 h2, fun q hq => by
      rcases List.mem_append.mp hq with h | h
      · exact hS.2.2 q h
      · exact hf _ (hL q h)⟩ T' rfl X'
  exact ⟨t2, st t2 a1, b1⟩
theorem pm_blind {as : List Value} {sz : Nat} : FrameBlind (va_Pc as (fun U => U.heap.size = sz ∧ pm_hold g A U.heap ∧ pm_K g U)) := by
  intro a U g' mk h
  obtain ⟨h1, h2, h3, h4⟩ := h
  exact ⟨h1, h2, h3, pm_K.same (u := U) (U := U.calling g' mk a) rfl h4⟩
theorem pm_cb (hts : ∀ w ∈ pm_W, w.before args s = true) {n idx d' mc' ms' : Nat} (hm : (own, idx, n) ∈ pm_ml) (hf : d' + 1 ≤ R.frames) (hl : 40 * (d' + 1) ≤ R.locals) : CallB R s args (pm_nm own) idx (pm_me n).1 (pm_me n).2.1 (pm_me n).2.2.1 (pm_me n).2.2.2.1 (pm_ws n) ({ frames := d', cells := mc', slots := ms', locals := 40 * d' }) mc' ms' (pm_me n).2.2.2.2.1 := by
  obtain ⟨h1, h2⟩ := pm_ml_ok _ hm
  obtain ⟨k1, k2, k3, -⟩ := pm_mok h2
  have k3 : (pm_me n).2.2.1 ≤ 21 := k3
  exact callB_of _ hts (pm_good h2) rfl rfl rfl (hts _ k1) (hts _ h1) k2 ⟨hf, by show 8 + (_ + 11) + 40 * d' ≤ _; omega⟩
theorem pm_w_callV (hx : p.tables.exec = Jvm.exec) (hb : c.code = cc) (hml : c.maxLocals = nL) (hown : s.vm.findClass (pm_nm own) = some m.cls) (hts : ∀ w ∈ pm_W, w.before args s = true) (hK : pm_K g s) (hA : ∀ q, s.heap.size ≤ q → fr q) (hH : pm_hold g A H) (hd : ∀ q, A q ≠ none → fr q) (hS : va_S fr s.heap H locs) (hls : ls.size = nL)
    {n idx d' mc' ms' ci b : Nat} {as fs : List Value} {Q' : Option Value → pm_H → Prop} (hM : pm_Mt l g n d' mc' ms' (.ref b :: as) A Q') (hm : (own, idx, n) ∈ pm_ml) (hk0 : (pm_me n).2.2.2.2.2 = 0) (hna : as.length = (pm_me n).2.2.2.2.1) (hci : ci < 12) (hcn : pm_nm ci = (pm_me n).1.cls) (hb0 : A b = some (pm_ob ci fs)) (hf : d' + 1 ≤ R.frames) (hl : 40 * (d' + 1) ≤ R.locals) (hrc : cells + mc' ≤ R.cells) (hrs : slots + ms' ≤ R.slots) (hrm : (rest.map fun v => v.category).sum ≤ 8) (hdg : decode cc pc = .ok (.invokevirtual idx, 3))
    (kk : ∀ (r : Option Value) (A' : pm_H) (H1 : Heap) (locs1 : List Loc), Q' r A' → pm_hold g A' H1 → (∀ q, A' q ≠ none → fr q) → va_S fr s.heap H1 locs1 → W p l e R s m args below meth c H1 locs1 (cells + mc') (slots + ms') Q (F0 m (pc + 3) ls (r.toList ++ rest))) : W p l e R s m args below meth c H locs cells slots Q (F0 m pc ls (as.reverse ++ .ref b :: rest)) := by
  obtain ⟨h1, h2⟩ := pm_ml_ok _ hm
  obtain ⟨-, -, -, k4, -⟩ := pm_mok h2
  obtain ⟨k5, k6⟩ := k4 hk0
  refine pm_w_after (va_runV (C := (pm_me n).1.cls) (b := b) (As := as) (rest := rest) ⟨hx, hb, hml, hown, hts⟩ (hM H.size) ⟨pm_cb hts hm hf hl, hts _ k5, hts _ k6⟩ ⟨pm_blind, ?_, fun U hU hW => ⟨rfl, by rw [hU], by rw [hU]; exact hH, hK.warm hW⟩⟩ rfl hna hls rfl (lv_room hrm) hdg ⟨hrc, hrs⟩) hd hS hA kk
  rw [← hcn, (pm_ci_ok ci hci).2]
  exact va_recv hK.1 (pm_P1 (hH b _ hb0)) (ci := ci) (q0 := 0) (pm_cl_at hci) rfl
theorem pm_w_callS (hx : p.tables.exec = Jvm.exec) (hb : c.code = cc) (hml : c.maxLocals = nL) (hown : s.vm.findClass (pm_nm own) = some m.cls) (hts : ∀ w ∈ pm_W, w.before args s = true) (hK : pm_K g s) (hA : ∀ q, s.heap.size ≤ q → fr q) (hH : pm_hold g A H) (hd : ∀ q, A q ≠ none → fr q) (hS : va_S fr s.heap H locs) (hls : ls.size = nL)
    {n idx d' mc' ms' : Nat} {as : List Value} {Q' : Option Value → pm_H → Prop} (hM : pm_Mt l g n d' mc' ms' as A Q') (hm : (own, idx, n) ∈ pm_ml) (hk0 : (pm_me n).2.2.2.2.2 = 1) (hna : as.length = (pm_me n).2.2.2.2.1) (hf : d' + 1 ≤ R.frames) (hl : 40 * (d' + 1) ≤ R.locals) (hrc : cells + mc' ≤ R.cells) (hrs : slots + ms' ≤ R.slots) (hrm : (rest.map fun v => v.category).sum ≤ 8) (hdg : decode cc pc = .ok (.invokestatic idx, 3))
    (kk : ∀ (r : Option Value) (A' : pm_H) (H1 : Heap) (locs1 : List Loc), Q' r A' → pm_hold g A' H1 → (∀ q, A' q ≠ none → fr q) → va_S fr s.heap H1 locs1 → W p l e R s m args below meth c H1 locs1 (cells + mc') (slots + ms') Q (F0 m (pc + 3) ls (r.toList ++ rest))) : W p l e R s m args below meth c H locs cells slots Q (F0 m pc ls (as.reverse ++ rest)) := by
  obtain ⟨h1, h2⟩ := pm_ml_ok _ hm
  obtain ⟨-, -, -, -, k4, -⟩ := pm_mok h2
  exact pm_w_after (va_runS (As := as) (rest := rest) ⟨hx, hb, hml, hown, hts⟩ (hM H.size) ⟨pm_cb hts hm hf hl, hts _ (k4 hk0)⟩ ⟨pm_blind, fun U hU hW => ⟨rfl, by rw [hU], by rw [hU]; exact hH, hK.warm hW⟩⟩ rfl hna hls rfl (lv_room hrm) hdg ⟨hrc, hrs⟩) hd hS hA kk
theorem pm_w_callI (hx : p.tables.exec = Jvm.exec) (hb : c.code = cc) (hml : c.maxLocals = nL) (hown : s.vm.findClass (pm_nm own) = some m.cls) (hts : ∀ w ∈ pm_W, w.before args s = true) (hK : pm_K g s) (hA : ∀ q, s.heap.size ≤ q → fr q) (hH : pm_hold g A H) (hd : ∀ q, A q ≠ none → fr q) (hS : va_S fr s.heap H locs) (hls : ls.size = nL)
    {n idx d' mc' ms' b : Nat} {Q' : Option Value → pm_H → Prop} (hM : pm_Mt l g n d' mc' ms' [.ref b] A Q') (hm : (own, idx, n) ∈ pm_ml) (hk0 : (pm_me n).2.2.2.2.2 = 2) (hna : 0 = (pm_me n).2.2.2.2.1) (hf : d' + 1 ≤ R.frames) (hl : 40 * (d' + 1) ≤ R.locals) (hrc : cells + mc' ≤ R.cells) (hrs : slots + ms' ≤ R.slots) (hrm : (rest.map fun v => v.category).sum ≤ 8) (hdg : decode cc pc = .ok (.invokespecial idx, 3))
    (kk : ∀ (r : Option Value) (A' : pm_H) (H1 : Heap) (locs1 : List Loc), Q' r A' → pm_hold g A' H1 → (∀ q, A' q ≠ none → fr q) → va_S fr s.heap H1 locs1 → W p l e R s m args below meth c H1 locs1 (cells + mc') (slots + ms') Q (F0 m (pc + 3) ls (r.toList ++ rest))) : W p l e R s m args below meth c H locs cells slots Q (F0 m pc ls (.ref b :: rest)) := by
  obtain ⟨h1, h2⟩ := pm_ml_ok _ hm
  obtain ⟨-, -, -, -, -, k4⟩ := pm_mok h2
  obtain ⟨k5, k6, k7⟩ := k4 hk0
  have cb := pm_cb (R := R) (mc' := mc') (ms' := ms') hts hm hf hl
  rw [k7] at cb
  exact pm_w_after (va_runI (As := []) (rest := rest) ⟨hx, hb, hml, hown, hts⟩ (hM H.size) ⟨cb, k6, hts _ k5⟩ ⟨pm_blind, fun U hU hW => ⟨rfl, by rw [hU], by rw [hU]; exact hH, hK.warm hW⟩⟩ rfl hna hls rfl (lv_room hrm) hdg ⟨hrc, hrs⟩) hd hS hA kk
end
