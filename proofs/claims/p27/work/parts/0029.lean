section
variable {p : Program} {l : Launch} {e : Env} {R : Room} {s : State} {m : MethodId} {args : Array Value} {below : List Frame} {meth : Method} {c : Code} {H : Heap} {locs : List Loc} {cells slots : Nat} {Q : State → Prop}
variable {cc : ByteArray} {pc : Nat} {ls : Array Slot} {rest : List Value} {a : Nat} {g : pm_G} {A : pm_H} {own nL : Nat} {fr : Nat → Prop}
theorem pm_w_callN (hx : p.tables.exec = Jvm.exec) (hb : c.code = cc) (hml : c.maxLocals = nL) (hown : s.vm.findClass (pm_nm own) = some m.cls) (hts : ∀ w ∈ pm_W, w.before args s = true) (hK : pm_K g s) (hA : ∀ q, s.heap.size ≤ q → fr q) (hH : pm_hold g A H) (hd : ∀ q, A q ≠ none → fr q) (hS : va_S fr s.heap H locs) (hls : ls.size = nL)
    {n idx d' mc' ms' b hs : Nat} {Q' : Option Value → pm_H → Prop} (hM : pm_Mt l g n d' mc' ms' [.ref b] A Q') (hm : (own, idx, n, hs) ∈ pm_nl2) (hk0 : (pm_me n).2.2.2.2.2 = 2) (hna : 0 = (pm_me n).2.2.2.2.1) (hf : d' + 1 ≤ R.frames) (hl : 40 * (d' + 1) ≤ R.locals) (hrc : cells + mc' ≤ R.cells) (hrs : slots + ms' ≤ R.slots) (hrm : (rest.map fun v => v.category).sum ≤ 8) (hdg : decode cc pc = .ok (.invokespecial idx, 3))
    (kk : ∀ (r : Option Value) (A' : pm_H) (H1 : Heap) (locs1 : List Loc), Q' r A' → pm_hold g A' H1 → (∀ q, A' q ≠ none → fr q) → va_S fr s.heap H1 locs1 → W p l e R s m args below meth c H1 locs1 (cells + mc') (slots + ms') Q (F0 m (pc + 3) ls (r.toList ++ rest))) : W p l e R s m args below meth c H locs cells slots Q (F0 m pc ls (.ref b :: rest)) := by
  obtain ⟨-, h2⟩ := pm_nl2_ok _ hm
  obtain ⟨k1, k2, k3, -, -, k4⟩ := pm_mok h2
  have k3 : (pm_me n).2.2.1 ≤ 21 := k3
  obtain ⟨k5, k6, k7⟩ := k4 hk0
  have hz := hK.2.2.2 _ hm
  simp only [pm_nlw] at hz
  have cb : va_CN R s args (pm_nm own) idx (pm_me n).1 (pm_nm hs) (pm_me n).2.1 (pm_me n).2.2.1 (pm_me n).2.2.2.1 (pm_ws n) ({ frames := d', cells := mc', slots := ms', locals := 40 * d' }) mc' ms' (pm_me n).2.2.2.2.1 := va_cnB _ hts (pm_good h2) rfl rfl rfl hz (hts _ k1) k2 ⟨hf, by show 8 + (_ + 11) + 40 * d' ≤ _; omega⟩
  rw [k7] at cb
  exact pm_w_after (va_runIN (As := []) (rest := rest) ⟨hx, hb, hml, hown, hts⟩ (hM H.size) ⟨cb, k6, hts _ k5⟩ ⟨pm_blind, fun U hU hW => ⟨rfl, by rw [hU], by rw [hU]; exact hH, hK.warm hW⟩⟩ rfl hna hls rfl (lv_room hrm) hdg ⟨hrc, hrs⟩) hd hS hA kk
end
