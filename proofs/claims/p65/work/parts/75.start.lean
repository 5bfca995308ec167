theorem lw_lit {w : Cond} {i : Nat} (h : lw_tbl[i]? = some w) : w ∈ lw_tbl := List.mem_of_getElem? h
set_option maxRecDepth 100000 in
theorem lw_ao7 : Cond.arrayOver (.object RX7) ∈ lw_tbl := lw_lit (i := 97) (by decide +kernel)
set_option maxRecDepth 100000 in
theorem lw_aoi : Cond.arrayOver (.array .int) ∈ lw_tbl := lw_lit (i := 332) (by decide +kernel)
theorem lw_K {s : State} {args : Array Value} (hts : ∀ w ∈ lw_tbl, w.before args s = true) : ∃ g : pm_G, pm_K g s := by
  have htsW : ∀ w ∈ pm_W, w.before args s = true := fun w hw => hts w (List.mem_filter.mp hw).1
  have known : ∀ ci, ci < 12 → ∃ (cC : ClassId) (iS : Nat → Nat), u_Kn s (pm_cT ci).1 (pm_cT ci).2.1 (pm_cT ci).2.2 cC iS := fun ci h => u_known (ws := pm_W) htsW (pm_u_ok ci h) (htsW _ (pm_ci_ok ci h).1)
  obtain ⟨dC, dI, hKc⟩ : ∃ (dC : Nat → ClassId) (dI : Nat → Nat → Nat), ∀ ci, ci < 12 → u_Kn s (pm_cT ci).1 (pm_cT ci).2.1 (pm_cT ci).2.2 (dC ci) (dI ci) :=
    ⟨fun ci => if h : ci < 12 then (known ci h).choose else (known 0 (by decide)).choose, fun ci => if h : ci < 12 then (known ci h).choose_spec.choose else fun _ => 0, fun ci h => by
      simp only [dif_pos h]
      exact (known ci h).choose_spec.choose_spec⟩
  obtain ⟨cA, kA, comp, f1, f2, f3⟩ := Cond.arrayClass_spec (htsW _ pm_arc)
  obtain ⟨compR, cR, kR, r1, _, r3, r4, r5⟩ := Cond.arrayOver_spec (hts _ lw_ao7)
  obtain ⟨compM, cM, kM, m1, m2, m3, m4⟩ := Cond.arrayOver_specA (hts _ lw_aoi)
  refine ⟨((dC, dI), (cA, cR, cM)), ⟨fun k q hq => ?_, fun k q hk => ?_⟩, va_AO.of (hts _ lw_ao7), hts _ lw_aoi, fun q hq => ?_⟩
  · have hk : k < 12 := by
      have := (List.getElem?_eq_some_iff.mp hq).1
      simpa using this
    have hq2 : q = pm_cT k := by
      unfold pm_cT
      rw [List.getD_eq_getElem?_getD, hq]
      rfl
    rw [hq2]
    exact hKc k hk
  · have hk3 : k < 3 := (List.getElem?_eq_some_iff.mp hk).1
    rcases (show k = 0 ∨ k = 1 ∨ k = 2 by omega) with rfl | rfl | rfl
    · cases hk
      exact ⟨fun N z => ⟨(fun k h => by cases h), kA, f2, comp, f3⟩, f1⟩
    · cases hk
      exact ⟨fun N z => ⟨(fun k h => by cases h), kR, r3, compR, r4⟩, kR, compR, r3, r4, r1, r5⟩
    · cases hk
      exact ⟨fun N z => ⟨(fun k h => by cases h), kM, m2, compM, m3⟩, m4⟩
  · exact va_Nw.of rfl (hts _ (pm_nl2_ok q hq).1)
set_option maxHeartbeats 4000000 in
set_option maxRecDepth 100000 in
theorem whole_start {p : Program} {e : Env} {s : State} {m : MethodId} {below : List Frame} {meth : Method} {c : Code} (l : Launch) (hflags : l.flags = flags0) {b L : Nat} {xs : Nat → Int32} (hL : L ≤ 3072) (C0 : lw_At p s m meth c b L xs) : W p l e room_1 s m #[Value.ref b] below meth c s.heap [] 0 0 (lw_Z below #[Value.ref b] s) (entryFrame m ([Value.ref b] : List Value).toArray 4) := by
  obtain ⟨hx, hb, hr, hml, hown, hts, hX, hbl, hlocks, hgv⟩ := C0
  obtain ⟨g, hK⟩ := lw_K hts
  have htsW : ∀ w ∈ pm_W, w.before #[Value.ref b] s = true := fun w hw => hts w (List.mem_filter.mp hw).1
  have C : pm_Cx p l e room_1 s m #[Value.ref b] below meth c (lw_Z below #[Value.ref b] s) g 12 4 false (some .boolean) cL_law (lw_ro b L xs) 7 600000 7302250 lw_Rt (fun q => s.heap.size ≤ q) := by
    refine ⟨hx, hb, hml, hown, htsW, hK, fun q h => h, ?_, (fun h => by cases h), ⟨by decide, by decide, Nat.le_refl _, Nat.le_refl _⟩, ?_⟩
    · intro b' n f h
      unfold lw_ro at h
      by_cases hb' : b' = b
      · rw [if_pos hb'] at h
        cases h
        subst hb'
        exact ⟨hbl, Nat.not_le.mpr hbl, hX⟩
      · rw [if_neg hb'] at h
        cases h
    · intro v A cells slots H locs ls pc ins hR hH hd hS hdg hk
      obtain ⟨h1, h2, rfl⟩ := hR
      rcases hk with ⟨rfl, x, hx1, _⟩ | ⟨_, hrt, _⟩ | ⟨_, ⟨nm, hrt⟩, _⟩ | ⟨_, hrt, _⟩
      · refine va_forget (fun q hq => hS.2.2 q hq) ?_
        refine W.widen h1 h2 ?_
        exact lw_ret hx hb hr hlocks hdg
      · cases hrt
      · cases hrt
      · cases hrt
  have K := lx_body (l := l) (g := g) (b := b) (L := L) (xs := xs) (J := pm_Sem p l e room_1 s m #[Value.ref b] below meth c (lw_Z below #[Value.ref b] s) g 4 (fun q => s.heap.size ≤ q)) ⟨fun k pc ops fin hk L' st A' c' s' h => pm_sound C fin ops pc L' st A' c' s' (by
      have hok := ok_L_law
      simp only [pm_oks, List.all_eq_true] at hok
      exact hok _ (List.mem_of_getElem? hk)) h, fun bs pc L' st A' c' s' h H locs ls a1 a2 a3 a4 => h H locs ls a1 a2 a3 (pm_lv_mask bs a4)⟩ hL
  have hl := lv_entry ([.ref b]) (n := 4) (Nat.le_of_ble_eq_true rfl)
  have hca : ∀ v ∈ ([Value.ref b] : List Value), v.category = 1 := fun v hv => by
    rw [List.mem_singleton.mp hv]; rfl
  have K2 := K s.heap [] _ (fun a e h => by cases h) (fun q h => absurd rfl h) va_S.rf (pm_lv_l0 hca hl)
  rw [← lg_entry_eq] at K2
  exact K2
