section
section
variable {l : Launch} {g : pm_G} {A0 : pm_H} {K nn dn : Nat} {q : Nat → Nat} {w : Nat → Int32} {e : Nat → Nat → Int32} {v : Nat → Int32} {f : Nat → Nat → Int32}
set_option maxRecDepth 100000 in
set_option maxHeartbeats 2000000 in
theorem Z_X10_cut (hI : cw_I K nn dn q w e) (hs : cw_S v f) (x1 : Int32) (x2 : Int32) (p0 : (w 0).toInt < 100000) : pm_Mt l g 29 4 4 485 [.ref (q 0), .int x1, .int x2] (cw A0 g K nn dn q w e v f) (cw_Qb A0 g K nn q (fun r K2 nn2 dn2 w2 e2 => e2 15 = e 15 ∧ (∃ x : Int32, r = some (.int x) ∧ (((w2 0).toInt ≤ (w 0).toInt + 1 ∧ (w 0).toInt ≤ (w2 0).toInt ∧ (w2 3).toInt = (w 3).toInt) ∧ ((∀ L, rp (w nn) (e (nn + 1)) (e (nn + 2)) L → (nn : Int) = 40 + 4 * ((w 0).toInt % 41) → rp (w2 nn2) (e2 (nn2 + 1)) (e2 (nn2 + 2)) ((ed_cut L x1 x2).getD L) ∧ (w2 0).toInt = (w 0).toInt + edn (ed_cut L x1 x2) ∧ (w2 1).toInt = (w 1).toInt + edn (ed_cut L x1 x2) * (0) ∧ (nn2 : Int) = 40 + 4 * ((w2 0).toInt % 41) ∧ (bd (w nn) (e (nn + 1)) (e (nn + 3)) → bd (w2 nn2) (e2 (nn2 + 1)) (e2 (nn2 + 3)))) ∧ HCe K nn w e w2 e2 nn2 x))))) := by
  refine mt_X10_cut rfl (fun J hC => ?_)
  have ro_nn : cw_ro K nn := hI.2.1.2.1
  have ro_dn : cw_ro K dn := hI.2.1.2.2.1
  have hu1 := hI.2.1
  unfold cw_W at hu1
  have zs2 := cw_sz hI ro_nn
  have zs3 := cw_sz hI ro_dn
  have rg_x1 := pm_rng x1
  have rg_x2 := pm_rng x2
  refine hC.1 0 0 _ _ rfl _ _ _ _ _ ?_
  refine Exists.intro _ (And.intro (cw_o0 hI.1) ?_)
  refine Exists.intro _ (And.intro (cw_o1 hI.1) ?_)
  refine And.intro (Exists.intro _ (cw_ro_o hI.1 ro_nn)) (Exists.intro _ (Exists.intro _ (Exists.intro _ (Exists.intro _ (And.intro (c_X7_isSpan hI hs ro_nn x1 x2 ) (And.intro rfl (fun r9 A9 h9 => ?_)))))))
  rcases h9 with ⟨y4, rfl, rfl, ⟨rfl, by4⟩ | ⟨rfl, by4⟩⟩
  · skip
    have k1 : (1 : Int32).toInt = 1 := rfl
    refine And.intro (fun _ => ?_) (fun c9 => absurd c9 (by decide))
    refine hC.1 1 19 _ _ rfl _ _ _ _ _ ?_
    refine Exists.intro _ (And.intro (cw_o0 hI.1) ?_)
    refine And.intro (Exists.intro _ (cw_o1 hI.1)) (Exists.intro _ (Exists.intro _ (Exists.intro _ (Exists.intro _ (And.intro (F_X9_begin hI hs  (by omega)) (And.intro rfl (fun r9 A9 h9 => ?_)))))))
    obtain ⟨K7, dn7, q7, w7, e7, rfl, rfl, hI7, hX7, hk7, hw7, hy7, hdn7, hfm7, hz7⟩ := h9
    have hq7_0 : q 0 = q7 0 := (hX7.2.1 0 (by omega)).symm
    have hq7_nn : q nn = q7 nn := (hX7.2.1 nn (by omega)).symm
    rw [hq7_0, hq7_nn]
    have hw7_0 := congrArg Int32.toInt hw7.1
    have hw7_1 := congrArg Int32.toInt hw7.2.1
    have hw7_3 := congrArg Int32.toInt hw7.2.2.2
    have ro7 : cw_ro K7 dn7 := hI7.2.1.2.2.1
    have rn7 : cw_ro K7 nn := hI7.2.1.2.1
    have hx7 : e7 15 = e 15 := hy7.trans rfl
    have hu8 := hI7.2.1
    unfold cw_W at hu8
    have zs9 := cw_sz hI7 rn7
    have zs10 := cw_sz hI7 ro7
    have hz9 := hz7
    have hL7 : ∀ L, rp (w nn) (e (nn + 1)) (e (nn + 2)) L → (nn : Int) = 40 + 4 * ((w 0).toInt % 41) → nn ≠ dn7 ∧ rp (w7 nn) (e7 (nn + 1)) (e7 (nn + 2)) L := hL_b ro_nn ro7 hdn7 hfm7
    have hF7 : FRO K w e w7 e7 dn7 := hfm7
    refine Exists.intro _ (And.intro (cw_o0 hI7.1) ?_)
    have k0 : (0 : Int32).toInt = 0 := rfl
    intro m11 em_33
    try have e11 : m11.toInt = (x1).toInt - (1) := by rw [em_33]; exact pm_subc _ _ (1) rfl (by omega) (by omega)
    have hp_34 := hL7
    refine And.intro (Exists.intro _ (cw_o1 hI7.1)) (Exists.intro _ (Exists.intro _ (Exists.intro _ (Exists.intro _ (And.intro (F_X9_keep hI7 hs (0 : Int32) m11 ) (And.intro rfl (fun r9 A9 h9 => ?_)))))))
    rcases h9 with ⟨w13, e13, v13, f13, rfl, hI13, hs13, hy13, rfl, by12⟩
    have hx13 : e13 15 = e 15 := hy13.trans hx7
    have hu14 := hI13.2.1
    unfold cw_W at hu14
    have zs15 := cw_sz hI13 rn7
    have zs16 := cw_sz hI13 ro7
    clear hu8 zs9 zs10
    have hb_34 := by12.2
    have hF13 : FRO K w e w13 e13 dn7 := FRO_s hF7 hb_34.1
    have hL13 : ∀ L, rp (w nn) (e (nn + 1)) (e (nn + 2)) L → (nn : Int) = 40 + 4 * ((w 0).toInt % 41) → nn ≠ dn7 ∧ rp (w13 nn) (e13 (nn + 1)) (e13 (nn + 2)) L := hL_k hL7 rn7 ro7 hb_34.1
    refine Exists.intro _ (And.intro (cw_o0 hI13.1) ?_)
    intro m17 em_43
    try have e17 : m17.toInt = (x2).toInt + (1) := by rw [em_43]; exact pm_addc _ _ (1) rfl (by omega) (by omega)
    refine Exists.intro _ (And.intro (cw_ro_o hI13.1 rn7) ?_)
    have z18 := cw_sz hI13 rn7
    intro m19 em_49
    try have e19 : m19.toInt = ((w13 nn)).toInt - (1) := by rw [em_49]; exact pm_subc _ _ (1) rfl (by omega) (by omega)
    have hp_50 := hL13
    refine And.intro (Exists.intro _ (cw_o1 hI13.1)) (Exists.intro _ (Exists.intro _ (Exists.intro _ (Exists.intro _ (And.intro (F_X9_keep hI13 hs13 m17 m19 ) (And.intro rfl (fun r9 A9 h9 => ?_)))))))
    rcases h9 with ⟨w21, e21, v21, f21, rfl, hI21, hs21, hy21, rfl, by20⟩
    have hx21 : e21 15 = e 15 := hy21.trans hx13
    have hu22 := hI21.2.1
    unfold cw_W at hu22
    have zs23 := cw_sz hI21 rn7
    have zs24 := cw_sz hI21 ro7
    clear hu14 zs15 zs16
    have hb_50 := by20.2
    have hF21 : FRO K w e w21 e21 dn7 := FRO_s hF13 hb_50.1
    have hL21 : ∀ L, rp (w nn) (e (nn + 1)) (e (nn + 2)) L → (nn : Int) = 40 + 4 * ((w 0).toInt % 41) → nn ≠ dn7 ∧ rp (w21 nn) (e21 (nn + 1)) (e21 (nn + 2)) L := hL_k hL13 rn7 ro7 hb_50.1
    refine Exists.intro _ (And.intro (cw_o0 hI21.1) ?_)
    have hp_57 := hL21
    refine And.intro (Exists.intro _ (cw_o1 hI21.1)) (Exists.intro _ (Exists.intro _ (Exists.intro _ (Exists.intro _ (And.intro (Z_X9_finish hI21 hs21  (by omega) (by omega)) (And.intro rfl (fun r9 A9 h9 => ?_)))))))
    rcases h9 with ⟨w26, e26, v26, f26, rfl, hI26, hs26, hy26, y25, rfl, by25⟩
    have hx26 : e26 15 = e 15 := hy26.trans hx21
    have hu27 := hI26.2.1
    unfold cw_W at hu27
    have zs28 := cw_sz hI26 ro7
    have zs29 := cw_sz hI26 ro7
    clear hu22 zs23 zs24
    have hb_57 := by25.2.1
    have ht_57 := by25.2.2
    have hF26 : FRO K w e w26 e26 dn7 := FRO_s hF21 hb_57.1
    have hc_9 : HCn K w e w26 e26 dn7 y25 := ⟨by omega, hF26, ht_57⟩
    exact ⟨rfl, fun e9 => absurd e9 (by decide), rfl, K7, dn7, dn7, q7, w26, e26, v26, f26, rfl, hI26, hs26, hX7, hx26, y25, rfl, by first | omega | (dsimp only; omega) | trivial, by refine ⟨?_, ?_⟩; (intro L hL hN; have hl := hL.1; rw [ed_cut, if_pos (by omega)]; have q1 := hp_34 L hL hN; have z1 := q1.2.1; have t1 := hb_34.2 L ([]) (0) (x1.toInt) q1.2 q1.1 (by omega) (by omega) (by omega) (by omega) (by omega) (by first | omega | (simp only [List.length_append, List.length_nil, List.length_cons, List.length_map, List.length_reverse, nw_len, dr_len]; omega)) (rp_0 hz9); have k1 := si_len (L := L) (a := 0) (b := x1.toInt) (by omega) (by omega) (by omega); rw [List.nil_append] at t1; have q2 := hp_50 L hL hN; have z2 := q2.2.1; have t2 := hb_50.2 L (_) (x2.toInt + 1) (L.length) q2.2 q2.1 (by omega) (by omega) (by omega) (by omega) (by omega) (by first | omega | (simp only [List.length_append, List.length_nil, List.length_cons, List.length_map, List.length_reverse, nw_len, dr_len]; omega)) t1; have k2 := si_len (L := L) (a := x2.toInt + 1) (b := L.length) (by omega) (by omega) (by omega); exact ⟨hb_57.2.1 _ t2, by show _ = _ + (1 : Int); omega, by show _ = _ + (1 : Int) * _; omega, by omega, fun _ => hb_57.2.2⟩); (first | (exact Or.inr hc_9) | (exact hc_9) | (exact Or.inl ⟨rfl, rfl, fun _ _ => ⟨rfl, rfl⟩⟩))⟩
  · skip
    have k0 : (0 : Int32).toInt = 0 := rfl
    refine And.intro (fun c9 => absurd c9 (by decide)) (fun _ => ?_)
    have km1 : (-1 : Int32).toInt = -1 := rfl
    exact ⟨rfl, fun e9 => absurd e9 (by decide), rfl, K, nn, dn, q, w, e, v, f, rfl, hI, hs, cw_X_r, rfl, (-1 : Int32), rfl, by first | omega | (dsimp only; omega) | trivial, by refine ⟨?_, ?_⟩; (intro L hL hN; have hl := hL.1; rw [ed_cut, if_neg (by omega)]; exact ⟨hL, by show _ = _ + (0 : Int); omega, by show _ = _ + (0 : Int) * _; omega, hN, fun h8 => h8⟩); (first | (exact Or.inr hc_9) | (exact hc_9) | (exact Or.inl ⟨rfl, rfl, fun _ _ => ⟨rfl, rfl⟩⟩))⟩

set_option maxRecDepth 100000 in
set_option maxHeartbeats 2000000 in
theorem Z_X10_insert (hI : cw_I K nn dn q w e) (hs : cw_S v f) (x1 : Int32) (x2 : Int32) (p0 : (w 0).toInt < 100000) : pm_Mt l g 25 4 4 485 [.ref (q 0), .int x1, .int x2] (cw A0 g K nn dn q w e v f) (cw_Qb A0 g K nn q (fun r K2 nn2 dn2 w2 e2 => e2 15 = e 15 ∧ (∃ x : Int32, r = some (.int x) ∧ (((w2 0).toInt ≤ (w 0).toInt + 1 ∧ (w 0).toInt ≤ (w2 0).toInt ∧ (w2 3).toInt = (w 3).toInt) ∧ ((∀ L, rp (w nn) (e (nn + 1)) (e (nn + 2)) L → (nn : Int) = 40 + 4 * ((w 0).toInt % 41) → rp (w2 nn2) (e2 (nn2 + 1)) (e2 (nn2 + 2)) ((ed_insert L (w 1) x1 x2).getD L) ∧ (w2 0).toInt = (w 0).toInt + edn (ed_insert L (w 1) x1 x2) ∧ (w2 1).toInt = (w 1).toInt + edn (ed_insert L (w 1) x1 x2) * (1) ∧ (nn2 : Int) = 40 + 4 * ((w2 0).toInt % 41) ∧ (bd (w nn) (e (nn + 1)) (e (nn + 3)) → bd (w2 nn2) (e2 (nn2 + 1)) (e2 (nn2 + 3)))) ∧ HCe K nn w e w2 e2 nn2 x))))) := by
  refine mt_X10_insert rfl (fun J hC => ?_)
  have ro_nn : cw_ro K nn := hI.2.1.2.1
  have ro_dn : cw_ro K dn := hI.2.1.2.2.1
  have hu1 := hI.2.1
  unfold cw_W at hu1
  have zs2 := cw_sz hI ro_nn
  have zs3 := cw_sz hI ro_dn
  have rg_x1 := pm_rng x1
  have rg_x2 := pm_rng x2
  refine hC.1 0 0 _ _ rfl _ _ _ _ _ ?_
  refine Exists.intro _ (And.intro (cw_o0 hI.1) ?_)
  refine Exists.intro _ (And.intro (cw_o1 hI.1) ?_)
  refine And.intro (Exists.intro _ (cw_ro_o hI.1 ro_nn)) (Exists.intro _ (Exists.intro _ (Exists.intro _ (Exists.intro _ (And.intro (c_X7_isGap hI hs ro_nn x1 ) (And.intro rfl (fun r9 A9 h9 => ?_)))))))
  rcases h9 with ⟨y4, rfl, rfl, ⟨rfl, by4⟩ | ⟨rfl, by4⟩⟩
  · skip
    have k1 : (1 : Int32).toInt = 1 := rfl
    refine And.intro (fun c9 => absurd c9 (by decide)) (fun _ => ?_)
    refine Exists.intro _ (Exists.intro _ (Exists.intro _ (Exists.intro _ (And.intro (c_X10_isColour (cw A0 g K nn dn q w e v f) x2 ) (And.intro rfl (fun r9 A9 h9 => ?_))))))
    rcases h9 with ⟨y6, rfl, rfl, ⟨rfl, by6⟩ | ⟨rfl, by6⟩⟩
    · skip
      refine And.intro (fun c9 => absurd c9 (by decide)) (fun _ => ?_)
      refine Exists.intro _ (And.intro (cw_o0 hI.1) ?_)
      refine And.intro (Exists.intro _ (cw_o1 hI.1)) (Exists.intro _ (Exists.intro _ (Exists.intro _ (Exists.intro _ (And.intro (c_X9_hasRoomFor hI hs (1 : Int32) (by omega)) (And.intro rfl (fun r9 A9 h9 => ?_)))))))
      rcases h9 with ⟨y8, rfl, rfl, ⟨rfl, by8⟩ | ⟨rfl, by8⟩⟩
      · skip
        refine And.intro (fun _ => ?_) (fun c9 => absurd c9 (by decide))
        refine hC.1 2 36 _ _ rfl _ _ _ _ _ ?_
        refine Exists.intro _ (And.intro (cw_o0 hI.1) ?_)
        refine And.intro (Exists.intro _ (cw_o1 hI.1)) (Exists.intro _ (Exists.intro _ (Exists.intro _ (Exists.intro _ (And.intro (F_X9_begin hI hs  (by omega)) (And.intro rfl (fun r9 A9 h9 => ?_)))))))
        obtain ⟨K11, dn11, q11, w11, e11, rfl, rfl, hI11, hX11, hk11, hw11, hy11, hdn11, hfm11, hz11⟩ := h9
        have hq11_0 : q 0 = q11 0 := (hX11.2.1 0 (by omega)).symm
        have hq11_nn : q nn = q11 nn := (hX11.2.1 nn (by omega)).symm
        rw [hq11_0, hq11_nn]
        have hw11_0 := congrArg Int32.toInt hw11.1
        have hw11_1 := congrArg Int32.toInt hw11.2.1
        have hw11_3 := congrArg Int32.toInt hw11.2.2.2
        have ro11 : cw_ro K11 dn11 := hI11.2.1.2.2.1
        have rn11 : cw_ro K11 nn := hI11.2.1.2.1
        have hx11 : e11 15 = e 15 := hy11.trans rfl
        have hu12 := hI11.2.1
        unfold cw_W at hu12
        have zs13 := cw_sz hI11 rn11
        have zs14 := cw_sz hI11 ro11
        have hz9 := hz11
        have hL11 : ∀ L, rp (w nn) (e (nn + 1)) (e (nn + 2)) L → (nn : Int) = 40 + 4 * ((w 0).toInt % 41) → nn ≠ dn11 ∧ rp (w11 nn) (e11 (nn + 1)) (e11 (nn + 2)) L := hL_b ro_nn ro11 hdn11 hfm11
        have hF11 : FRO K w e w11 e11 dn11 := hfm11
        refine Exists.intro _ (And.intro (cw_o0 hI11.1) ?_)
        have k0 : (0 : Int32).toInt = 0 := rfl
        intro m15 em_50
        try have e15 : m15.toInt = (x1).toInt - (1) := by rw [em_50]; exact pm_subc _ _ (1) rfl (by omega) (by omega)
        have hp_51 := hL11
        refine And.intro (Exists.intro _ (cw_o1 hI11.1)) (Exists.intro _ (Exists.intro _ (Exists.intro _ (Exists.intro _ (And.intro (F_X9_keep hI11 hs (0 : Int32) m15 ) (And.intro rfl (fun r9 A9 h9 => ?_)))))))
        rcases h9 with ⟨w17, e17, v17, f17, rfl, hI17, hs17, hy17, rfl, by16⟩
        have hx17 : e17 15 = e 15 := hy17.trans hx11
        have hu18 := hI17.2.1
        unfold cw_W at hu18
        have zs19 := cw_sz hI17 rn11
        have zs20 := cw_sz hI17 ro11
        clear hu12 zs13 zs14
        have hb_51 := by16.2
        have hF17 : FRO K w e w17 e17 dn11 := FRO_s hF11 hb_51.1
        have hL17 : ∀ L, rp (w nn) (e (nn + 1)) (e (nn + 2)) L → (nn : Int) = 40 + 4 * ((w 0).toInt % 41) → nn ≠ dn11 ∧ rp (w17 nn) (e17 (nn + 1)) (e17 (nn + 2)) L := hL_k hL11 rn11 ro11 hb_51.1
        refine Exists.intro _ (And.intro (cw_o0 hI17.1) ?_)
        have wn9 : w17 1 = w 1 := pm_eqI (by omega)
        have hp_59 := hL17
        refine And.intro (Exists.intro _ (cw_o1 hI17.1)) (Exists.intro _ (Exists.intro _ (Exists.intro _ (Exists.intro _ (And.intro (F_X9_add hI17 hs17 x2 (by omega) (by omega)) (And.intro rfl (fun r9 A9 h9 => ?_)))))))
        rcases h9 with ⟨w22, e22, v22, f22, rfl, hI22, hs22, hy22, rfl, by21⟩
        have hx22 : e22 15 = e 15 := hy22.trans hx17
        have hu23 := hI22.2.1
        unfold cw_W at hu23
        have zs24 := cw_sz hI22 rn11
        have zs25 := cw_sz hI22 ro11
        clear hu18 zs19 zs20
        have hb_59 := by21.2
        have hF22 : FRO K w e w22 e22 dn11 := FRO_s hF17 hb_59.1
        have hL22 : ∀ L, rp (w nn) (e (nn + 1)) (e (nn + 2)) L → (nn : Int) = 40 + 4 * ((w 0).toInt % 41) → nn ≠ dn11 ∧ rp (w22 nn) (e22 (nn + 1)) (e22 (nn + 2)) L := hL_k hL17 rn11 ro11 hb_59.1
        refine Exists.intro _ (And.intro (cw_o0 hI22.1) ?_)
        refine Exists.intro _ (And.intro (cw_ro_o hI22.1 rn11) ?_)
        have z26 := cw_sz hI22 rn11
        intro m27 em_72
        try have e27 : m27.toInt = ((w22 nn)).toInt - (1) := by rw [em_72]; exact pm_subc _ _ (1) rfl (by omega) (by omega)
        have hp_73 := hL22
        refine And.intro (Exists.intro _ (cw_o1 hI22.1)) (Exists.intro _ (Exists.intro _ (Exists.intro _ (Exists.intro _ (And.intro (F_X9_keep hI22 hs22 x1 m27 ) (And.intro rfl (fun r9 A9 h9 => ?_)))))))
        rcases h9 with ⟨w29, e29, v29, f29, rfl, hI29, hs29, hy29, rfl, by28⟩
        have hx29 : e29 15 = e 15 := hy29.trans hx22
        have hu30 := hI29.2.1
        unfold cw_W at hu30
        have zs31 := cw_sz hI29 rn11
        have zs32 := cw_sz hI29 ro11
        clear hu23 zs24 zs25
        have hb_73 := by28.2
        have hF29 : FRO K w e w29 e29 dn11 := FRO_s hF22 hb_73.1
        have hL29 : ∀ L, rp (w nn) (e (nn + 1)) (e (nn + 2)) L → (nn : Int) = 40 + 4 * ((w 0).toInt % 41) → nn ≠ dn11 ∧ rp (w29 nn) (e29 (nn + 1)) (e29 (nn + 2)) L := hL_k hL22 rn11 ro11 hb_73.1
        refine Exists.intro _ (And.intro (cw_o0 hI29.1) ?_)
        have hp_80 := hL29
        refine And.intro (Exists.intro _ (cw_o1 hI29.1)) (Exists.intro _ (Exists.intro _ (Exists.intro _ (Exists.intro _ (And.intro (Z_X9_finish hI29 hs29  (by omega) (by omega)) (And.intro rfl (fun r9 A9 h9 => ?_)))))))
        rcases h9 with ⟨w34, e34, v34, f34, rfl, hI34, hs34, hy34, y33, rfl, by33⟩
        have hx34 : e34 15 = e 15 := hy34.trans hx29
        have hu35 := hI34.2.1
        unfold cw_W at hu35
        have zs36 := cw_sz hI34 ro11
        have zs37 := cw_sz hI34 ro11
        clear hu30 zs31 zs32
        have hb_80 := by33.2.1
        have ht_80 := by33.2.2
        have hF34 : FRO K w e w34 e34 dn11 := FRO_s hF29 hb_80.1
        have hc_9 : HCn K w e w34 e34 dn11 y33 := ⟨by omega, hF34, ht_80⟩
        exact ⟨rfl, fun e9 => absurd e9 (by decide), rfl, K11, dn11, dn11, q11, w34, e34, v34, f34, rfl, hI34, hs34, hX11, hx34, y33, rfl, by first | omega | (dsimp only; omega) | trivial, by refine ⟨?_, ?_⟩; (intro L hL hN; have hl := hL.1; rw [ed_insert, if_pos (by omega)]; have q1 := hp_51 L hL hN; have z1 := q1.2.1; have t1 := hb_51.2 L ([]) (0) (x1.toInt) q1.2 q1.1 (by omega) (by omega) (by omega) (by omega) (by omega) (by first | omega | (simp only [List.length_append, List.length_nil, List.length_cons, List.length_map, List.length_reverse, nw_len, dr_len]; omega)) (rp_0 hz9); have k1 := si_len (L := L) (a := 0) (b := x1.toInt) (by omega) (by omega) (by omega); rw [List.nil_append] at t1; have t2 := hb_59.2 _ t1 (by first | omega | (simp only [List.length_append, List.length_nil, List.length_cons, List.length_map, List.length_reverse, nw_len, dr_len]; omega)); rw [wn9] at t2; have q3 := hp_73 L hL hN; have z3 := q3.2.1; have t3 := hb_73.2 L (_) (x1.toInt) (L.length) q3.2 q3.1 (by omega) (by omega) (by omega) (by omega) (by omega) (by first | omega | (simp only [List.length_append, List.length_nil, List.length_cons, List.length_map, List.length_reverse, nw_len, dr_len]; omega)) t2; have k3 := si_len (L := L) (a := x1.toInt) (b := L.length) (by omega) (by omega) (by omega); exact ⟨hb_80.2.1 _ t3, by show _ = _ + (1 : Int); omega, by show _ = _ + (1 : Int) * _; omega, by omega, fun _ => hb_80.2.2⟩); (first | (exact Or.inr hc_9) | (exact hc_9) | (exact Or.inl ⟨rfl, rfl, fun _ _ => ⟨rfl, rfl⟩⟩))⟩
      · skip
        have k0 : (0 : Int32).toInt = 0 := rfl
        refine And.intro (fun c9 => absurd c9 (by decide)) (fun _ => ?_)
        refine hC.1 1 34 _ _ rfl _ _ _ _ _ ?_
        have km1 : (-1 : Int32).toInt = -1 := rfl
        exact ⟨rfl, fun e9 => absurd e9 (by decide), rfl, K, nn, dn, q, w, e, v, f, rfl, hI, hs, cw_X_r, rfl, (-1 : Int32), rfl, by first | omega | (dsimp only; omega) | trivial, by refine ⟨?_, ?_⟩; (intro L hL hN; have hl := hL.1; rw [ed_insert, if_neg (by omega)]; exact ⟨hL, by show _ = _ + (0 : Int); omega, by show _ = _ + (0 : Int) * _; omega, hN, fun h8 => h8⟩); (first | (exact Or.inr hc_9) | (exact hc_9) | (exact Or.inl ⟨rfl, rfl, fun _ _ => ⟨rfl, rfl⟩⟩))⟩
    · skip
      have k0 : (0 : Int32).toInt = 0 := rfl
      refine And.intro (fun _ => ?_) (fun c9 => absurd c9 (by decide))
      refine hC.1 1 34 _ _ rfl _ _ _ _ _ ?_
      have km1 : (-1 : Int32).toInt = -1 := rfl
      exact ⟨rfl, fun e9 => absurd e9 (by decide), rfl, K, nn, dn, q, w, e, v, f, rfl, hI, hs, cw_X_r, rfl, (-1 : Int32), rfl, by first | omega | (dsimp only; omega) | trivial, by refine ⟨?_, ?_⟩; (intro L hL hN; have hl := hL.1; rw [ed_insert, if_neg (by omega)]; exact ⟨hL, by show _ = _ + (0 : Int); omega, by show _ = _ + (0 : Int) * _; omega, hN, fun h8 => h8⟩); (first | (exact Or.inr hc_9) | (exact hc_9) | (exact Or.inl ⟨rfl, rfl, fun _ _ => ⟨rfl, rfl⟩⟩))⟩
  · skip
    have k0 : (0 : Int32).toInt = 0 := rfl
    refine And.intro (fun _ => ?_) (fun c9 => absurd c9 (by decide))
    refine hC.1 1 34 _ _ rfl _ _ _ _ _ ?_
    have km1 : (-1 : Int32).toInt = -1 := rfl
    exact ⟨rfl, fun e9 => absurd e9 (by decide), rfl, K, nn, dn, q, w, e, v, f, rfl, hI, hs, cw_X_r, rfl, (-1 : Int32), rfl, by first | omega | (dsimp only; omega) | trivial, by refine ⟨?_, ?_⟩; (intro L hL hN; have hl := hL.1; rw [ed_insert, if_neg (by omega)]; exact ⟨hL, by show _ = _ + (0 : Int); omega, by show _ = _ + (0 : Int) * _; omega, hN, fun h8 => h8⟩); (first | (exact Or.inr hc_9) | (exact hc_9) | (exact Or.inl ⟨rfl, rfl, fun _ _ => ⟨rfl, rfl⟩⟩))⟩

set_option maxRecDepth 100000 in
set_option maxHeartbeats 2000000 in
theorem Z_X10_shift (hI : cw_I K nn dn q w e) (hs : cw_S v f) (x1 : Int32) (x2 : Int32) (x3 : Int32) (p0 : (w 0).toInt < 100000) : pm_Mt l g 31 4 4 485 [.ref (q 0), .int x1, .int x2, .int x3] (cw A0 g K nn dn q w e v f) (cw_Qb A0 g K nn q (fun r K2 nn2 dn2 w2 e2 => e2 15 = e 15 ∧ (∃ x : Int32, r = some (.int x) ∧ (((w2 0).toInt ≤ (w 0).toInt + 1 ∧ (w 0).toInt ≤ (w2 0).toInt ∧ (w2 3).toInt = (w 3).toInt) ∧ ((∀ L, rp (w nn) (e (nn + 1)) (e (nn + 2)) L → (nn : Int) = 40 + 4 * ((w 0).toInt % 41) → rp (w2 nn2) (e2 (nn2 + 1)) (e2 (nn2 + 2)) ((ed_shift L x1 x2 x3).getD L) ∧ (w2 0).toInt = (w 0).toInt + edn (ed_shift L x1 x2 x3) ∧ (w2 1).toInt = (w 1).toInt + edn (ed_shift L x1 x2 x3) * (0) ∧ (nn2 : Int) = 40 + 4 * ((w2 0).toInt % 41) ∧ (bd (w nn) (e (nn + 1)) (e (nn + 3)) → bd (w2 nn2) (e2 (nn2 + 1)) (e2 (nn2 + 3)))) ∧ HCe K nn w e w2 e2 nn2 x))))) := by
  refine mt_X10_shift rfl (fun J hC => ?_)
  have ro_nn : cw_ro K nn := hI.2.1.2.1
  have ro_dn : cw_ro K dn := hI.2.1.2.2.1
  have hu1 := hI.2.1
  unfold cw_W at hu1
  have zs2 := cw_sz hI ro_nn
  have zs3 := cw_sz hI ro_dn
  have rg_x1 := pm_rng x1
  have rg_x2 := pm_rng x2
  have rg_x3 := pm_rng x3
  refine hC.1 0 0 _ _ rfl _ _ _ _ _ ?_
  refine Exists.intro _ (And.intro (cw_o0 hI.1) ?_)
  refine Exists.intro _ (And.intro (cw_o1 hI.1) ?_)
  refine And.intro (Exists.intro _ (cw_ro_o hI.1 ro_nn)) (Exists.intro _ (Exists.intro _ (Exists.intro _ (Exists.intro _ (And.intro (c_X7_isSpan hI hs ro_nn x1 x2 ) (And.intro rfl (fun r9 A9 h9 => ?_)))))))
  rcases h9 with ⟨y4, rfl, rfl, ⟨rfl, by4⟩ | ⟨rfl, by4⟩⟩
  · skip
    have k1 : (1 : Int32).toInt = 1 := rfl
    refine And.intro (fun c9 => absurd c9 (by decide)) (fun _ => ?_)
    refine And.intro (fun c6 => ?_) (fun c6 => ?_)
    · skip
      refine hC.1 1 32 _ _ rfl _ _ _ _ _ ?_
      have km1 : (-1 : Int32).toInt = -1 := rfl
      exact ⟨rfl, fun e9 => absurd e9 (by decide), rfl, K, nn, dn, q, w, e, v, f, rfl, hI, hs, cw_X_r, rfl, (-1 : Int32), rfl, by first | omega | (dsimp only; omega) | trivial, by refine ⟨?_, ?_⟩; (intro L hL hN; have hl := hL.1; rw [ed_shift, if_neg (by omega)]; exact ⟨hL, by show _ = _ + (0 : Int); omega, by show _ = _ + (0 : Int) * _; omega, hN, fun h8 => h8⟩); (first | (exact Or.inr hc_9) | (exact hc_9) | (exact Or.inl ⟨rfl, rfl, fun _ _ => ⟨rfl, rfl⟩⟩))⟩
    · skip
      intro m7 em_26
      try have e7 : m7.toInt = (x2).toInt - (x1).toInt := by rw [em_26]; exact pm_sub _ _ (by omega) (by omega)
      intro m8 em_28
      try have e8 : m8.toInt = (m7).toInt + (1) := by rw [em_28]; exact pm_addc _ _ (1) rfl (by omega) (by omega)
      refine And.intro (fun c9 => ?_) (fun c9 => ?_)
      · skip
        refine hC.1 2 34 _ _ rfl _ _ _ _ _ ?_
        refine Exists.intro _ (And.intro (cw_o0 hI.1) ?_)
        refine And.intro (Exists.intro _ (cw_o1 hI.1)) (Exists.intro _ (Exists.intro _ (Exists.intro _ (Exists.intro _ (And.intro (F_X9_begin hI hs  (by omega)) (And.intro rfl (fun r9 A9 h9 => ?_)))))))
        obtain ⟨K11, dn11, q11, w11, e11, rfl, rfl, hI11, hX11, hk11, hw11, hy11, hdn11, hfm11, hz11⟩ := h9
        have hq11_0 : q 0 = q11 0 := (hX11.2.1 0 (by omega)).symm
        have hq11_nn : q nn = q11 nn := (hX11.2.1 nn (by omega)).symm
        rw [hq11_0, hq11_nn]
        have hw11_0 := congrArg Int32.toInt hw11.1
        have hw11_1 := congrArg Int32.toInt hw11.2.1
        have hw11_3 := congrArg Int32.toInt hw11.2.2.2
        have ro11 : cw_ro K11 dn11 := hI11.2.1.2.2.1
        have rn11 : cw_ro K11 nn := hI11.2.1.2.1
        have hx11 : e11 15 = e 15 := hy11.trans rfl
        have hu12 := hI11.2.1
        unfold cw_W at hu12
        have zs13 := cw_sz hI11 rn11
        have zs14 := cw_sz hI11 ro11
        have hz9 := hz11
        have hL11 : ∀ L, rp (w nn) (e (nn + 1)) (e (nn + 2)) L → (nn : Int) = 40 + 4 * ((w 0).toInt % 41) → nn ≠ dn11 ∧ rp (w11 nn) (e11 (nn + 1)) (e11 (nn + 2)) L := hL_b ro_nn ro11 hdn11 hfm11
        have hF11 : FRO K w e w11 e11 dn11 := hfm11
        refine Exists.intro _ (And.intro (cw_o0 hI11.1) ?_)
        have k0 : (0 : Int32).toInt = 0 := rfl
        intro m15 em_48
        try have e15 : m15.toInt = (x1).toInt - (1) := by rw [em_48]; exact pm_subc _ _ (1) rfl (by omega) (by omega)
        have hp_49 := hL11
        refine And.intro (Exists.intro _ (cw_o1 hI11.1)) (Exists.intro _ (Exists.intro _ (Exists.intro _ (Exists.intro _ (And.intro (F_X9_keep hI11 hs (0 : Int32) m15 ) (And.intro rfl (fun r9 A9 h9 => ?_)))))))
        rcases h9 with ⟨w17, e17, v17, f17, rfl, hI17, hs17, hy17, rfl, by16⟩
        have hx17 : e17 15 = e 15 := hy17.trans hx11
        have hu18 := hI17.2.1
        unfold cw_W at hu18
        have zs19 := cw_sz hI17 rn11
        have zs20 := cw_sz hI17 ro11
        clear hu12 zs13 zs14
        have hb_49 := by16.2
        have hF17 : FRO K w e w17 e17 dn11 := FRO_s hF11 hb_49.1
        have hL17 : ∀ L, rp (w nn) (e (nn + 1)) (e (nn + 2)) L → (nn : Int) = 40 + 4 * ((w 0).toInt % 41) → nn ≠ dn11 ∧ rp (w17 nn) (e17 (nn + 1)) (e17 (nn + 2)) L := hL_k hL11 rn11 ro11 hb_49.1
        refine Exists.intro _ (And.intro (cw_o0 hI17.1) ?_)
        intro m21 em_58
        try have e21 : m21.toInt = (x1).toInt + (x3).toInt := by rw [em_58]; exact pm_add _ _ (by omega) (by omega)
        have hp_60 := hL17
        refine And.intro (Exists.intro _ (cw_o1 hI17.1)) (Exists.intro _ (Exists.intro _ (Exists.intro _ (Exists.intro _ (And.intro (F_X9_keep hI17 hs17 m21 x2 ) (And.intro rfl (fun r9 A9 h9 => ?_)))))))
        rcases h9 with ⟨w23, e23, v23, f23, rfl, hI23, hs23, hy23, rfl, by22⟩
        have hx23 : e23 15 = e 15 := hy23.trans hx17
        have hu24 := hI23.2.1
        unfold cw_W at hu24
        have zs25 := cw_sz hI23 rn11
        have zs26 := cw_sz hI23 ro11
        clear hu18 zs19 zs20
        have hb_60 := by22.2
        have hF23 : FRO K w e w23 e23 dn11 := FRO_s hF17 hb_60.1
        have hL23 : ∀ L, rp (w nn) (e (nn + 1)) (e (nn + 2)) L → (nn : Int) = 40 + 4 * ((w 0).toInt % 41) → nn ≠ dn11 ∧ rp (w23 nn) (e23 (nn + 1)) (e23 (nn + 2)) L := hL_k hL17 rn11 ro11 hb_60.1
        refine Exists.intro _ (And.intro (cw_o0 hI23.1) ?_)
        intro m27 em_70
        try have e27 : m27.toInt = (x1).toInt + (x3).toInt := by rw [em_70]; exact pm_add _ _ (by omega) (by omega)
        intro m28 em_72
        try have e28 : m28.toInt = (m27).toInt - (1) := by rw [em_72]; exact pm_subc _ _ (1) rfl (by omega) (by omega)
        have hp_73 := hL23
        refine And.intro (Exists.intro _ (cw_o1 hI23.1)) (Exists.intro _ (Exists.intro _ (Exists.intro _ (Exists.intro _ (And.intro (F_X9_keep hI23 hs23 x1 m28 ) (And.intro rfl (fun r9 A9 h9 => ?_)))))))
        rcases h9 with ⟨w30, e30, v30, f30, rfl, hI30, hs30, hy30, rfl, by29⟩
        have hx30 : e30 15 = e 15 := hy30.trans hx23
        have hu31 := hI30.2.1
        unfold cw_W at hu31
        have zs32 := cw_sz hI30 rn11
        have zs33 := cw_sz hI30 ro11
        clear hu24 zs25 zs26
        have hb_73 := by29.2
        have hF30 : FRO K w e w30 e30 dn11 := FRO_s hF23 hb_73.1
        have hL30 : ∀ L, rp (w nn) (e (nn + 1)) (e (nn + 2)) L → (nn : Int) = 40 + 4 * ((w 0).toInt % 41) → nn ≠ dn11 ∧ rp (w30 nn) (e30 (nn + 1)) (e30 (nn + 2)) L := hL_k hL23 rn11 ro11 hb_73.1
        refine Exists.intro _ (And.intro (cw_o0 hI30.1) ?_)
        intro m34 em_82
        try have e34 : m34.toInt = (x2).toInt + (1) := by rw [em_82]; exact pm_addc _ _ (1) rfl (by omega) (by omega)
        refine Exists.intro _ (And.intro (cw_ro_o hI30.1 rn11) ?_)
        have z35 := cw_sz hI30 rn11
        intro m36 em_89
        try have e36 : m36.toInt = ((w30 nn)).toInt - (1) := by rw [em_89]; exact pm_subc _ _ (1) rfl (by omega) (by omega)
        have hp_90 := hL30
        refine And.intro (Exists.intro _ (cw_o1 hI30.1)) (Exists.intro _ (Exists.intro _ (Exists.intro _ (Exists.intro _ (And.intro (F_X9_keep hI30 hs30 m34 m36 ) (And.intro rfl (fun r9 A9 h9 => ?_)))))))
        rcases h9 with ⟨w38, e38, v38, f38, rfl, hI38, hs38, hy38, rfl, by37⟩
        have hx38 : e38 15 = e 15 := hy38.trans hx30
        have hu39 := hI38.2.1
        unfold cw_W at hu39
        have zs40 := cw_sz hI38 rn11
        have zs41 := cw_sz hI38 ro11
        clear hu31 zs32 zs33
        have hb_90 := by37.2
        have hF38 : FRO K w e w38 e38 dn11 := FRO_s hF30 hb_90.1
        have hL38 : ∀ L, rp (w nn) (e (nn + 1)) (e (nn + 2)) L → (nn : Int) = 40 + 4 * ((w 0).toInt % 41) → nn ≠ dn11 ∧ rp (w38 nn) (e38 (nn + 1)) (e38 (nn + 2)) L := hL_k hL30 rn11 ro11 hb_90.1
        refine Exists.intro _ (And.intro (cw_o0 hI38.1) ?_)
        have hp_97 := hL38
        refine And.intro (Exists.intro _ (cw_o1 hI38.1)) (Exists.intro _ (Exists.intro _ (Exists.intro _ (Exists.intro _ (And.intro (Z_X9_finish hI38 hs38  (by omega) (by omega)) (And.intro rfl (fun r9 A9 h9 => ?_)))))))
        rcases h9 with ⟨w43, e43, v43, f43, rfl, hI43, hs43, hy43, y42, rfl, by42⟩
        have hx43 : e43 15 = e 15 := hy43.trans hx38
        have hu44 := hI43.2.1
        unfold cw_W at hu44
        have zs45 := cw_sz hI43 ro11
        have zs46 := cw_sz hI43 ro11
        clear hu39 zs40 zs41
        have hb_97 := by42.2.1
        have ht_97 := by42.2.2
        have hF43 : FRO K w e w43 e43 dn11 := FRO_s hF38 hb_97.1
        have hc_9 : HCn K w e w43 e43 dn11 y42 := ⟨by omega, hF43, ht_97⟩
        exact ⟨rfl, fun e9 => absurd e9 (by decide), rfl, K11, dn11, dn11, q11, w43, e43, v43, f43, rfl, hI43, hs43, hX11, hx43, y42, rfl, by first | omega | (dsimp only; omega) | trivial, by refine ⟨?_, ?_⟩; (intro L hL hN; have hl := hL.1; rw [ed_shift, if_pos (by omega)]; have q1 := hp_49 L hL hN; have z1 := q1.2.1; have t1 := hb_49.2 L ([]) (0) (x1.toInt) q1.2 q1.1 (by omega) (by omega) (by omega) (by omega) (by omega) (by first | omega | (simp only [List.length_append, List.length_nil, List.length_cons, List.length_map, List.length_reverse, nw_len, dr_len]; omega)) (rp_0 hz9); have k1 := si_len (L := L) (a := 0) (b := x1.toInt) (by omega) (by omega) (by omega); rw [List.nil_append] at t1; have q2 := hp_60 L hL hN; have z2 := q2.2.1; have t2 := hb_60.2 L (_) (x1.toInt + x3.toInt) (x2.toInt + 1) q2.2 q2.1 (by omega) (by omega) (by omega) (by omega) (by omega) (by first | omega | (simp only [List.length_append, List.length_nil, List.length_cons, List.length_map, List.length_reverse, nw_len, dr_len]; omega)) t1; have k2 := si_len (L := L) (a := x1.toInt + x3.toInt) (b := x2.toInt + 1) (by omega) (by omega) (by omega); have q3 := hp_73 L hL hN; have z3 := q3.2.1; have t3 := hb_73.2 L (_) (x1.toInt) (x1.toInt + x3.toInt) q3.2 q3.1 (by omega) (by omega) (by omega) (by omega) (by omega) (by first | omega | (simp only [List.length_append, List.length_nil, List.length_cons, List.length_map, List.length_reverse, nw_len, dr_len]; omega)) t2; have k3 := si_len (L := L) (a := x1.toInt) (b := x1.toInt + x3.toInt) (by omega) (by omega) (by omega); have q4 := hp_90 L hL hN; have z4 := q4.2.1; have t4 := hb_90.2 L (_) (x2.toInt + 1) (L.length) q4.2 q4.1 (by omega) (by omega) (by omega) (by omega) (by omega) (by first | omega | (simp only [List.length_append, List.length_nil, List.length_cons, List.length_map, List.length_reverse, nw_len, dr_len]; omega)) t3; have k4 := si_len (L := L) (a := x2.toInt + 1) (b := L.length) (by omega) (by omega) (by omega); exact ⟨hb_97.2.1 _ t4, by show _ = _ + (1 : Int); omega, by show _ = _ + (1 : Int) * _; omega, by omega, fun _ => hb_97.2.2⟩); (first | (exact Or.inr hc_9) | (exact hc_9) | (exact Or.inl ⟨rfl, rfl, fun _ _ => ⟨rfl, rfl⟩⟩))⟩
      · skip
        refine hC.1 1 32 _ _ rfl _ _ _ _ _ ?_
        have km1 : (-1 : Int32).toInt = -1 := rfl
        exact ⟨rfl, fun e9 => absurd e9 (by decide), rfl, K, nn, dn, q, w, e, v, f, rfl, hI, hs, cw_X_r, rfl, (-1 : Int32), rfl, by first | omega | (dsimp only; omega) | trivial, by refine ⟨?_, ?_⟩; (intro L hL hN; have hl := hL.1; rw [ed_shift, if_neg (by omega)]; exact ⟨hL, by show _ = _ + (0 : Int); omega, by show _ = _ + (0 : Int) * _; omega, hN, fun h8 => h8⟩); (first | (exact Or.inr hc_9) | (exact hc_9) | (exact Or.inl ⟨rfl, rfl, fun _ _ => ⟨rfl, rfl⟩⟩))⟩
  · skip
    have k0 : (0 : Int32).toInt = 0 := rfl
    refine And.intro (fun _ => ?_) (fun c9 => absurd c9 (by decide))
    refine hC.1 1 32 _ _ rfl _ _ _ _ _ ?_
    have km1 : (-1 : Int32).toInt = -1 := rfl
    exact ⟨rfl, fun e9 => absurd e9 (by decide), rfl, K, nn, dn, q, w, e, v, f, rfl, hI, hs, cw_X_r, rfl, (-1 : Int32), rfl, by first | omega | (dsimp only; omega) | trivial, by refine ⟨?_, ?_⟩; (intro L hL hN; have hl := hL.1; rw [ed_shift, if_neg (by omega)]; exact ⟨hL, by show _ = _ + (0 : Int); omega, by show _ = _ + (0 : Int) * _; omega, hN, fun h8 => h8⟩); (first | (exact Or.inr hc_9) | (exact hc_9) | (exact Or.inl ⟨rfl, rfl, fun _ _ => ⟨rfl, rfl⟩⟩))⟩

end
end
section
section
variable {l : Launch} {g : pm_G} {A0 : pm_H} {K nn dn : Nat} {q : Nat → Nat} {w : Nat → Int32} {e : Nat → Nat → Int32} {v : Nat → Int32} {f : Nat → Nat → Int32}
set_option maxRecDepth 100000 in
set_option maxHeartbeats 2000000 in
theorem Z_X10_swapInOrder (hI : cw_I K nn dn q w e) (hs : cw_S v f) (x1 : Int32) (x2 : Int32) (x3 : Int32) (x4 : Int32) (p0 : (w 0).toInt < 100000) (p1 : 0 ≤ x1.toInt ∧ x1.toInt ≤ x2.toInt ∧ x2.toInt < x3.toInt ∧ x3.toInt ≤ x4.toInt ∧ x4.toInt < 160) : pm_Mt l g 35 4 4 485 [.ref (q 0), .int x1, .int x2, .int x3, .int x4] (cw A0 g K nn dn q w e v f) (cw_Qb A0 g K nn q (fun r K2 nn2 dn2 w2 e2 => e2 15 = e 15 ∧ (∃ x : Int32, r = some (.int x) ∧ (((w2 0).toInt ≤ (w 0).toInt + 1 ∧ (w 0).toInt ≤ (w2 0).toInt ∧ (w2 3).toInt = (w 3).toInt) ∧ ((∀ L, rp (w nn) (e (nn + 1)) (e (nn + 2)) L → (nn : Int) = 40 + 4 * ((w 0).toInt % 41) → x4.toInt < (L.length : Int) → rp (w2 nn2) (e2 (nn2 + 1)) (e2 (nn2 + 2)) (sw_l L x1.toInt x2.toInt x3.toInt x4.toInt) ∧ (w2 0).toInt = (w 0).toInt + 1 ∧ (w2 1).toInt = (w 1).toInt ∧ (nn2 : Int) = 40 + 4 * ((w2 0).toInt % 41) ∧ (bd (w nn) (e (nn + 1)) (e (nn + 3)) → bd (w2 nn2) (e2 (nn2 + 1)) (e2 (nn2 + 3)))) ∧ HCn K w e w2 e2 nn2 x))))) := by
  refine mt_X10_swapInOrder rfl (fun J hC => ?_)
  have ro_nn : cw_ro K nn := hI.2.1.2.1
  have ro_dn : cw_ro K dn := hI.2.1.2.2.1
  have hu1 := hI.2.1
  unfold cw_W at hu1
  have zs2 := cw_sz hI ro_nn
  have zs3 := cw_sz hI ro_dn
  have rg_x1 := pm_rng x1
  have rg_x2 := pm_rng x2
  have rg_x3 := pm_rng x3
  have rg_x4 := pm_rng x4
  refine hC.1 0 0 _ _ rfl _ _ _ _ _ ?_
  refine Exists.intro _ (And.intro (cw_o0 hI.1) ?_)
  refine And.intro (Exists.intro _ (cw_o1 hI.1)) (Exists.intro _ (Exists.intro _ (Exists.intro _ (Exists.intro _ (And.intro (F_X9_begin hI hs  (by omega)) (And.intro rfl (fun r9 A9 h9 => ?_)))))))
  obtain ⟨K5, dn5, q5, w5, e5, rfl, rfl, hI5, hX5, hk5, hw5, hy5, hdn5, hfm5, hz5⟩ := h9
  have hq5_0 : q 0 = q5 0 := (hX5.2.1 0 (by omega)).symm
  rw [hq5_0]
  have hw5_0 := congrArg Int32.toInt hw5.1
  have hw5_1 := congrArg Int32.toInt hw5.2.1
  have hw5_3 := congrArg Int32.toInt hw5.2.2.2
  have ro5 : cw_ro K5 dn5 := hI5.2.1.2.2.1
  have rn5 : cw_ro K5 nn := hI5.2.1.2.1
  have hx5 : e5 15 = e 15 := hy5.trans rfl
  have hu6 := hI5.2.1
  unfold cw_W at hu6
  have zs7 := cw_sz hI5 rn5
  have zs8 := cw_sz hI5 ro5
  have hz9 := hz5
  have hL5 : ∀ L, rp (w nn) (e (nn + 1)) (e (nn + 2)) L → (nn : Int) = 40 + 4 * ((w 0).toInt % 41) → nn ≠ dn5 ∧ rp (w5 nn) (e5 (nn + 1)) (e5 (nn + 2)) L := hL_b ro_nn ro5 hdn5 hfm5
  have hF5 : FRO K w e w5 e5 dn5 := hfm5
  refine Exists.intro _ (And.intro (cw_o0 hI5.1) ?_)
  have k0 : (0 : Int32).toInt = 0 := rfl
  have k1 : (1 : Int32).toInt = 1 := rfl
  intro m9 em_14
  try have e9 : m9.toInt = (x1).toInt - (1) := by rw [em_14]; exact pm_subc _ _ (1) rfl (by omega) (by omega)
  have hp_15 := hL5
  refine And.intro (Exists.intro _ (cw_o1 hI5.1)) (Exists.intro _ (Exists.intro _ (Exists.intro _ (Exists.intro _ (And.intro (F_X9_keep hI5 hs (0 : Int32) m9 ) (And.intro rfl (fun r9 A9 h9 => ?_)))))))
  rcases h9 with ⟨w11, e11, v11, f11, rfl, hI11, hs11, hy11, rfl, by10⟩
  have hx11 : e11 15 = e 15 := hy11.trans hx5
  have hu12 := hI11.2.1
  unfold cw_W at hu12
  have zs13 := cw_sz hI11 rn5
  have zs14 := cw_sz hI11 ro5
  clear hu6 zs7 zs8
  have hb_15 := by10.2
  have hF11 : FRO K w e w11 e11 dn5 := FRO_s hF5 hb_15.1
  have hL11 : ∀ L, rp (w nn) (e (nn + 1)) (e (nn + 2)) L → (nn : Int) = 40 + 4 * ((w 0).toInt % 41) → nn ≠ dn5 ∧ rp (w11 nn) (e11 (nn + 1)) (e11 (nn + 2)) L := hL_k hL5 rn5 ro5 hb_15.1
  refine Exists.intro _ (And.intro (cw_o0 hI11.1) ?_)
  have hp_25 := hL11
  refine And.intro (Exists.intro _ (cw_o1 hI11.1)) (Exists.intro _ (Exists.intro _ (Exists.intro _ (Exists.intro _ (And.intro (F_X9_keep hI11 hs11 x3 x4 ) (And.intro rfl (fun r9 A9 h9 => ?_)))))))
  rcases h9 with ⟨w16, e16, v16, f16, rfl, hI16, hs16, hy16, rfl, by15⟩
  have hx16 : e16 15 = e 15 := hy16.trans hx11
  have hu17 := hI16.2.1
  unfold cw_W at hu17
  have zs18 := cw_sz hI16 rn5
  have zs19 := cw_sz hI16 ro5
  clear hu12 zs13 zs14
  have hb_25 := by15.2
  have hF16 : FRO K w e w16 e16 dn5 := FRO_s hF11 hb_25.1
  have hL16 : ∀ L, rp (w nn) (e (nn + 1)) (e (nn + 2)) L → (nn : Int) = 40 + 4 * ((w 0).toInt % 41) → nn ≠ dn5 ∧ rp (w16 nn) (e16 (nn + 1)) (e16 (nn + 2)) L := hL_k hL11 rn5 ro5 hb_25.1
  refine Exists.intro _ (And.intro (cw_o0 hI16.1) ?_)
  intro m20 em_34
  try have e20 : m20.toInt = (x2).toInt + (1) := by rw [em_34]; exact pm_addc _ _ (1) rfl (by omega) (by omega)
  intro m21 em_37
  try have e21 : m21.toInt = (x3).toInt - (1) := by rw [em_37]; exact pm_subc _ _ (1) rfl (by omega) (by omega)
  have hp_38 := hL16
  refine And.intro (Exists.intro _ (cw_o1 hI16.1)) (Exists.intro _ (Exists.intro _ (Exists.intro _ (Exists.intro _ (And.intro (F_X9_keep hI16 hs16 m20 m21 ) (And.intro rfl (fun r9 A9 h9 => ?_)))))))
  rcases h9 with ⟨w23, e23, v23, f23, rfl, hI23, hs23, hy23, rfl, by22⟩
  have hx23 : e23 15 = e 15 := hy23.trans hx16
  have hu24 := hI23.2.1
  unfold cw_W at hu24
  have zs25 := cw_sz hI23 rn5
  have zs26 := cw_sz hI23 ro5
  clear hu17 zs18 zs19
  have hb_38 := by22.2
  have hF23 : FRO K w e w23 e23 dn5 := FRO_s hF16 hb_38.1
  have hL23 : ∀ L, rp (w nn) (e (nn + 1)) (e (nn + 2)) L → (nn : Int) = 40 + 4 * ((w 0).toInt % 41) → nn ≠ dn5 ∧ rp (w23 nn) (e23 (nn + 1)) (e23 (nn + 2)) L := hL_k hL16 rn5 ro5 hb_38.1
  refine Exists.intro _ (And.intro (cw_o0 hI23.1) ?_)
  have hp_47 := hL23
  refine And.intro (Exists.intro _ (cw_o1 hI23.1)) (Exists.intro _ (Exists.intro _ (Exists.intro _ (Exists.intro _ (And.intro (F_X9_keep hI23 hs23 x1 x2 ) (And.intro rfl (fun r9 A9 h9 => ?_)))))))
  rcases h9 with ⟨w28, e28, v28, f28, rfl, hI28, hs28, hy28, rfl, by27⟩
  have hx28 : e28 15 = e 15 := hy28.trans hx23
  have hu29 := hI28.2.1
  unfold cw_W at hu29
  have zs30 := cw_sz hI28 rn5
  have zs31 := cw_sz hI28 ro5
  clear hu24 zs25 zs26
  have hb_47 := by27.2
  have hF28 : FRO K w e w28 e28 dn5 := FRO_s hF23 hb_47.1
  have hL28 : ∀ L, rp (w nn) (e (nn + 1)) (e (nn + 2)) L → (nn : Int) = 40 + 4 * ((w 0).toInt % 41) → nn ≠ dn5 ∧ rp (w28 nn) (e28 (nn + 1)) (e28 (nn + 2)) L := hL_k hL23 rn5 ro5 hb_47.1
  refine Exists.intro _ (And.intro (cw_o0 hI28.1) ?_)
  intro m32 em_57
  try have e32 : m32.toInt = (x4).toInt + (1) := by rw [em_57]; exact pm_addc _ _ (1) rfl (by omega) (by omega)
  refine Exists.intro _ (And.intro (cw_o0 hI28.1) ?_)
  refine Exists.intro _ (And.intro (cw_o1 hI28.1) ?_)
  refine Exists.intro _ (And.intro (cw_ro_o hI28.1 rn5) ?_)
  have z33 := cw_sz hI28 rn5
  intro m34 em_69
  try have e34 : m34.toInt = ((w28 nn)).toInt - (1) := by rw [em_69]; exact pm_subc _ _ (1) rfl (by omega) (by omega)
  have hp_70 := hL28
  refine And.intro (Exists.intro _ (cw_o1 hI28.1)) (Exists.intro _ (Exists.intro _ (Exists.intro _ (Exists.intro _ (And.intro (F_X9_keep hI28 hs28 m32 m34 ) (And.intro rfl (fun r9 A9 h9 => ?_)))))))
  rcases h9 with ⟨w36, e36, v36, f36, rfl, hI36, hs36, hy36, rfl, by35⟩
  have hx36 : e36 15 = e 15 := hy36.trans hx28
  have hu37 := hI36.2.1
  unfold cw_W at hu37
  have zs38 := cw_sz hI36 rn5
  have zs39 := cw_sz hI36 ro5
  clear hu29 zs30 zs31
  have hb_70 := by35.2
  have hF36 : FRO K w e w36 e36 dn5 := FRO_s hF28 hb_70.1
  have hL36 : ∀ L, rp (w nn) (e (nn + 1)) (e (nn + 2)) L → (nn : Int) = 40 + 4 * ((w 0).toInt % 41) → nn ≠ dn5 ∧ rp (w36 nn) (e36 (nn + 1)) (e36 (nn + 2)) L := hL_k hL28 rn5 ro5 hb_70.1
  refine Exists.intro _ (And.intro (cw_o0 hI36.1) ?_)
  have hp_77 := hL36
  refine And.intro (Exists.intro _ (cw_o1 hI36.1)) (Exists.intro _ (Exists.intro _ (Exists.intro _ (Exists.intro _ (And.intro (Z_X9_finish hI36 hs36  (by omega) (by omega)) (And.intro rfl (fun r9 A9 h9 => ?_)))))))
  rcases h9 with ⟨w41, e41, v41, f41, rfl, hI41, hs41, hy41, y40, rfl, by40⟩
  have hx41 : e41 15 = e 15 := hy41.trans hx36
  have hu42 := hI41.2.1
  unfold cw_W at hu42
  have zs43 := cw_sz hI41 ro5
  have zs44 := cw_sz hI41 ro5
  clear hu37 zs38 zs39
  have hb_77 := by40.2.1
  have ht_77 := by40.2.2
  have hF41 : FRO K w e w41 e41 dn5 := FRO_s hF36 hb_77.1
  have hc_9 : HCn K w e w41 e41 dn5 y40 := ⟨by omega, hF41, ht_77⟩
  exact ⟨rfl, fun e9 => absurd e9 (by decide), rfl, K5, dn5, dn5, q5, w41, e41, v41, f41, rfl, hI41, hs41, hX5, hx41, y40, rfl, by first | omega | (dsimp only; omega) | trivial, by refine ⟨?_, ?_⟩; (intro L hL hN h4; have hl := hL.1; unfold sw_l; have q1 := hp_15 L hL hN; have z1 := q1.2.1; have t1 := hb_15.2 L ([]) (0) (x1.toInt) q1.2 q1.1 (by omega) (by omega) (by omega) (by omega) (by omega) (by first | omega | (simp only [List.length_append, List.length_nil, List.length_cons, List.length_map, List.length_reverse, nw_len, dr_len]; omega)) (rp_0 hz9); have k1 := si_len (L := L) (a := 0) (b := x1.toInt) (by omega) (by omega) (by omega); rw [List.nil_append] at t1; have q2 := hp_25 L hL hN; have z2 := q2.2.1; have t2 := hb_25.2 L (_) (x3.toInt) (x4.toInt + 1) q2.2 q2.1 (by omega) (by omega) (by omega) (by omega) (by omega) (by first | omega | (simp only [List.length_append, List.length_nil, List.length_cons, List.length_map, List.length_reverse, nw_len, dr_len]; omega)) t1; have k2 := si_len (L := L) (a := x3.toInt) (b := x4.toInt + 1) (by omega) (by omega) (by omega); have q3 := hp_38 L hL hN; have z3 := q3.2.1; have t3 := hb_38.2 L (_) (x2.toInt + 1) (x3.toInt) q3.2 q3.1 (by omega) (by omega) (by omega) (by omega) (by omega) (by first | omega | (simp only [List.length_append, List.length_nil, List.length_cons, List.length_map, List.length_reverse, nw_len, dr_len]; omega)) t2; have k3 := si_len (L := L) (a := x2.toInt + 1) (b := x3.toInt) (by omega) (by omega) (by omega); have q4 := hp_47 L hL hN; have z4 := q4.2.1; have t4 := hb_47.2 L (_) (x1.toInt) (x2.toInt + 1) q4.2 q4.1 (by omega) (by omega) (by omega) (by omega) (by omega) (by first | omega | (simp only [List.length_append, List.length_nil, List.length_cons, List.length_map, List.length_reverse, nw_len, dr_len]; omega)) t3; have k4 := si_len (L := L) (a := x1.toInt) (b := x2.toInt + 1) (by omega) (by omega) (by omega); have q5 := hp_70 L hL hN; have z5 := q5.2.1; have t5 := hb_70.2 L (_) (x4.toInt + 1) (L.length) q5.2 q5.1 (by omega) (by omega) (by omega) (by omega) (by omega) (by first | omega | (simp only [List.length_append, List.length_nil, List.length_cons, List.length_map, List.length_reverse, nw_len, dr_len]; omega)) t4; have k5 := si_len (L := L) (a := x4.toInt + 1) (b := L.length) (by omega) (by omega) (by omega); exact ⟨hb_77.2.1 _ t5, by omega, by omega, by omega, fun _ => hb_77.2.2⟩); (exact hc_9)⟩

set_option maxRecDepth 100000 in
set_option maxHeartbeats 2000000 in
theorem Z_X10_swap (hI : cw_I K nn dn q w e) (hs : cw_S v f) (x1 : Int32) (x2 : Int32) (x3 : Int32) (x4 : Int32) (p0 : (w 0).toInt < 100000) : pm_Mt l g 34 5 4 485 [.ref (q 0), .int x1, .int x2, .int x3, .int x4] (cw A0 g K nn dn q w e v f) (cw_Qb A0 g K nn q (fun r K2 nn2 dn2 w2 e2 => e2 15 = e 15 ∧ (∃ x : Int32, r = some (.int x) ∧ (((w2 0).toInt ≤ (w 0).toInt + 1 ∧ (w 0).toInt ≤ (w2 0).toInt ∧ (w2 3).toInt = (w 3).toInt) ∧ ((∀ L, rp (w nn) (e (nn + 1)) (e (nn + 2)) L → (nn : Int) = 40 + 4 * ((w 0).toInt % 41) → rp (w2 nn2) (e2 (nn2 + 1)) (e2 (nn2 + 2)) ((ed_swap L x1 x2 x3 x4).getD L) ∧ (w2 0).toInt = (w 0).toInt + edn (ed_swap L x1 x2 x3 x4) ∧ (w2 1).toInt = (w 1).toInt + edn (ed_swap L x1 x2 x3 x4) * (0) ∧ (nn2 : Int) = 40 + 4 * ((w2 0).toInt % 41) ∧ (bd (w nn) (e (nn + 1)) (e (nn + 3)) → bd (w2 nn2) (e2 (nn2 + 1)) (e2 (nn2 + 3)))) ∧ HCe K nn w e w2 e2 nn2 x))))) := by
  refine mt_X10_swap rfl (fun J hC => ?_)
  have ro_nn : cw_ro K nn := hI.2.1.2.1
  have ro_dn : cw_ro K dn := hI.2.1.2.2.1
  have hu1 := hI.2.1
  unfold cw_W at hu1
  have zs2 := cw_sz hI ro_nn
  have zs3 := cw_sz hI ro_dn
  have rg_x1 := pm_rng x1
  have rg_x2 := pm_rng x2
  have rg_x3 := pm_rng x3
  have rg_x4 := pm_rng x4
  refine hC.1 0 0 _ _ rfl _ _ _ _ _ ?_
  refine Exists.intro _ (And.intro (cw_o0 hI.1) ?_)
  refine Exists.intro _ (And.intro (cw_o1 hI.1) ?_)
  refine And.intro (Exists.intro _ (cw_ro_o hI.1 ro_nn)) (Exists.intro _ (Exists.intro _ (Exists.intro _ (Exists.intro _ (And.intro (c_X7_isSpan hI hs ro_nn x1 x2 ) (And.intro rfl (fun r9 A9 h9 => ?_)))))))
  rcases h9 with ⟨y4, rfl, rfl, ⟨rfl, by4⟩ | ⟨rfl, by4⟩⟩
  · skip
    have k1 : (1 : Int32).toInt = 1 := rfl
    refine And.intro (fun c9 => absurd c9 (by decide)) (fun _ => ?_)
    refine And.intro (Exists.intro _ (cw_ro_o hI.1 ro_nn)) (Exists.intro _ (Exists.intro _ (Exists.intro _ (Exists.intro _ (And.intro (c_X7_isSpan hI hs ro_nn x3 x4 ) (And.intro rfl (fun r9 A9 h9 => ?_)))))))
    rcases h9 with ⟨y6, rfl, rfl, ⟨rfl, by6⟩ | ⟨rfl, by6⟩⟩
    · skip
      refine And.intro (fun _ => ?_) (fun c9 => absurd c9 (by decide))
      refine hC.1 2 32 _ _ rfl _ _ _ _ _ ?_
      refine And.intro (fun c8 => ?_) (fun c8 => ?_)
      · skip
        refine hC.1 3 47 _ _ rfl _ _ _ _ _ ?_
        refine And.intro (fun c9 => ?_) (fun c9 => ?_)
        · skip
          refine hC.1 4 65 _ _ rfl _ _ _ _ _ ?_
          have km1 : (-1 : Int32).toInt = -1 := rfl
          refine hC.1 5 66 _ _ rfl _ _ _ _ _ ?_
          exact ⟨rfl, fun e9 => absurd e9 (by decide), rfl, K, nn, dn, q, w, e, v, f, rfl, hI, hs, cw_X_r, rfl, (-1 : Int32), rfl, by first | omega | (dsimp only; omega) | trivial, by refine ⟨?_, ?_⟩; (first | (intro L hL hN; have hl := hL.1; rw [ed_swap, if_pos (by omega), if_neg (by omega)]; have t1 := hb_59 L hL hN (by omega); exact ⟨t1.1, by show _ = _ + (1 : Int); omega, by show _ = _ + (1 : Int) * _; omega, t1.2.2.2.1, t1.2.2.2.2⟩) | (intro L hL hN; have hl := hL.1; rw [ed_swap, if_neg (by omega)]; exact ⟨hL, by show _ = _ + (0 : Int); omega, by show _ = _ + (0 : Int) * _; omega, hN, fun h8 => h8⟩)); (first | (exact Or.inr hc_9) | (exact hc_9) | (exact Or.inl ⟨rfl, rfl, fun _ _ => ⟨rfl, rfl⟩⟩))⟩
        · skip
          refine And.intro (Exists.intro _ (cw_o0 hI.1)) (Exists.intro _ (Exists.intro _ (Exists.intro _ (Exists.intro _ (And.intro (Z_X10_swapInOrder hI hs x3 x4 x1 x2 (by omega) (by omega)) (And.intro rfl (fun r9 A9 h9 => ?_)))))))
          obtain ⟨K11, nn11, dn11, q11, w11, e11, v11, f11, rfl, hI11, hs11, hX11, hy11, y10, rfl, by10⟩ := h9
          have hq11_0 : q 0 = q11 0 := (hX11.2.1 0 (by omega)).symm
          have hq11_nn : q nn = q11 nn := (hX11.2.1 nn (by omega)).symm
          rw [hq11_0, hq11_nn]
          have hx11 : e11 15 = e 15 := hy11.trans rfl
          have hu12 := hI11.2.1
          unfold cw_W at hu12
          have hb_59 := by10.2.1
          have ht_59 := by10.2.2
          have hc_9 := ht_59
          refine hC.1 5 66 _ _ rfl _ _ _ _ _ ?_
          exact ⟨rfl, fun e9 => absurd e9 (by decide), rfl, K11, nn11, dn11, q11, w11, e11, v11, f11, rfl, hI11, hs11, hX11, hx11, y10, rfl, by first | omega | (dsimp only; omega) | trivial, by refine ⟨?_, ?_⟩; (first | (intro L hL hN; have hl := hL.1; rw [ed_swap, if_pos (by omega), if_neg (by omega)]; have t1 := hb_59 L hL hN (by omega); exact ⟨t1.1, by show _ = _ + (1 : Int); omega, by show _ = _ + (1 : Int) * _; omega, t1.2.2.2.1, t1.2.2.2.2⟩) | (intro L hL hN; have hl := hL.1; rw [ed_swap, if_neg (by omega)]; exact ⟨hL, by show _ = _ + (0 : Int); omega, by show _ = _ + (0 : Int) * _; omega, hN, fun h8 => h8⟩)); (first | (exact Or.inr hc_9) | (exact hc_9) | (exact Or.inl ⟨rfl, rfl, fun _ _ => ⟨rfl, rfl⟩⟩))⟩
      · skip
        refine And.intro (Exists.intro _ (cw_o0 hI.1)) (Exists.intro _ (Exists.intro _ (Exists.intro _ (Exists.intro _ (And.intro (Z_X10_swapInOrder hI hs x1 x2 x3 x4 (by omega) (by omega)) (And.intro rfl (fun r9 A9 h9 => ?_)))))))
        obtain ⟨K14, nn14, dn14, q14, w14, e14, v14, f14, rfl, hI14, hs14, hX14, hy14, y13, rfl, by13⟩ := h9
        have hq14_0 : q 0 = q14 0 := (hX14.2.1 0 (by omega)).symm
        have hq14_nn : q nn = q14 nn := (hX14.2.1 nn (by omega)).symm
        rw [hq14_0, hq14_nn]
        have hx14 : e14 15 = e 15 := hy14.trans rfl
        have hu15 := hI14.2.1
        unfold cw_W at hu15
        have hb_43 := by13.2.1
        have ht_43 := by13.2.2
        have hc_9 := ht_43
        exact ⟨rfl, fun e9 => absurd e9 (by decide), rfl, K14, nn14, dn14, q14, w14, e14, v14, f14, rfl, hI14, hs14, hX14, hx14, y13, rfl, by first | omega | (dsimp only; omega) | trivial, by refine ⟨?_, ?_⟩; (intro L hL hN; have hl := hL.1; rw [ed_swap, if_pos (by omega), if_pos (by omega)]; have t1 := hb_43 L hL hN (by omega); exact ⟨t1.1, by show _ = _ + (1 : Int); omega, by show _ = _ + (1 : Int) * _; omega, t1.2.2.2.1, t1.2.2.2.2⟩); (first | (exact Or.inr hc_9) | (exact hc_9) | (exact Or.inl ⟨rfl, rfl, fun _ _ => ⟨rfl, rfl⟩⟩))⟩
    · skip
      have k0 : (0 : Int32).toInt = 0 := rfl
      refine And.intro (fun c9 => absurd c9 (by decide)) (fun _ => ?_)
      refine hC.1 1 30 _ _ rfl _ _ _ _ _ ?_
      have km1 : (-1 : Int32).toInt = -1 := rfl
      exact ⟨rfl, fun e9 => absurd e9 (by decide), rfl, K, nn, dn, q, w, e, v, f, rfl, hI, hs, cw_X_r, rfl, (-1 : Int32), rfl, by first | omega | (dsimp only; omega) | trivial, by refine ⟨?_, ?_⟩; (intro L hL hN; have hl := hL.1; rw [ed_swap, if_neg (by omega)]; exact ⟨hL, by show _ = _ + (0 : Int); omega, by show _ = _ + (0 : Int) * _; omega, hN, fun h8 => h8⟩); (first | (exact Or.inr hc_9) | (exact hc_9) | (exact Or.inl ⟨rfl, rfl, fun _ _ => ⟨rfl, rfl⟩⟩))⟩
  · skip
    have k0 : (0 : Int32).toInt = 0 := rfl
    refine And.intro (fun _ => ?_) (fun c9 => absurd c9 (by decide))
    refine hC.1 1 30 _ _ rfl _ _ _ _ _ ?_
    have km1 : (-1 : Int32).toInt = -1 := rfl
    exact ⟨rfl, fun e9 => absurd e9 (by decide), rfl, K, nn, dn, q, w, e, v, f, rfl, hI, hs, cw_X_r, rfl, (-1 : Int32), rfl, by first | omega | (dsimp only; omega) | trivial, by refine ⟨?_, ?_⟩; (intro L hL hN; have hl := hL.1; rw [ed_swap, if_neg (by omega)]; exact ⟨hL, by show _ = _ + (0 : Int); omega, by show _ = _ + (0 : Int) * _; omega, hN, fun h8 => h8⟩); (first | (exact Or.inr hc_9) | (exact hc_9) | (exact Or.inl ⟨rfl, rfl, fun _ _ => ⟨rfl, rfl⟩⟩))⟩

set_option maxRecDepth 100000 in
set_option maxHeartbeats 2000000 in
theorem Z_X10_paint (hI : cw_I K nn dn q w e) (hs : cw_S v f) (x1 : Int32) (x2 : Int32) (x3 : Int32) (p0 : (w 0).toInt < 100000) : pm_Mt l g 13 4 4 485 [.ref (q 0), .int x1, .int x2, .int x3] (cw A0 g K nn dn q w e v f) (cw_Qb A0 g K nn q (fun r K2 nn2 dn2 w2 e2 => e2 15 = e 15 ∧ (∃ x : Int32, r = some (.int x) ∧ (((w2 0).toInt ≤ (w 0).toInt + 1 ∧ (w 0).toInt ≤ (w2 0).toInt ∧ (w2 3).toInt = (w 3).toInt) ∧ ((∀ L, rp (w nn) (e (nn + 1)) (e (nn + 2)) L → (nn : Int) = 40 + 4 * ((w 0).toInt % 41) → rp (w2 nn2) (e2 (nn2 + 1)) (e2 (nn2 + 2)) ((ed_paint L x1 x2 x3).getD L) ∧ (w2 0).toInt = (w 0).toInt + edn (ed_paint L x1 x2 x3) ∧ (w2 1).toInt = (w 1).toInt + edn (ed_paint L x1 x2 x3) * (0) ∧ (nn2 : Int) = 40 + 4 * ((w2 0).toInt % 41) ∧ (bd (w nn) (e (nn + 1)) (e (nn + 3)) → bd (w2 nn2) (e2 (nn2 + 1)) (e2 (nn2 + 3)))) ∧ HCe K nn w e w2 e2 nn2 x))))) := by
  refine mt_X10_paint rfl (fun J hC => ?_)
  have ro_nn : cw_ro K nn := hI.2.1.2.1
  have ro_dn : cw_ro K dn := hI.2.1.2.2.1
  have hu1 := hI.2.1
  unfold cw_W at hu1
  have zs2 := cw_sz hI ro_nn
  have zs3 := cw_sz hI ro_dn
  have rg_x1 := pm_rng x1
  have rg_x2 := pm_rng x2
  have rg_x3 := pm_rng x3
  refine hC.1 0 0 _ _ rfl _ _ _ _ _ ?_
  refine Exists.intro _ (And.intro (cw_o0 hI.1) ?_)
  refine Exists.intro _ (And.intro (cw_o1 hI.1) ?_)
  refine And.intro (Exists.intro _ (cw_ro_o hI.1 ro_nn)) (Exists.intro _ (Exists.intro _ (Exists.intro _ (Exists.intro _ (And.intro (c_X7_isSpan hI hs ro_nn x1 x2 ) (And.intro rfl (fun r9 A9 h9 => ?_)))))))
  rcases h9 with ⟨y4, rfl, rfl, ⟨rfl, by4⟩ | ⟨rfl, by4⟩⟩
  · skip
    have k1 : (1 : Int32).toInt = 1 := rfl
    refine And.intro (fun c9 => absurd c9 (by decide)) (fun _ => ?_)
    refine Exists.intro _ (Exists.intro _ (Exists.intro _ (Exists.intro _ (And.intro (c_X10_isColour (cw A0 g K nn dn q w e v f) x3 ) (And.intro rfl (fun r9 A9 h9 => ?_))))))
    rcases h9 with ⟨y6, rfl, rfl, ⟨rfl, by6⟩ | ⟨rfl, by6⟩⟩
    · skip
      refine And.intro (fun _ => ?_) (fun c9 => absurd c9 (by decide))
      refine hC.1 2 28 _ _ rfl _ _ _ _ _ ?_
      refine Exists.intro _ (And.intro (cw_o0 hI.1) ?_)
      refine And.intro (Exists.intro _ (cw_o1 hI.1)) (Exists.intro _ (Exists.intro _ (Exists.intro _ (Exists.intro _ (And.intro (F_X9_begin hI hs  (by omega)) (And.intro rfl (fun r9 A9 h9 => ?_)))))))
      obtain ⟨K9, dn9, q9, w9, e9, rfl, rfl, hI9, hX9, hk9, hw9, hy9, hdn9, hfm9, hz9⟩ := h9
      have hq9_0 : q 0 = q9 0 := (hX9.2.1 0 (by omega)).symm
      have hq9_nn : q nn = q9 nn := (hX9.2.1 nn (by omega)).symm
      rw [hq9_0, hq9_nn]
      have hw9_0 := congrArg Int32.toInt hw9.1
      have hw9_1 := congrArg Int32.toInt hw9.2.1
      have hw9_3 := congrArg Int32.toInt hw9.2.2.2
      have ro9 : cw_ro K9 dn9 := hI9.2.1.2.2.1
      have rn9 : cw_ro K9 nn := hI9.2.1.2.1
      have hx9 : e9 15 = e 15 := hy9.trans rfl
      have hu10 := hI9.2.1
      unfold cw_W at hu10
      have zs11 := cw_sz hI9 rn9
      have zs12 := cw_sz hI9 ro9
      have hz9 := hz9
      have hL9 : ∀ L, rp (w nn) (e (nn + 1)) (e (nn + 2)) L → (nn : Int) = 40 + 4 * ((w 0).toInt % 41) → nn ≠ dn9 ∧ rp (w9 nn) (e9 (nn + 1)) (e9 (nn + 2)) L := hL_b ro_nn ro9 hdn9 hfm9
      have hF9 : FRO K w e w9 e9 dn9 := hfm9
      refine Exists.intro _ (And.intro (cw_o0 hI9.1) ?_)
      have k0 : (0 : Int32).toInt = 0 := rfl
      intro m13 em_42
      try have e13 : m13.toInt = (x1).toInt - (1) := by rw [em_42]; exact pm_subc _ _ (1) rfl (by omega) (by omega)
      have hp_43 := hL9
      refine And.intro (Exists.intro _ (cw_o1 hI9.1)) (Exists.intro _ (Exists.intro _ (Exists.intro _ (Exists.intro _ (And.intro (F_X9_keep hI9 hs (0 : Int32) m13 ) (And.intro rfl (fun r9 A9 h9 => ?_)))))))
      rcases h9 with ⟨w15, e15, v15, f15, rfl, hI15, hs15, hy15, rfl, by14⟩
      have hx15 : e15 15 = e 15 := hy15.trans hx9
      have hu16 := hI15.2.1
      unfold cw_W at hu16
      have zs17 := cw_sz hI15 rn9
      have zs18 := cw_sz hI15 ro9
      clear hu10 zs11 zs12
      have hb_43 := by14.2
      have hF15 : FRO K w e w15 e15 dn9 := FRO_s hF9 hb_43.1
      have hL15 : ∀ L, rp (w nn) (e (nn + 1)) (e (nn + 2)) L → (nn : Int) = 40 + 4 * ((w 0).toInt % 41) → nn ≠ dn9 ∧ rp (w15 nn) (e15 (nn + 1)) (e15 (nn + 2)) L := hL_k hL9 rn9 ro9 hb_43.1
      have lp20 : ∀ (n : Nat) (z5_49 : Int32) (w19 : Nat → Int32) (e19 : Nat → Nat → Int32) (v19 : Nat → Int32) (f19 : Nat → Nat → Int32), cw_I K9 nn dn9 q9 w19 e19 → e19 15 = e 15 → (∀ L, rp (w nn) (e (nn + 1)) (e (nn + 2)) L → (nn : Int) = 40 + 4 * ((w 0).toInt % 41) → nn ≠ dn9 ∧ rp (w19 nn) (e19 (nn + 1)) (e19 (nn + 2)) L) → FRO K w e w19 e19 dn9 → cw_S v19 f19 → (x1.toInt ≤ z5_49.toInt ∧ z5_49.toInt ≤ x2.toInt + 1) → (∀ L, rp (w nn) (e (nn + 1)) (e (nn + 2)) L → (nn : Int) = 40 + 4 * ((w 0).toInt % 41) → rp (w19 dn9) (e19 (dn9 + 1)) (e19 (dn9 + 2)) (si L 0 x1.toInt ++ (si L x1.toInt z5_49.toInt).map (fun p => (x3, p.2)))) → (w19 0).toInt = (w 0).toInt → (w19 1).toInt = (w 1).toInt → (w19 3).toInt = (w 3).toInt → 200 - z5_49.toInt < (n : Int) → J 49 [some (.ref (q9 0)), some (.int x1), some (.int x2), some (.int x3), some (.ref (q9 nn)), some (.int z5_49)] [] (cw A0 g K9 nn dn9 q9 w19 e19 v19 f19) 4 485 := by
        intro n
        induction n with
        | zero =>
          intro z5_49 w19 e19 v19 f19 hI19 hx19 hL19 hF19 hs19 j0_49 j1_49 j2_49 j3_49 j4_49 j5_49
          omega
        | succ n ih21 =>
          intro z5_49 w19 e19 v19 f19 hI19 hx19 hL19 hF19 hs19 j0_49 j1_49 j2_49 j3_49 j4_49 j5_49
          have hu22 := hI19.2.1
          unfold cw_W at hu22
          have zs23 := cw_sz hI19 rn9
          have zs24 := cw_sz hI19 ro9
          clear hu16 zs17 zs18
          refine hC.1 3 49 _ _ rfl _ _ _ _ _ ?_
          refine And.intro (fun c25 => ?_) (fun c25 => ?_)
          · skip
            refine hC.1 4 71 _ _ rfl _ _ _ _ _ ?_
            refine Exists.intro _ (And.intro (cw_o0 hI19.1) ?_)
            intro m26 em_77
            try have e26 : m26.toInt = (x2).toInt + (1) := by rw [em_77]; exact pm_addc _ _ (1) rfl (by omega) (by omega)
            refine Exists.intro _ (And.intro (cw_ro_o hI19.1 rn9) ?_)
            have z27 := cw_sz hI19 rn9
            intro m28 em_84
            try have e28 : m28.toInt = ((w19 nn)).toInt - (1) := by rw [em_84]; exact pm_subc _ _ (1) rfl (by omega) (by omega)
            have hp_85 := hL19
            refine And.intro (Exists.intro _ (cw_o1 hI19.1)) (Exists.intro _ (Exists.intro _ (Exists.intro _ (Exists.intro _ (And.intro (F_X9_keep hI19 hs19 m26 m28 ) (And.intro rfl (fun r9 A9 h9 => ?_)))))))
            rcases h9 with ⟨w30, e30, v30, f30, rfl, hI30, hs30, hy30, rfl, by29⟩
            have hx30 : e30 15 = e 15 := hy30.trans hx19
            have hu31 := hI30.2.1
            unfold cw_W at hu31
            have zs32 := cw_sz hI30 rn9
            have zs33 := cw_sz hI30 ro9
            clear hu22 zs23 zs24
            have hb_85 := by29.2
            have hF30 : FRO K w e w30 e30 dn9 := FRO_s hF19 hb_85.1
            have hL30 : ∀ L, rp (w nn) (e (nn + 1)) (e (nn + 2)) L → (nn : Int) = 40 + 4 * ((w 0).toInt % 41) → nn ≠ dn9 ∧ rp (w30 nn) (e30 (nn + 1)) (e30 (nn + 2)) L := hL_k hL19 rn9 ro9 hb_85.1
            refine Exists.intro _ (And.intro (cw_o0 hI30.1) ?_)
            have hp_92 := hL30
            refine And.intro (Exists.intro _ (cw_o1 hI30.1)) (Exists.intro _ (Exists.intro _ (Exists.intro _ (Exists.intro _ (And.intro (Z_X9_finish hI30 hs30  (by omega) (by omega)) (And.intro rfl (fun r9 A9 h9 => ?_)))))))
            rcases h9 with ⟨w35, e35, v35, f35, rfl, hI35, hs35, hy35, y34, rfl, by34⟩
            have hx35 : e35 15 = e 15 := hy35.trans hx30
            have hu36 := hI35.2.1
            unfold cw_W at hu36
            have zs37 := cw_sz hI35 ro9
            have zs38 := cw_sz hI35 ro9
            clear hu31 zs32 zs33
            have hb_92 := by34.2.1
            have ht_92 := by34.2.2
            have hF35 : FRO K w e w35 e35 dn9 := FRO_s hF30 hb_92.1
            have hc_9 : HCn K w e w35 e35 dn9 y34 := ⟨by omega, hF35, ht_92⟩
            exact ⟨rfl, fun e9 => absurd e9 (by decide), rfl, K9, dn9, dn9, q9, w35, e35, v35, f35, rfl, hI35, hs35, hX9, hx35, y34, rfl, by first | omega | (dsimp only; omega) | trivial, by refine ⟨?_, ?_⟩; (intro L hL hN; have hl := hL.1; rw [ed_paint, if_pos (by omega)]; have t2 := j1_49 L hL hN; rw [show z5_49.toInt = x2.toInt + 1 by omega] at t2; have s1 := si_len (L := L) (a := 0) (b := x1.toInt) (by omega) (by omega) (by omega); have s2 := si_len (L := L) (a := x1.toInt) (b := x2.toInt + 1) (by omega) (by omega) (by omega); have q3 := hp_85 L hL hN; have z3 := q3.2.1; have t3 := hb_85.2 L (_) (x2.toInt + 1) (L.length) q3.2 q3.1 (by omega) (by omega) (by omega) (by omega) (by omega) (by first | omega | (simp only [List.length_append, List.length_nil, List.length_cons, List.length_map, List.length_reverse, nw_len, dr_len]; omega)) t2; have k3 := si_len (L := L) (a := x2.toInt + 1) (b := L.length) (by omega) (by omega) (by omega); exact ⟨hb_92.2.1 _ t3, by show _ = _ + (1 : Int); omega, by show _ = _ + (1 : Int) * _; omega, by omega, fun _ => hb_92.2.2⟩); (first | (exact Or.inr hc_9) | (exact hc_9) | (exact Or.inl ⟨rfl, rfl, fun _ _ => ⟨rfl, rfl⟩⟩))⟩
          · skip
            refine Exists.intro _ (And.intro (cw_o0 hI19.1) ?_)
            have hp_62 := hL19
            refine And.intro (Exists.intro _ (cw_o1 hI19.1)) (Exists.intro _ (Exists.intro _ (Exists.intro _ (Exists.intro _ (And.intro (F_X9_keepAs hI19 hs19 z5_49 x3 (by omega)) (And.intro rfl (fun r9 A9 h9 => ?_)))))))
            rcases h9 with ⟨w40, e40, v40, f40, rfl, hI40, hs40, hy40, rfl, by39⟩
            have hx40 : e40 15 = e 15 := hy40.trans hx19
            have hu41 := hI40.2.1
            unfold cw_W at hu41
            have zs42 := cw_sz hI40 rn9
            have zs43 := cw_sz hI40 ro9
            clear hu22 zs23 zs24
            have hb_62 := by39.2
            have hF40 : FRO K w e w40 e40 dn9 := FRO_s hF19 hb_62.1
            have hL40 : ∀ L, rp (w nn) (e (nn + 1)) (e (nn + 2)) L → (nn : Int) = 40 + 4 * ((w 0).toInt % 41) → nn ≠ dn9 ∧ rp (w40 nn) (e40 (nn + 1)) (e40 (nn + 2)) L := hL_k hL19 rn9 ro9 hb_62.1
            intro m44 em_65
            try have e44 : m44.toInt = (z5_49).toInt + (1) := by rw [em_65]; exact pm_addc _ _ (1) rfl (by omega) (by omega)
            exact ih21 m44 w40 e40 v40 f40 hI40 hx40 hL40 hF40 hs40 (by omega) (by intro L hL hN; have hl := hL.1; have q2 := hp_62 L hL hN; have z2 := q2.2.1; have s2 := si_len (L := L) (a := 0) (b := x1.toInt) (by omega) (by omega) (by omega); have s3 := si_len (L := L) (a := x1.toInt) (b := z5_49.toInt) (by omega) (by omega) (by omega); have t2 := hb_62.2 L _ q2.2 q2.1 (by omega) (by omega) (by first | omega | (simp only [List.length_append, List.length_nil, List.length_cons, List.length_map, List.length_reverse, nw_len, dr_len]; omega)) (j1_49 L hL hN); rw [show m44.toInt = z5_49.toInt + 1 by omega, si_s q2.2 (a := x1.toInt) (z := z5_49.toInt) (by omega) (by omega) (by omega), List.map_append, List.map_cons, List.map_nil, ← List.append_assoc]; exact t2) (by omega) (by omega) (by omega) (by omega)
      exact lp20 (200 - x1.toInt).toNat.succ x1 w15 e15 v15 f15 hI15 hx15 hL15 hF15 hs15 (by omega) (by intro L hL hN; have hl := hL.1; have q1 := hp_43 L hL hN; have z1 := q1.2.1; have t1 := hb_43.2 L ([]) (0) (x1.toInt) q1.2 q1.1 (by omega) (by omega) (by omega) (by omega) (by omega) (by first | omega | (simp only [List.length_append, List.length_nil, List.length_cons, List.length_map, List.length_reverse, nw_len, dr_len]; omega)) (rp_0 hz9); have k1 := si_len (L := L) (a := 0) (b := x1.toInt) (by omega) (by omega) (by omega); rw [List.nil_append] at t1; rw [si_n (L := L) (a := x1.toInt) (b := x1.toInt) (Int.le_refl _)]; show rp _ _ _ (_ ++ []); rw [List.append_nil]; exact t1) (by omega) (by omega) (by omega) (by omega)
    · skip
      have k0 : (0 : Int32).toInt = 0 := rfl
      refine And.intro (fun c9 => absurd c9 (by decide)) (fun _ => ?_)
      refine hC.1 1 26 _ _ rfl _ _ _ _ _ ?_
      have km1 : (-1 : Int32).toInt = -1 := rfl
      exact ⟨rfl, fun e9 => absurd e9 (by decide), rfl, K, nn, dn, q, w, e, v, f, rfl, hI, hs, cw_X_r, rfl, (-1 : Int32), rfl, by first | omega | (dsimp only; omega) | trivial, by refine ⟨?_, ?_⟩; (intro L hL hN; have hl := hL.1; rw [ed_paint, if_neg (by omega)]; exact ⟨hL, by show _ = _ + (0 : Int); omega, by show _ = _ + (0 : Int) * _; omega, hN, fun h8 => h8⟩); (first | (exact Or.inr hc_9) | (exact hc_9) | (exact Or.inl ⟨rfl, rfl, fun _ _ => ⟨rfl, rfl⟩⟩))⟩
  · skip
    have k0 : (0 : Int32).toInt = 0 := rfl
    refine And.intro (fun _ => ?_) (fun c9 => absurd c9 (by decide))
    refine hC.1 1 26 _ _ rfl _ _ _ _ _ ?_
    have km1 : (-1 : Int32).toInt = -1 := rfl
    exact ⟨rfl, fun e9 => absurd e9 (by decide), rfl, K, nn, dn, q, w, e, v, f, rfl, hI, hs, cw_X_r, rfl, (-1 : Int32), rfl, by first | omega | (dsimp only; omega) | trivial, by refine ⟨?_, ?_⟩; (intro L hL hN; have hl := hL.1; rw [ed_paint, if_neg (by omega)]; exact ⟨hL, by show _ = _ + (0 : Int); omega, by show _ = _ + (0 : Int) * _; omega, hN, fun h8 => h8⟩); (first | (exact Or.inr hc_9) | (exact hc_9) | (exact Or.inl ⟨rfl, rfl, fun _ _ => ⟨rfl, rfl⟩⟩))⟩

set_option maxRecDepth 100000 in
set_option maxHeartbeats 2000000 in
theorem Z_X10_put (hI : cw_I K nn dn q w e) (hs : cw_S v f) (x1 : Int32) (x2 : Int32) (p0 : (w 0).toInt < 100000) : pm_Mt l g 12 5 4 485 [.ref (q 0), .int x1, .int x2] (cw A0 g K nn dn q w e v f) (cw_Qb A0 g K nn q (fun r K2 nn2 dn2 w2 e2 => e2 15 = e 15 ∧ (∃ x : Int32, r = some (.int x) ∧ (((w2 0).toInt ≤ (w 0).toInt + 1 ∧ (w 0).toInt ≤ (w2 0).toInt ∧ (w2 3).toInt = (w 3).toInt) ∧ ((∀ L, rp (w nn) (e (nn + 1)) (e (nn + 2)) L → (nn : Int) = 40 + 4 * ((w 0).toInt % 41) → rp (w2 nn2) (e2 (nn2 + 1)) (e2 (nn2 + 2)) ((ed_paint L x1 x1 x2).getD L) ∧ (w2 0).toInt = (w 0).toInt + edn (ed_paint L x1 x1 x2) ∧ (w2 1).toInt = (w 1).toInt + edn (ed_paint L x1 x1 x2) * (0) ∧ (nn2 : Int) = 40 + 4 * ((w2 0).toInt % 41) ∧ (bd (w nn) (e (nn + 1)) (e (nn + 3)) → bd (w2 nn2) (e2 (nn2 + 1)) (e2 (nn2 + 3)))) ∧ HCe K nn w e w2 e2 nn2 x))))) := by
  refine mt_X10_put rfl (fun J hC => ?_)
  have ro_nn : cw_ro K nn := hI.2.1.2.1
  have ro_dn : cw_ro K dn := hI.2.1.2.2.1
  have hu1 := hI.2.1
  unfold cw_W at hu1
  have zs2 := cw_sz hI ro_nn
  have zs3 := cw_sz hI ro_dn
  have rg_x1 := pm_rng x1
  have rg_x2 := pm_rng x2
  refine hC.1 0 0 _ _ rfl _ _ _ _ _ ?_
  refine And.intro (Exists.intro _ (cw_o0 hI.1)) (Exists.intro _ (Exists.intro _ (Exists.intro _ (Exists.intro _ (And.intro (Z_X10_paint hI hs x1 x1 x2 (by omega)) (And.intro rfl (fun r9 A9 h9 => ?_)))))))
  obtain ⟨K5, nn5, dn5, q5, w5, e5, v5, f5, rfl, hI5, hs5, hX5, hy5, y4, rfl, by4⟩ := h9
  have hq5_0 : q 0 = q5 0 := (hX5.2.1 0 (by omega)).symm
  rw [hq5_0]
  have hx5 : e5 15 = e 15 := hy5.trans rfl
  have hu6 := hI5.2.1
  unfold cw_W at hu6
  have hb_4 := by4.2.1
  have ht_4 := by4.2.2
  have hc_9 := ht_4
  exact ⟨rfl, fun e9 => absurd e9 (by decide), rfl, K5, nn5, dn5, q5, w5, e5, v5, f5, rfl, hI5, hs5, hX5, hx5, y4, rfl, by first | omega | (dsimp only; omega) | trivial, by refine ⟨?_, ?_⟩; (exact hb_4); (first | (exact Or.inr hc_9) | (exact hc_9) | (exact Or.inl ⟨rfl, rfl, fun _ _ => ⟨rfl, rfl⟩⟩))⟩

end
end
section
section
variable {l : Launch} {g : pm_G} {A0 : pm_H} {K nn dn : Nat} {q : Nat → Nat} {w : Nat → Int32} {e : Nat → Nat → Int32} {v : Nat → Int32} {f : Nat → Nat → Int32}
set_option maxRecDepth 100000 in
set_option maxHeartbeats 2000000 in
theorem Z_X10_turn (hI : cw_I K nn dn q w e) (hs : cw_S v f) (x1 : Int32) (x2 : Int32) (p0 : (w 0).toInt < 100000) : pm_Mt l g 30 4 4 485 [.ref (q 0), .int x1, .int x2] (cw A0 g K nn dn q w e v f) (cw_Qb A0 g K nn q (fun r K2 nn2 dn2 w2 e2 => e2 15 = e 15 ∧ (∃ x : Int32, r = some (.int x) ∧ (((w2 0).toInt ≤ (w 0).toInt + 1 ∧ (w 0).toInt ≤ (w2 0).toInt ∧ (w2 3).toInt = (w 3).toInt) ∧ ((∀ L, rp (w nn) (e (nn + 1)) (e (nn + 2)) L → (nn : Int) = 40 + 4 * ((w 0).toInt % 41) → rp (w2 nn2) (e2 (nn2 + 1)) (e2 (nn2 + 2)) ((ed_turn L x1 x2).getD L) ∧ (w2 0).toInt = (w 0).toInt + edn (ed_turn L x1 x2) ∧ (w2 1).toInt = (w 1).toInt + edn (ed_turn L x1 x2) * (0) ∧ (nn2 : Int) = 40 + 4 * ((w2 0).toInt % 41) ∧ (bd (w nn) (e (nn + 1)) (e (nn + 3)) → bd (w2 nn2) (e2 (nn2 + 1)) (e2 (nn2 + 3)))) ∧ HCe K nn w e w2 e2 nn2 x))))) := by
  refine mt_X10_turn rfl (fun J hC => ?_)
  have ro_nn : cw_ro K nn := hI.2.1.2.1
  have ro_dn : cw_ro K dn := hI.2.1.2.2.1
  have hu1 := hI.2.1
  unfold cw_W at hu1
  have zs2 := cw_sz hI ro_nn
  have zs3 := cw_sz hI ro_dn
  have rg_x1 := pm_rng x1
  have rg_x2 := pm_rng x2
  refine hC.1 0 0 _ _ rfl _ _ _ _ _ ?_
  refine Exists.intro _ (And.intro (cw_o0 hI.1) ?_)
  refine Exists.intro _ (And.intro (cw_o1 hI.1) ?_)
  refine And.intro (Exists.intro _ (cw_ro_o hI.1 ro_nn)) (Exists.intro _ (Exists.intro _ (Exists.intro _ (Exists.intro _ (And.intro (c_X7_isSpan hI hs ro_nn x1 x2 ) (And.intro rfl (fun r9 A9 h9 => ?_)))))))
  rcases h9 with ⟨y4, rfl, rfl, ⟨rfl, by4⟩ | ⟨rfl, by4⟩⟩
  · skip
    have k1 : (1 : Int32).toInt = 1 := rfl
    refine And.intro (fun _ => ?_) (fun c9 => absurd c9 (by decide))
    refine hC.1 1 19 _ _ rfl _ _ _ _ _ ?_
    refine Exists.intro _ (And.intro (cw_o0 hI.1) ?_)
    refine And.intro (Exists.intro _ (cw_o1 hI.1)) (Exists.intro _ (Exists.intro _ (Exists.intro _ (Exists.intro _ (And.intro (F_X9_begin hI hs  (by omega)) (And.intro rfl (fun r9 A9 h9 => ?_)))))))
    obtain ⟨K7, dn7, q7, w7, e7, rfl, rfl, hI7, hX7, hk7, hw7, hy7, hdn7, hfm7, hz7⟩ := h9
    have hq7_0 : q 0 = q7 0 := (hX7.2.1 0 (by omega)).symm
    have hq7_nn : q nn = q7 nn := (hX7.2.1 nn (by omega)).symm
    rw [hq7_0, hq7_nn]
    have hw7_0 := congrArg Int32.toInt hw7.1
    have hw7_1 := congrArg Int32.toInt hw7.2.1
    have hw7_3 := congrArg Int32.toInt hw7.2.2.2
    have ro7 : cw_ro K7 dn7 := hI7.2.1.2.2.1
    have rn7 : cw_ro K7 nn := hI7.2.1.2.1
    have hx7 : e7 15 = e 15 := hy7.trans rfl
    have hu8 := hI7.2.1
    unfold cw_W at hu8
    have zs9 := cw_sz hI7 rn7
    have zs10 := cw_sz hI7 ro7
    have hz9 := hz7
    have hL7 : ∀ L, rp (w nn) (e (nn + 1)) (e (nn + 2)) L → (nn : Int) = 40 + 4 * ((w 0).toInt % 41) → nn ≠ dn7 ∧ rp (w7 nn) (e7 (nn + 1)) (e7 (nn + 2)) L := hL_b ro_nn ro7 hdn7 hfm7
    have hF7 : FRO K w e w7 e7 dn7 := hfm7
    refine Exists.intro _ (And.intro (cw_o0 hI7.1) ?_)
    have k0 : (0 : Int32).toInt = 0 := rfl
    intro m11 em_33
    try have e11 : m11.toInt = (x1).toInt - (1) := by rw [em_33]; exact pm_subc _ _ (1) rfl (by omega) (by omega)
    have hp_34 := hL7
    refine And.intro (Exists.intro _ (cw_o1 hI7.1)) (Exists.intro _ (Exists.intro _ (Exists.intro _ (Exists.intro _ (And.intro (F_X9_keep hI7 hs (0 : Int32) m11 ) (And.intro rfl (fun r9 A9 h9 => ?_)))))))
    rcases h9 with ⟨w13, e13, v13, f13, rfl, hI13, hs13, hy13, rfl, by12⟩
    have hx13 : e13 15 = e 15 := hy13.trans hx7
    have hu14 := hI13.2.1
    unfold cw_W at hu14
    have zs15 := cw_sz hI13 rn7
    have zs16 := cw_sz hI13 ro7
    clear hu8 zs9 zs10
    have hb_34 := by12.2
    have hF13 : FRO K w e w13 e13 dn7 := FRO_s hF7 hb_34.1
    have hL13 : ∀ L, rp (w nn) (e (nn + 1)) (e (nn + 2)) L → (nn : Int) = 40 + 4 * ((w 0).toInt % 41) → nn ≠ dn7 ∧ rp (w13 nn) (e13 (nn + 1)) (e13 (nn + 2)) L := hL_k hL7 rn7 ro7 hb_34.1
    have lp18 : ∀ (n : Nat) (z4_40 : Int32) (w17 : Nat → Int32) (e17 : Nat → Nat → Int32) (v17 : Nat → Int32) (f17 : Nat → Nat → Int32), cw_I K7 nn dn7 q7 w17 e17 → e17 15 = e 15 → (∀ L, rp (w nn) (e (nn + 1)) (e (nn + 2)) L → (nn : Int) = 40 + 4 * ((w 0).toInt % 41) → nn ≠ dn7 ∧ rp (w17 nn) (e17 (nn + 1)) (e17 (nn + 2)) L) → FRO K w e w17 e17 dn7 → cw_S v17 f17 → (x1.toInt - 1 ≤ z4_40.toInt ∧ z4_40.toInt ≤ x2.toInt) → (∀ L, rp (w nn) (e (nn + 1)) (e (nn + 2)) L → (nn : Int) = 40 + 4 * ((w 0).toInt % 41) → rp (w17 dn7) (e17 (dn7 + 1)) (e17 (dn7 + 2)) (si L 0 x1.toInt ++ (si L (z4_40.toInt + 1) (x2.toInt + 1)).reverse)) → (w17 0).toInt = (w 0).toInt → (w17 1).toInt = (w 1).toInt → (w17 3).toInt = (w 3).toInt → z4_40.toInt + 1 < (n : Int) → J 40 [some (.ref (q7 0)), some (.int x1), some (.int x2), some (.ref (q7 nn)), some (.int z4_40)] [] (cw A0 g K7 nn dn7 q7 w17 e17 v17 f17) 4 485 := by
      intro n
      induction n with
      | zero =>
        intro z4_40 w17 e17 v17 f17 hI17 hx17 hL17 hF17 hs17 j0_40 j1_40 j2_40 j3_40 j4_40 j5_40
        omega
      | succ n ih19 =>
        intro z4_40 w17 e17 v17 f17 hI17 hx17 hL17 hF17 hs17 j0_40 j1_40 j2_40 j3_40 j4_40 j5_40
        have hu20 := hI17.2.1
        unfold cw_W at hu20
        have zs21 := cw_sz hI17 rn7
        have zs22 := cw_sz hI17 ro7
        clear hu14 zs15 zs16
        refine hC.1 2 40 _ _ rfl _ _ _ _ _ ?_
        refine And.intro (fun c23 => ?_) (fun c23 => ?_)
        · skip
          refine hC.1 3 63 _ _ rfl _ _ _ _ _ ?_
          refine Exists.intro _ (And.intro (cw_o0 hI17.1) ?_)
          intro m24 em_69
          try have e24 : m24.toInt = (x2).toInt + (1) := by rw [em_69]; exact pm_addc _ _ (1) rfl (by omega) (by omega)
          refine Exists.intro _ (And.intro (cw_ro_o hI17.1 rn7) ?_)
          have z25 := cw_sz hI17 rn7
          intro m26 em_75
          try have e26 : m26.toInt = ((w17 nn)).toInt - (1) := by rw [em_75]; exact pm_subc _ _ (1) rfl (by omega) (by omega)
          have hp_76 := hL17
          refine And.intro (Exists.intro _ (cw_o1 hI17.1)) (Exists.intro _ (Exists.intro _ (Exists.intro _ (Exists.intro _ (And.intro (F_X9_keep hI17 hs17 m24 m26 ) (And.intro rfl (fun r9 A9 h9 => ?_)))))))
          rcases h9 with ⟨w28, e28, v28, f28, rfl, hI28, hs28, hy28, rfl, by27⟩
          have hx28 : e28 15 = e 15 := hy28.trans hx17
          have hu29 := hI28.2.1
          unfold cw_W at hu29
          have zs30 := cw_sz hI28 rn7
          have zs31 := cw_sz hI28 ro7
          clear hu20 zs21 zs22
          have hb_76 := by27.2
          have hF28 : FRO K w e w28 e28 dn7 := FRO_s hF17 hb_76.1
          have hL28 : ∀ L, rp (w nn) (e (nn + 1)) (e (nn + 2)) L → (nn : Int) = 40 + 4 * ((w 0).toInt % 41) → nn ≠ dn7 ∧ rp (w28 nn) (e28 (nn + 1)) (e28 (nn + 2)) L := hL_k hL17 rn7 ro7 hb_76.1
          refine Exists.intro _ (And.intro (cw_o0 hI28.1) ?_)
          have hp_83 := hL28
          refine And.intro (Exists.intro _ (cw_o1 hI28.1)) (Exists.intro _ (Exists.intro _ (Exists.intro _ (Exists.intro _ (And.intro (Z_X9_finish hI28 hs28  (by omega) (by omega)) (And.intro rfl (fun r9 A9 h9 => ?_)))))))
          rcases h9 with ⟨w33, e33, v33, f33, rfl, hI33, hs33, hy33, y32, rfl, by32⟩
          have hx33 : e33 15 = e 15 := hy33.trans hx28
          have hu34 := hI33.2.1
          unfold cw_W at hu34
          have zs35 := cw_sz hI33 ro7
          have zs36 := cw_sz hI33 ro7
          clear hu29 zs30 zs31
          have hb_83 := by32.2.1
          have ht_83 := by32.2.2
          have hF33 : FRO K w e w33 e33 dn7 := FRO_s hF28 hb_83.1
          have hc_9 : HCn K w e w33 e33 dn7 y32 := ⟨by omega, hF33, ht_83⟩
          exact ⟨rfl, fun e9 => absurd e9 (by decide), rfl, K7, dn7, dn7, q7, w33, e33, v33, f33, rfl, hI33, hs33, hX7, hx33, y32, rfl, by first | omega | (dsimp only; omega) | trivial, by refine ⟨?_, ?_⟩; (intro L hL hN; have hl := hL.1; rw [ed_turn, if_pos (by omega)]; have t2 := j1_40 L hL hN; rw [show z4_40.toInt + 1 = x1.toInt by omega] at t2; have s1 := si_len (L := L) (a := 0) (b := x1.toInt) (by omega) (by omega) (by omega); have s2 := si_len (L := L) (a := x1.toInt) (b := x2.toInt + 1) (by omega) (by omega) (by omega); have q3 := hp_76 L hL hN; have z3 := q3.2.1; have t3 := hb_76.2 L (_) (x2.toInt + 1) (L.length) q3.2 q3.1 (by omega) (by omega) (by omega) (by omega) (by omega) (by first | omega | (simp only [List.length_append, List.length_nil, List.length_cons, List.length_map, List.length_reverse, nw_len, dr_len]; omega)) t2; have k3 := si_len (L := L) (a := x2.toInt + 1) (b := L.length) (by omega) (by omega) (by omega); exact ⟨hb_83.2.1 _ t3, by show _ = _ + (1 : Int); omega, by show _ = _ + (1 : Int) * _; omega, by omega, fun _ => hb_83.2.2⟩); (first | (exact Or.inr hc_9) | (exact hc_9) | (exact Or.inl ⟨rfl, rfl, fun _ _ => ⟨rfl, rfl⟩⟩))⟩
        · skip
          refine Exists.intro _ (And.intro (cw_o0 hI17.1) ?_)
          have hp_54 := hL17
          refine And.intro (Exists.intro _ (cw_o1 hI17.1)) (Exists.intro _ (Exists.intro _ (Exists.intro _ (Exists.intro _ (And.intro (F_X9_keep hI17 hs17 z4_40 z4_40 ) (And.intro rfl (fun r9 A9 h9 => ?_)))))))
          rcases h9 with ⟨w38, e38, v38, f38, rfl, hI38, hs38, hy38, rfl, by37⟩
          have hx38 : e38 15 = e 15 := hy38.trans hx17
          have hu39 := hI38.2.1
          unfold cw_W at hu39
          have zs40 := cw_sz hI38 rn7
          have zs41 := cw_sz hI38 ro7
          clear hu20 zs21 zs22
          have hb_54 := by37.2
          have hF38 : FRO K w e w38 e38 dn7 := FRO_s hF17 hb_54.1
          have hL38 : ∀ L, rp (w nn) (e (nn + 1)) (e (nn + 2)) L → (nn : Int) = 40 + 4 * ((w 0).toInt % 41) → nn ≠ dn7 ∧ rp (w38 nn) (e38 (nn + 1)) (e38 (nn + 2)) L := hL_k hL17 rn7 ro7 hb_54.1
          have km1 : (-1 : Int32).toInt = -1 := rfl
          intro m42 em_57
          try have e42 : m42.toInt = (z4_40).toInt + (-1) := by rw [em_57]; exact pm_addc _ _ (-1) rfl (by omega) (by omega)
          exact ih19 m42 w38 e38 v38 f38 hI38 hx38 hL38 hF38 hs38 (by omega) (by intro L hL hN; have hl := hL.1; have q2 := hp_54 L hL hN; have z2 := q2.2.1; have s2 := si_len (L := L) (a := 0) (b := x1.toInt) (by omega) (by omega) (by omega); have s3 := si_len (L := L) (a := z4_40.toInt + 1) (b := x2.toInt + 1) (by omega) (by omega) (by omega); have t2 := hb_54.2 L _ z4_40.toInt (z4_40.toInt + 1) q2.2 q2.1 rfl rfl (by omega) (by omega) (by omega) (by first | omega | (simp only [List.length_append, List.length_nil, List.length_cons, List.length_map, List.length_reverse, nw_len, dr_len]; omega)) (j1_40 L hL hN); rw [show m42.toInt + 1 = z4_40.toInt by omega, si_app (L := L) (a := z4_40.toInt) (m := z4_40.toInt + 1) (b := x2.toInt + 1) (by omega) (by omega) (by omega), List.reverse_append, si_r1 q2.2 (by omega) (by omega), ← List.append_assoc]; exact t2) (by omega) (by omega) (by omega) (by omega)
    exact lp18 (x2.toInt + 1).toNat.succ x2 w13 e13 v13 f13 hI13 hx13 hL13 hF13 hs13 (by omega) (by intro L hL hN; have hl := hL.1; have q1 := hp_34 L hL hN; have z1 := q1.2.1; have t1 := hb_34.2 L ([]) (0) (x1.toInt) q1.2 q1.1 (by omega) (by omega) (by omega) (by omega) (by omega) (by first | omega | (simp only [List.length_append, List.length_nil, List.length_cons, List.length_map, List.length_reverse, nw_len, dr_len]; omega)) (rp_0 hz9); have k1 := si_len (L := L) (a := 0) (b := x1.toInt) (by omega) (by omega) (by omega); rw [List.nil_append] at t1; rw [si_n (L := L) (a := x2.toInt + 1) (b := x2.toInt + 1) (Int.le_refl _)]; show rp _ _ _ (_ ++ []); rw [List.append_nil]; exact t1) (by omega) (by omega) (by omega) (by omega)
  · skip
    have k0 : (0 : Int32).toInt = 0 := rfl
    refine And.intro (fun c9 => absurd c9 (by decide)) (fun _ => ?_)
    have km1 : (-1 : Int32).toInt = -1 := rfl
    exact ⟨rfl, fun e9 => absurd e9 (by decide), rfl, K, nn, dn, q, w, e, v, f, rfl, hI, hs, cw_X_r, rfl, (-1 : Int32), rfl, by first | omega | (dsimp only; omega) | trivial, by refine ⟨?_, ?_⟩; (intro L hL hN; have hl := hL.1; rw [ed_turn, if_neg (by omega)]; exact ⟨hL, by show _ = _ + (0 : Int); omega, by show _ = _ + (0 : Int) * _; omega, hN, fun h8 => h8⟩); (first | (exact Or.inr hc_9) | (exact hc_9) | (exact Or.inl ⟨rfl, rfl, fun _ _ => ⟨rfl, rfl⟩⟩))⟩

set_option maxRecDepth 100000 in
set_option maxHeartbeats 2000000 in
theorem Z_X10_copy (hI : cw_I K nn dn q w e) (hs : cw_S v f) (x1 : Int32) (x2 : Int32) (x3 : Int32) (p0 : (w 0).toInt < 100000) : pm_Mt l g 36 4 4 485 [.ref (q 0), .int x1, .int x2, .int x3] (cw A0 g K nn dn q w e v f) (cw_Qb A0 g K nn q (fun r K2 nn2 dn2 w2 e2 => e2 15 = e 15 ∧ (∃ x : Int32, r = some (.int x) ∧ (((w2 0).toInt ≤ (w 0).toInt + 1 ∧ (w 0).toInt ≤ (w2 0).toInt ∧ (w2 3).toInt = (w 3).toInt) ∧ ((∀ L, rp (w nn) (e (nn + 1)) (e (nn + 2)) L → (nn : Int) = 40 + 4 * ((w 0).toInt % 41) → rp (w2 nn2) (e2 (nn2 + 1)) (e2 (nn2 + 2)) ((ed_copy L (w 1) x1 x2 x3).getD L) ∧ (w2 0).toInt = (w 0).toInt + edn (ed_copy L (w 1) x1 x2 x3) ∧ (w2 1).toInt = (w 1).toInt + edn (ed_copy L (w 1) x1 x2 x3) * (x2.toInt - x1.toInt + 1) ∧ (nn2 : Int) = 40 + 4 * ((w2 0).toInt % 41) ∧ (bd (w nn) (e (nn + 1)) (e (nn + 3)) → bd (w2 nn2) (e2 (nn2 + 1)) (e2 (nn2 + 3)))) ∧ HCe K nn w e w2 e2 nn2 x))))) := by
  refine mt_X10_copy rfl (fun J hC => ?_)
  have ro_nn : cw_ro K nn := hI.2.1.2.1
  have ro_dn : cw_ro K dn := hI.2.1.2.2.1
  have hu1 := hI.2.1
  unfold cw_W at hu1
  have zs2 := cw_sz hI ro_nn
  have zs3 := cw_sz hI ro_dn
  have rg_x1 := pm_rng x1
  have rg_x2 := pm_rng x2
  have rg_x3 := pm_rng x3
  refine hC.1 0 0 _ _ rfl _ _ _ _ _ ?_
  refine Exists.intro _ (And.intro (cw_o0 hI.1) ?_)
  refine Exists.intro _ (And.intro (cw_o1 hI.1) ?_)
  refine And.intro (Exists.intro _ (cw_ro_o hI.1 ro_nn)) (Exists.intro _ (Exists.intro _ (Exists.intro _ (Exists.intro _ (And.intro (c_X7_isSpan hI hs ro_nn x1 x2 ) (And.intro rfl (fun r9 A9 h9 => ?_)))))))
  rcases h9 with ⟨y4, rfl, rfl, ⟨rfl, by4⟩ | ⟨rfl, by4⟩⟩
  · skip
    have k1 : (1 : Int32).toInt = 1 := rfl
    refine And.intro (fun c9 => absurd c9 (by decide)) (fun _ => ?_)
    refine And.intro (Exists.intro _ (cw_ro_o hI.1 ro_nn)) (Exists.intro _ (Exists.intro _ (Exists.intro _ (Exists.intro _ (And.intro (c_X7_isGap hI hs ro_nn x3 ) (And.intro rfl (fun r9 A9 h9 => ?_)))))))
    rcases h9 with ⟨y6, rfl, rfl, ⟨rfl, by6⟩ | ⟨rfl, by6⟩⟩
    · skip
      refine And.intro (fun c9 => absurd c9 (by decide)) (fun _ => ?_)
      refine Exists.intro _ (And.intro (cw_o0 hI.1) ?_)
      intro m8 em_34
      try have e8 : m8.toInt = (x2).toInt - (x1).toInt := by rw [em_34]; exact pm_sub _ _ (by omega) (by omega)
      intro m9 em_36
      try have e9 : m9.toInt = (m8).toInt + (1) := by rw [em_36]; exact pm_addc _ _ (1) rfl (by omega) (by omega)
      refine And.intro (Exists.intro _ (cw_o1 hI.1)) (Exists.intro _ (Exists.intro _ (Exists.intro _ (Exists.intro _ (And.intro (c_X9_hasRoomFor hI hs m9 (by omega)) (And.intro rfl (fun r9 A9 h9 => ?_)))))))
      rcases h9 with ⟨y10, rfl, rfl, ⟨rfl, by10⟩ | ⟨rfl, by10⟩⟩
      · skip
        refine And.intro (fun _ => ?_) (fun c9 => absurd c9 (by decide))
        refine hC.1 2 45 _ _ rfl _ _ _ _ _ ?_
        refine Exists.intro _ (And.intro (cw_o0 hI.1) ?_)
        refine And.intro (Exists.intro _ (cw_o1 hI.1)) (Exists.intro _ (Exists.intro _ (Exists.intro _ (Exists.intro _ (And.intro (F_X9_begin hI hs  (by omega)) (And.intro rfl (fun r9 A9 h9 => ?_)))))))
        obtain ⟨K13, dn13, q13, w13, e13, rfl, rfl, hI13, hX13, hk13, hw13, hy13, hdn13, hfm13, hz13⟩ := h9
        have hq13_0 : q 0 = q13 0 := (hX13.2.1 0 (by omega)).symm
        have hq13_nn : q nn = q13 nn := (hX13.2.1 nn (by omega)).symm
        rw [hq13_0, hq13_nn]
        have hw13_0 := congrArg Int32.toInt hw13.1
        have hw13_1 := congrArg Int32.toInt hw13.2.1
        have hw13_3 := congrArg Int32.toInt hw13.2.2.2
        have ro13 : cw_ro K13 dn13 := hI13.2.1.2.2.1
        have rn13 : cw_ro K13 nn := hI13.2.1.2.1
        have hx13 : e13 15 = e 15 := hy13.trans rfl
        have hu14 := hI13.2.1
        unfold cw_W at hu14
        have zs15 := cw_sz hI13 rn13
        have zs16 := cw_sz hI13 ro13
        have hz9 := hz13
        have hL13 : ∀ L, rp (w nn) (e (nn + 1)) (e (nn + 2)) L → (nn : Int) = 40 + 4 * ((w 0).toInt % 41) → nn ≠ dn13 ∧ rp (w13 nn) (e13 (nn + 1)) (e13 (nn + 2)) L := hL_b ro_nn ro13 hdn13 hfm13
        have hF13 : FRO K w e w13 e13 dn13 := hfm13
        refine Exists.intro _ (And.intro (cw_o0 hI13.1) ?_)
        have k0 : (0 : Int32).toInt = 0 := rfl
        intro m17 em_59
        try have e17 : m17.toInt = (x3).toInt - (1) := by rw [em_59]; exact pm_subc _ _ (1) rfl (by omega) (by omega)
        have hp_60 := hL13
        refine And.intro (Exists.intro _ (cw_o1 hI13.1)) (Exists.intro _ (Exists.intro _ (Exists.intro _ (Exists.intro _ (And.intro (F_X9_keep hI13 hs (0 : Int32) m17 ) (And.intro rfl (fun r9 A9 h9 => ?_)))))))
        rcases h9 with ⟨w19, e19, v19, f19, rfl, hI19, hs19, hy19, rfl, by18⟩
        have hx19 : e19 15 = e 15 := hy19.trans hx13
        have hu20 := hI19.2.1
        unfold cw_W at hu20
        have zs21 := cw_sz hI19 rn13
        have zs22 := cw_sz hI19 ro13
        clear hu14 zs15 zs16
        have hb_60 := by18.2
        have hF19 : FRO K w e w19 e19 dn13 := FRO_s hF13 hb_60.1
        have hL19 : ∀ L, rp (w nn) (e (nn + 1)) (e (nn + 2)) L → (nn : Int) = 40 + 4 * ((w 0).toInt % 41) → nn ≠ dn13 ∧ rp (w19 nn) (e19 (nn + 1)) (e19 (nn + 2)) L := hL_k hL13 rn13 ro13 hb_60.1
        have lp24 : ∀ (n : Nat) (z5_66 : Int32) (w23 : Nat → Int32) (e23 : Nat → Nat → Int32) (v23 : Nat → Int32) (f23 : Nat → Nat → Int32), cw_I K13 nn dn13 q13 w23 e23 → e23 15 = e 15 → (∀ L, rp (w nn) (e (nn + 1)) (e (nn + 2)) L → (nn : Int) = 40 + 4 * ((w 0).toInt % 41) → nn ≠ dn13 ∧ rp (w23 nn) (e23 (nn + 1)) (e23 (nn + 2)) L) → FRO K w e w23 e23 dn13 → cw_S v23 f23 → (x1.toInt ≤ z5_66.toInt ∧ z5_66.toInt ≤ x2.toInt + 1) → ((w23 1).toInt = (w 1).toInt + (z5_66.toInt - x1.toInt)) → (∀ L, rp (w nn) (e (nn + 1)) (e (nn + 2)) L → (nn : Int) = 40 + 4 * ((w 0).toInt % 41) → rp (w23 dn13) (e23 (dn13 + 1)) (e23 (dn13 + 2)) (si L 0 x3.toInt ++ nw_l (w 1) ((si L x1.toInt z5_66.toInt).map Prod.fst))) → (w23 0).toInt = (w 0).toInt → (w23 3).toInt = (w 3).toInt → 200 - z5_66.toInt < (n : Int) → J 66 [some (.ref (q13 0)), some (.int x1), some (.int x2), some (.int x3), some (.ref (q13 nn)), some (.int z5_66)] [] (cw A0 g K13 nn dn13 q13 w23 e23 v23 f23) 4 485 := by
          intro n
          induction n with
          | zero =>
            intro z5_66 w23 e23 v23 f23 hI23 hx23 hL23 hF23 hs23 j0_66 j1_66 j2_66 j3_66 j4_66 j5_66
            omega
          | succ n ih25 =>
            intro z5_66 w23 e23 v23 f23 hI23 hx23 hL23 hF23 hs23 j0_66 j1_66 j2_66 j3_66 j4_66 j5_66
            obtain ⟨g66, eg66⟩ : ∃ z9, z9 = w23 1 := ⟨_, rfl⟩
            have hu26 := hI23.2.1
            unfold cw_W at hu26
            have zs27 := cw_sz hI23 rn13
            have zs28 := cw_sz hI23 ro13
            clear hu20 zs21 zs22
            refine hC.1 3 66 _ _ rfl _ _ _ _ _ ?_
            refine And.intro (fun c29 => ?_) (fun c29 => ?_)
            · skip
              refine hC.1 4 93 _ _ rfl _ _ _ _ _ ?_
              refine Exists.intro _ (And.intro (cw_o0 hI23.1) ?_)
              refine Exists.intro _ (And.intro (cw_ro_o hI23.1 rn13) ?_)
              have z30 := cw_sz hI23 rn13
              intro m31 em_104
              try have e31 : m31.toInt = ((w23 nn)).toInt - (1) := by rw [em_104]; exact pm_subc _ _ (1) rfl (by omega) (by omega)
              have hp_105 := hL23
              refine And.intro (Exists.intro _ (cw_o1 hI23.1)) (Exists.intro _ (Exists.intro _ (Exists.intro _ (Exists.intro _ (And.intro (F_X9_keep hI23 hs23 x3 m31 ) (And.intro rfl (fun r9 A9 h9 => ?_)))))))
              rcases h9 with ⟨w33, e33, v33, f33, rfl, hI33, hs33, hy33, rfl, by32⟩
              have hx33 : e33 15 = e 15 := hy33.trans hx23
              have hu34 := hI33.2.1
              unfold cw_W at hu34
              have zs35 := cw_sz hI33 rn13
              have zs36 := cw_sz hI33 ro13
              clear hu26 zs27 zs28
              have hb_105 := by32.2
              have hF33 : FRO K w e w33 e33 dn13 := FRO_s hF23 hb_105.1
              have hL33 : ∀ L, rp (w nn) (e (nn + 1)) (e (nn + 2)) L → (nn : Int) = 40 + 4 * ((w 0).toInt % 41) → nn ≠ dn13 ∧ rp (w33 nn) (e33 (nn + 1)) (e33 (nn + 2)) L := hL_k hL23 rn13 ro13 hb_105.1
              refine Exists.intro _ (And.intro (cw_o0 hI33.1) ?_)
              have hp_112 := hL33
              refine And.intro (Exists.intro _ (cw_o1 hI33.1)) (Exists.intro _ (Exists.intro _ (Exists.intro _ (Exists.intro _ (And.intro (Z_X9_finish hI33 hs33  (by omega) (by omega)) (And.intro rfl (fun r9 A9 h9 => ?_)))))))
              rcases h9 with ⟨w38, e38, v38, f38, rfl, hI38, hs38, hy38, y37, rfl, by37⟩
              have hx38 : e38 15 = e 15 := hy38.trans hx33
              have hu39 := hI38.2.1
              unfold cw_W at hu39
              have zs40 := cw_sz hI38 ro13
              have zs41 := cw_sz hI38 ro13
              clear hu34 zs35 zs36
              have hb_112 := by37.2.1
              have ht_112 := by37.2.2
              have hF38 : FRO K w e w38 e38 dn13 := FRO_s hF33 hb_112.1
              have hc_9 : HCn K w e w38 e38 dn13 y37 := ⟨by omega, hF38, ht_112⟩
              exact ⟨rfl, fun e9 => absurd e9 (by decide), rfl, K13, dn13, dn13, q13, w38, e38, v38, f38, rfl, hI38, hs38, hX13, hx38, y37, rfl, by first | omega | (dsimp only; omega) | trivial, by refine ⟨?_, ?_⟩; (intro L hL hN; have hl := hL.1; rw [ed_copy, if_pos (by omega)]; have t2 := j2_66 L hL hN; rw [show z5_66.toInt = x2.toInt + 1 by omega] at t2; have s1 := si_len (L := L) (a := 0) (b := x3.toInt) (by omega) (by omega) (by omega); have s2 := si_len (L := L) (a := x1.toInt) (b := x2.toInt + 1) (by omega) (by omega) (by omega); have q3 := hp_105 L hL hN; have z3 := q3.2.1; have t3 := hb_105.2 L (_) (x3.toInt) (L.length) q3.2 q3.1 (by omega) (by omega) (by omega) (by omega) (by omega) (by first | omega | (simp only [List.length_append, List.length_nil, List.length_cons, List.length_map, List.length_reverse, nw_len, dr_len]; omega)) t2; have k3 := si_len (L := L) (a := x3.toInt) (b := L.length) (by omega) (by omega) (by omega); exact ⟨hb_112.2.1 _ t3, by show _ = _ + (1 : Int); omega, by show _ = _ + (1 : Int) * _; omega, by omega, fun _ => hb_112.2.2⟩); (first | (exact Or.inr hc_9) | (exact hc_9) | (exact Or.inl ⟨rfl, rfl, fun _ _ => ⟨rfl, rfl⟩⟩))⟩
            · skip
              refine Exists.intro _ (And.intro (cw_o0 hI23.1) ?_)
              refine Exists.intro _ (And.intro (cw_ro_o hI23.1 rn13) ?_)
              refine Exists.intro _ (Exists.intro _ (And.intro (Or.inl (cw_ro_1 hI23.1 rn13)) (And.intro (by omega) ?_)))
              have w42 := cw_col hI23 rn13 (z5_66).toInt.toNat
              have hp_84 := hL23
              refine And.intro (Exists.intro _ (cw_o1 hI23.1)) (Exists.intro _ (Exists.intro _ (Exists.intro _ (Exists.intro _ (And.intro (F_X9_add hI23 hs23 (e23 (nn + 1) (z5_66).toInt.toNat) (by omega) (by omega)) (And.intro rfl (fun r9 A9 h9 => ?_)))))))
              rcases h9 with ⟨w44, e44, v44, f44, rfl, hI44, hs44, hy44, rfl, by43⟩
              have hx44 : e44 15 = e 15 := hy44.trans hx23
              have hu45 := hI44.2.1
              unfold cw_W at hu45
              have zs46 := cw_sz hI44 rn13
              have zs47 := cw_sz hI44 ro13
              clear hu26 zs27 zs28
              have hb_84 := by43.2
              have hF44 : FRO K w e w44 e44 dn13 := FRO_s hF23 hb_84.1
              have hL44 : ∀ L, rp (w nn) (e (nn + 1)) (e (nn + 2)) L → (nn : Int) = 40 + 4 * ((w 0).toInt % 41) → nn ≠ dn13 ∧ rp (w44 nn) (e44 (nn + 1)) (e44 (nn + 2)) L := hL_k hL23 rn13 ro13 hb_84.1
              intro m48 em_87
              try have e48 : m48.toInt = (z5_66).toInt + (1) := by rw [em_87]; exact pm_addc _ _ (1) rfl (by omega) (by omega)
              exact ih25 m48 w44 e44 v44 f44 hI44 hx44 hL44 hF44 hs44 (by omega) (by omega) (by intro L hL hN; have hl := hL.1; have q2 := hp_84 L hL hN; have z2 := q2.2.1; have s2 := si_len (L := L) (a := 0) (b := x3.toInt) (by omega) (by omega) (by omega); have s3 := si_len (L := L) (a := x1.toInt) (b := z5_66.toInt) (by omega) (by omega) (by omega); have t2 := hb_84.2 _ (j2_66 L hL hN) (by first | omega | (simp only [List.length_append, List.length_nil, List.length_cons, List.length_map, List.length_reverse, nw_len, dr_len]; omega)); rw [← eg66] at t2; rw [show m48.toInt = z5_66.toInt + 1 by omega, si_s q2.2 (a := x1.toInt) (z := z5_66.toInt) (by omega) (by omega) (by omega), List.map_append, List.map_cons, List.map_nil, nw_app (g2 := g66) (by rw [eg66, List.length_map]; omega) (by rw [List.length_map]; omega), ← List.append_assoc]; exact t2) (by omega) (by omega) (by omega)
        exact lp24 (200 - x1.toInt).toNat.succ x1 w19 e19 v19 f19 hI19 hx19 hL19 hF19 hs19 (by omega) (by omega) (by intro L hL hN; have hl := hL.1; have q1 := hp_60 L hL hN; have z1 := q1.2.1; have t1 := hb_60.2 L ([]) (0) (x3.toInt) q1.2 q1.1 (by omega) (by omega) (by omega) (by omega) (by omega) (by first | omega | (simp only [List.length_append, List.length_nil, List.length_cons, List.length_map, List.length_reverse, nw_len, dr_len]; omega)) (rp_0 hz9); have k1 := si_len (L := L) (a := 0) (b := x3.toInt) (by omega) (by omega) (by omega); rw [List.nil_append] at t1; rw [si_n (L := L) (a := x1.toInt) (b := x1.toInt) (Int.le_refl _)]; show rp _ _ _ (_ ++ []); rw [List.append_nil]; exact t1) (by omega) (by omega) (by omega)
      · skip
        have k0 : (0 : Int32).toInt = 0 := rfl
        refine And.intro (fun c9 => absurd c9 (by decide)) (fun _ => ?_)
        refine hC.1 1 43 _ _ rfl _ _ _ _ _ ?_
        have km1 : (-1 : Int32).toInt = -1 := rfl
        exact ⟨rfl, fun e9 => absurd e9 (by decide), rfl, K, nn, dn, q, w, e, v, f, rfl, hI, hs, cw_X_r, rfl, (-1 : Int32), rfl, by first | omega | (dsimp only; omega) | trivial, by refine ⟨?_, ?_⟩; (intro L hL hN; have hl := hL.1; rw [ed_copy, if_neg (by omega)]; exact ⟨hL, by show _ = _ + (0 : Int); omega, by show _ = _ + (0 : Int) * _; omega, hN, fun h8 => h8⟩); (first | (exact Or.inr hc_9) | (exact hc_9) | (exact Or.inl ⟨rfl, rfl, fun _ _ => ⟨rfl, rfl⟩⟩))⟩
    · skip
      have k0 : (0 : Int32).toInt = 0 := rfl
      refine And.intro (fun _ => ?_) (fun c9 => absurd c9 (by decide))
      refine hC.1 1 43 _ _ rfl _ _ _ _ _ ?_
      have km1 : (-1 : Int32).toInt = -1 := rfl
      exact ⟨rfl, fun e9 => absurd e9 (by decide), rfl, K, nn, dn, q, w, e, v, f, rfl, hI, hs, cw_X_r, rfl, (-1 : Int32), rfl, by first | omega | (dsimp only; omega) | trivial, by refine ⟨?_, ?_⟩; (intro L hL hN; have hl := hL.1; rw [ed_copy, if_neg (by omega)]; exact ⟨hL, by show _ = _ + (0 : Int); omega, by show _ = _ + (0 : Int) * _; omega, hN, fun h8 => h8⟩); (first | (exact Or.inr hc_9) | (exact hc_9) | (exact Or.inl ⟨rfl, rfl, fun _ _ => ⟨rfl, rfl⟩⟩))⟩
  · skip
    have k0 : (0 : Int32).toInt = 0 := rfl
    refine And.intro (fun _ => ?_) (fun c9 => absurd c9 (by decide))
    refine hC.1 1 43 _ _ rfl _ _ _ _ _ ?_
    have km1 : (-1 : Int32).toInt = -1 := rfl
    exact ⟨rfl, fun e9 => absurd e9 (by decide), rfl, K, nn, dn, q, w, e, v, f, rfl, hI, hs, cw_X_r, rfl, (-1 : Int32), rfl, by first | omega | (dsimp only; omega) | trivial, by refine ⟨?_, ?_⟩; (intro L hL hN; have hl := hL.1; rw [ed_copy, if_neg (by omega)]; exact ⟨hL, by show _ = _ + (0 : Int); omega, by show _ = _ + (0 : Int) * _; omega, hN, fun h8 => h8⟩); (first | (exact Or.inr hc_9) | (exact hc_9) | (exact Or.inl ⟨rfl, rfl, fun _ _ => ⟨rfl, rfl⟩⟩))⟩

end
end
section
section
variable {l : Launch} {g : pm_G} {A0 : pm_H} {K nn dn : Nat} {q : Nat → Nat} {w : Nat → Int32} {e : Nat → Nat → Int32} {v : Nat → Int32} {f : Nat → Nat → Int32}
set_option maxRecDepth 100000 in
set_option maxHeartbeats 2000000 in
theorem Z_X10_merge (hI : cw_I K nn dn q w e) (hs : cw_S v f) (x1 : Int32) (x2 : Int32) (p0 : (w 0).toInt < 100000) : pm_Mt l g 37 4 4 485 [.ref (q 0), .int x1, .int x2] (cw A0 g K nn dn q w e v f) (cw_Qb A0 g K nn q (fun r K2 nn2 dn2 w2 e2 => e2 15 = e 15 ∧ (∃ x : Int32, r = some (.int x) ∧ (((w2 0).toInt ≤ (w 0).toInt + 1 ∧ (w 0).toInt ≤ (w2 0).toInt ∧ (w2 3).toInt = (w 3).toInt) ∧ ((∀ L, rp (w nn) (e (nn + 1)) (e (nn + 2)) L → (nn : Int) = 40 + 4 * ((w 0).toInt % 41) → rp (w2 nn2) (e2 (nn2 + 1)) (e2 (nn2 + 2)) ((ed_merge L x1 x2).getD L) ∧ (w2 0).toInt = (w 0).toInt + edn (ed_merge L x1 x2) ∧ (w2 1).toInt = (w 1).toInt + edn (ed_merge L x1 x2) * (0) ∧ (nn2 : Int) = 40 + 4 * ((w2 0).toInt % 41) ∧ (bd (w nn) (e (nn + 1)) (e (nn + 3)) → bd (w2 nn2) (e2 (nn2 + 1)) (e2 (nn2 + 3)))) ∧ HCe K nn w e w2 e2 nn2 x))))) := by
  refine mt_X10_merge rfl (fun J hC => ?_)
  have ro_nn : cw_ro K nn := hI.2.1.2.1
  have ro_dn : cw_ro K dn := hI.2.1.2.2.1
  have hu1 := hI.2.1
  unfold cw_W at hu1
  have zs2 := cw_sz hI ro_nn
  have zs3 := cw_sz hI ro_dn
  have rg_x1 := pm_rng x1
  have rg_x2 := pm_rng x2
  refine hC.1 0 0 _ _ rfl _ _ _ _ _ ?_
  refine Exists.intro _ (Exists.intro _ (Exists.intro _ (Exists.intro _ (And.intro (F_X10_areUnlikeColours (cw A0 g K nn dn q w e v f) x1 x2 ) (And.intro rfl (fun r9 A9 h9 => ?_))))))
  rcases h9 with ⟨y4, rfl, rfl, ⟨rfl, by4⟩ | ⟨rfl, by4⟩⟩
  · skip
    have k1 : (1 : Int32).toInt = 1 := rfl
    refine And.intro (fun _ => ?_) (fun c9 => absurd c9 (by decide))
    refine hC.1 1 10 _ _ rfl _ _ _ _ _ ?_
    refine Exists.intro _ (And.intro (cw_o0 hI.1) ?_)
    refine Exists.intro _ (And.intro (cw_o1 hI.1) ?_)
    refine Exists.intro _ (And.intro (cw_o0 hI.1) ?_)
    refine And.intro (Exists.intro _ (cw_o1 hI.1)) (Exists.intro _ (Exists.intro _ (Exists.intro _ (Exists.intro _ (And.intro (F_X9_begin hI hs  (by omega)) (And.intro rfl (fun r9 A9 h9 => ?_)))))))
    obtain ⟨K7, dn7, q7, w7, e7, rfl, rfl, hI7, hX7, hk7, hw7, hy7, hdn7, hfm7, hz7⟩ := h9
    have hq7_0 : q 0 = q7 0 := (hX7.2.1 0 (by omega)).symm
    have hq7_nn : q nn = q7 nn := (hX7.2.1 nn (by omega)).symm
    rw [hq7_0, hq7_nn]
    have hw7_0 := congrArg Int32.toInt hw7.1
    have hw7_1 := congrArg Int32.toInt hw7.2.1
    have hw7_3 := congrArg Int32.toInt hw7.2.2.2
    have ro7 : cw_ro K7 dn7 := hI7.2.1.2.2.1
    have rn7 : cw_ro K7 nn := hI7.2.1.2.1
    have hx7 : e7 15 = e 15 := hy7.trans rfl
    have hu8 := hI7.2.1
    unfold cw_W at hu8
    have zs9 := cw_sz hI7 rn7
    have zs10 := cw_sz hI7 ro7
    have hz9 := hz7
    have hL7 : ∀ L, rp (w nn) (e (nn + 1)) (e (nn + 2)) L → (nn : Int) = 40 + 4 * ((w 0).toInt % 41) → nn ≠ dn7 ∧ rp (w7 nn) (e7 (nn + 1)) (e7 (nn + 2)) L := hL_b ro_nn ro7 hdn7 hfm7
    have hF7 : FRO K w e w7 e7 dn7 := hfm7
    have k0 : (0 : Int32).toInt = 0 := rfl
    have lp12 : ∀ (n : Nat) (z4_28 : Int32) (w11 : Nat → Int32) (e11 : Nat → Nat → Int32) (v11 : Nat → Int32) (f11 : Nat → Nat → Int32), cw_I K7 nn dn7 q7 w11 e11 → e11 15 = e 15 → (∀ L, rp (w nn) (e (nn + 1)) (e (nn + 2)) L → (nn : Int) = 40 + 4 * ((w 0).toInt % 41) → nn ≠ dn7 ∧ rp (w11 nn) (e11 (nn + 1)) (e11 (nn + 2)) L) → FRO K w e w11 e11 dn7 → cw_S v11 f11 → (0 ≤ z4_28.toInt ∧ z4_28.toInt ≤ 160) → (∀ L, rp (w nn) (e (nn + 1)) (e (nn + 2)) L → (nn : Int) = 40 + 4 * ((w 0).toInt % 41) → rp (w11 dn7) (e11 (dn7 + 1)) (e11 (dn7 + 2)) ((si L 0 z4_28.toInt).map (fun p => (if p.1 = x1 then x2 else p.1, p.2)))) → (∀ L, rp (w nn) (e (nn + 1)) (e (nn + 2)) L → (nn : Int) = 40 + 4 * ((w 0).toInt % 41) → z4_28.toInt ≤ (L.length : Int)) → (w11 0).toInt = (w 0).toInt → (w11 1).toInt = (w 1).toInt → (w11 3).toInt = (w 3).toInt → 200 - z4_28.toInt < (n : Int) → J 28 [some (.ref (q7 0)), some (.int x1), some (.int x2), some (.ref (q7 nn)), some (.int z4_28)] [] (cw A0 g K7 nn dn7 q7 w11 e11 v11 f11) 4 485 := by
      intro n
      induction n with
      | zero =>
        intro z4_28 w11 e11 v11 f11 hI11 hx11 hL11 hF11 hs11 j0_28 j1_28 j2_28 j3_28 j4_28 j5_28 j6_28
        omega
      | succ n ih13 =>
        intro z4_28 w11 e11 v11 f11 hI11 hx11 hL11 hF11 hs11 j0_28 j1_28 j2_28 j3_28 j4_28 j5_28 j6_28
        have lh9 := hL11
        have hu14 := hI11.2.1
        unfold cw_W at hu14
        have zs15 := cw_sz hI11 rn7
        have zs16 := cw_sz hI11 ro7
        clear hu8 zs9 zs10
        refine hC.1 2 28 _ _ rfl _ _ _ _ _ ?_
        refine Exists.intro _ (And.intro (cw_ro_o hI11.1 rn7) ?_)
        have z17 := cw_sz hI11 rn7
        refine And.intro (fun c18 => ?_) (fun c18 => ?_)
        · skip
          refine hC.1 5 74 _ _ rfl _ _ _ _ _ ?_
          refine Exists.intro _ (And.intro (cw_o0 hI11.1) ?_)
          have hp_78 := hL11
          refine And.intro (Exists.intro _ (cw_o1 hI11.1)) (Exists.intro _ (Exists.intro _ (Exists.intro _ (Exists.intro _ (And.intro (Z_X9_finish hI11 hs11  (by omega) (by omega)) (And.intro rfl (fun r9 A9 h9 => ?_)))))))
          rcases h9 with ⟨w20, e20, v20, f20, rfl, hI20, hs20, hy20, y19, rfl, by19⟩
          have hx20 : e20 15 = e 15 := hy20.trans hx11
          have hu21 := hI20.2.1
          unfold cw_W at hu21
          have zs22 := cw_sz hI20 ro7
          have zs23 := cw_sz hI20 ro7
          clear hu14 zs15 zs16
          have hb_78 := by19.2.1
          have ht_78 := by19.2.2
          have hF20 : FRO K w e w20 e20 dn7 := FRO_s hF11 hb_78.1
          have hc_9 : HCn K w e w20 e20 dn7 y19 := ⟨by omega, hF20, ht_78⟩
          exact ⟨rfl, fun e9 => absurd e9 (by decide), rfl, K7, dn7, dn7, q7, w20, e20, v20, f20, rfl, hI20, hs20, hX7, hx20, y19, rfl, by first | omega | (dsimp only; omega) | trivial, by refine ⟨?_, ?_⟩; (intro L hL hN; have hl := hL.1; rw [ed_merge, if_pos (by omega)]; have t2 := j1_28 L hL hN; have h8 := (lh9 L hL hN).2.1; have h7 := j2_28 L hL hN; rw [show z4_28.toInt = (L.length : Int) by omega, si_all] at t2; exact ⟨hb_78.2.1 _ t2, by show _ = _ + (1 : Int); omega, by show _ = _ + (1 : Int) * _; omega, by omega, fun _ => hb_78.2.2⟩); (first | (exact Or.inr hc_9) | (exact hc_9) | (exact Or.inl ⟨rfl, rfl, fun _ _ => ⟨rfl, rfl⟩⟩))⟩
        · skip
          refine Exists.intro _ (And.intro (cw_o0 hI11.1) ?_)
          refine Exists.intro _ (And.intro (cw_ro_o hI11.1 rn7) ?_)
          refine Exists.intro _ (Exists.intro _ (And.intro (Or.inl (cw_ro_1 hI11.1 rn7)) (And.intro (by omega) ?_)))
          have w24 := cw_col hI11 rn7 (z4_28).toInt.toNat
          refine And.intro (fun c25 => ?_) (fun c25 => ?_)
          · skip
            have dc25 := pm_neI c25
            refine hC.1 3 58 _ _ rfl _ _ _ _ _ ?_
            refine Exists.intro _ (And.intro (cw_ro_o hI11.1 rn7) ?_)
            refine Exists.intro _ (Exists.intro _ (And.intro (Or.inl (cw_ro_1 hI11.1 rn7)) (And.intro (by omega) ?_)))
            have w26 := cw_col hI11 rn7 (z4_28).toInt.toNat
            refine hC.1 4 65 _ _ rfl _ _ _ _ _ ?_
            have hp_65 := hL11
            refine And.intro (Exists.intro _ (cw_o1 hI11.1)) (Exists.intro _ (Exists.intro _ (Exists.intro _ (Exists.intro _ (And.intro (F_X9_keepAs hI11 hs11 z4_28 (e11 (nn + 1) (z4_28).toInt.toNat) (by omega)) (And.intro rfl (fun r9 A9 h9 => ?_)))))))
            rcases h9 with ⟨w28, e28, v28, f28, rfl, hI28, hs28, hy28, rfl, by27⟩
            have hx28 : e28 15 = e 15 := hy28.trans hx11
            have hu29 := hI28.2.1
            unfold cw_W at hu29
            have zs30 := cw_sz hI28 rn7
            have zs31 := cw_sz hI28 ro7
            clear hu14 zs15 zs16
            have hb_65 := by27.2
            have hF28 : FRO K w e w28 e28 dn7 := FRO_s hF11 hb_65.1
            have hL28 : ∀ L, rp (w nn) (e (nn + 1)) (e (nn + 2)) L → (nn : Int) = 40 + 4 * ((w 0).toInt % 41) → nn ≠ dn7 ∧ rp (w28 nn) (e28 (nn + 1)) (e28 (nn + 2)) L := hL_k hL11 rn7 ro7 hb_65.1
            intro m32 em_68
            try have e32 : m32.toInt = (z4_28).toInt + (1) := by rw [em_68]; exact pm_addc _ _ (1) rfl (by omega) (by omega)
            exact ih13 m32 w28 e28 v28 f28 hI28 hx28 hL28 hF28 hs28 (by omega) (by intro L hL hN; have hl := hL.1; have q2 := hp_65 L hL hN; have z2 := q2.2.1; have s2 := si_len (L := L) (a := 0) (b := z4_28.toInt) (by omega) (by omega) (by omega); have t2 := hb_65.2 L _ q2.2 q2.1 (by omega) (by omega) (by first | omega | (simp only [List.length_append, List.length_nil, List.length_cons, List.length_map, List.length_reverse, nw_len, dr_len]; omega)) (j1_28 L hL hN); rw [show m32.toInt = z4_28.toInt + 1 by omega, si_s q2.2 (a := 0) (z := z4_28.toInt) (by omega) (by omega) (by omega), List.map_append, List.map_cons, List.map_nil]; first | (rw [if_pos (by assumption)]; exact t2) | (rw [if_neg (by assumption)]; exact t2)) (by intro L hL hN; have h8 := (lh9 L hL hN).2.1; omega) (by omega) (by omega) (by omega) (by omega)
          · skip
            have dc25 : ((e11 (nn + 1) (z4_28).toInt.toNat)).toInt = (x1 : Int32).toInt := congrArg Int32.toInt c25
            refine hC.1 4 65 _ _ rfl _ _ _ _ _ ?_
            have hp_65 := hL11
            refine And.intro (Exists.intro _ (cw_o1 hI11.1)) (Exists.intro _ (Exists.intro _ (Exists.intro _ (Exists.intro _ (And.intro (F_X9_keepAs hI11 hs11 z4_28 x2 (by omega)) (And.intro rfl (fun r9 A9 h9 => ?_)))))))
            rcases h9 with ⟨w34, e34, v34, f34, rfl, hI34, hs34, hy34, rfl, by33⟩
            have hx34 : e34 15 = e 15 := hy34.trans hx11
            have hu35 := hI34.2.1
            unfold cw_W at hu35
            have zs36 := cw_sz hI34 rn7
            have zs37 := cw_sz hI34 ro7
            clear hu14 zs15 zs16
            have hb_65 := by33.2
            have hF34 : FRO K w e w34 e34 dn7 := FRO_s hF11 hb_65.1
            have hL34 : ∀ L, rp (w nn) (e (nn + 1)) (e (nn + 2)) L → (nn : Int) = 40 + 4 * ((w 0).toInt % 41) → nn ≠ dn7 ∧ rp (w34 nn) (e34 (nn + 1)) (e34 (nn + 2)) L := hL_k hL11 rn7 ro7 hb_65.1
            intro m38 em_68
            try have e38 : m38.toInt = (z4_28).toInt + (1) := by rw [em_68]; exact pm_addc _ _ (1) rfl (by omega) (by omega)
            exact ih13 m38 w34 e34 v34 f34 hI34 hx34 hL34 hF34 hs34 (by omega) (by intro L hL hN; have hl := hL.1; have q2 := hp_65 L hL hN; have z2 := q2.2.1; have s2 := si_len (L := L) (a := 0) (b := z4_28.toInt) (by omega) (by omega) (by omega); have t2 := hb_65.2 L _ q2.2 q2.1 (by omega) (by omega) (by first | omega | (simp only [List.length_append, List.length_nil, List.length_cons, List.length_map, List.length_reverse, nw_len, dr_len]; omega)) (j1_28 L hL hN); rw [show m38.toInt = z4_28.toInt + 1 by omega, si_s q2.2 (a := 0) (z := z4_28.toInt) (by omega) (by omega) (by omega), List.map_append, List.map_cons, List.map_nil]; first | (rw [if_pos (by assumption)]; exact t2) | (rw [if_neg (by assumption)]; exact t2)) (by intro L hL hN; have h8 := (lh9 L hL hN).2.1; omega) (by omega) (by omega) (by omega) (by omega)
    exact lp12 (200 - (0 : Int32).toInt).toNat.succ (0 : Int32) w7 e7 v f hI7 hx7 hL7 hF7 hs (by omega) (by intro L hL hN; have hl := hL.1; rw [si_n (L := L) (a := 0) (b := (0 : Int32).toInt) (by decide)]; exact rp_0 hz9) (by intro L hL hN; have := hL.1; omega) (by omega) (by omega) (by omega) (by omega)
  · skip
    have k0 : (0 : Int32).toInt = 0 := rfl
    refine And.intro (fun c9 => absurd c9 (by decide)) (fun _ => ?_)
    have km1 : (-1 : Int32).toInt = -1 := rfl
    exact ⟨rfl, fun e9 => absurd e9 (by decide), rfl, K, nn, dn, q, w, e, v, f, rfl, hI, hs, cw_X_r, rfl, (-1 : Int32), rfl, by first | omega | (dsimp only; omega) | trivial, by refine ⟨?_, ?_⟩; (intro L hL hN; have hl := hL.1; rw [ed_merge, if_neg (by omega)]; exact ⟨hL, by show _ = _ + (0 : Int); omega, by show _ = _ + (0 : Int) * _; omega, hN, fun h8 => h8⟩); (first | (exact Or.inr hc_9) | (exact hc_9) | (exact Or.inl ⟨rfl, rfl, fun _ _ => ⟨rfl, rfl⟩⟩))⟩

set_option maxRecDepth 100000 in
set_option maxHeartbeats 2000000 in
theorem Z_X10_exchange (hI : cw_I K nn dn q w e) (hs : cw_S v f) (x1 : Int32) (x2 : Int32) (p0 : (w 0).toInt < 100000) : pm_Mt l g 39 4 4 485 [.ref (q 0), .int x1, .int x2] (cw A0 g K nn dn q w e v f) (cw_Qb A0 g K nn q (fun r K2 nn2 dn2 w2 e2 => e2 15 = e 15 ∧ (∃ x : Int32, r = some (.int x) ∧ (((w2 0).toInt ≤ (w 0).toInt + 1 ∧ (w 0).toInt ≤ (w2 0).toInt ∧ (w2 3).toInt = (w 3).toInt) ∧ ((∀ L, rp (w nn) (e (nn + 1)) (e (nn + 2)) L → (nn : Int) = 40 + 4 * ((w 0).toInt % 41) → rp (w2 nn2) (e2 (nn2 + 1)) (e2 (nn2 + 2)) ((ed_exch L x1 x2).getD L) ∧ (w2 0).toInt = (w 0).toInt + edn (ed_exch L x1 x2) ∧ (w2 1).toInt = (w 1).toInt + edn (ed_exch L x1 x2) * (0) ∧ (nn2 : Int) = 40 + 4 * ((w2 0).toInt % 41) ∧ (bd (w nn) (e (nn + 1)) (e (nn + 3)) → bd (w2 nn2) (e2 (nn2 + 1)) (e2 (nn2 + 3)))) ∧ HCe K nn w e w2 e2 nn2 x))))) := by
  refine mt_X10_exchange rfl (fun J hC => ?_)
  have ro_nn : cw_ro K nn := hI.2.1.2.1
  have ro_dn : cw_ro K dn := hI.2.1.2.2.1
  have hu1 := hI.2.1
  unfold cw_W at hu1
  have zs2 := cw_sz hI ro_nn
  have zs3 := cw_sz hI ro_dn
  have rg_x1 := pm_rng x1
  have rg_x2 := pm_rng x2
  refine hC.1 0 0 _ _ rfl _ _ _ _ _ ?_
  refine Exists.intro _ (Exists.intro _ (Exists.intro _ (Exists.intro _ (And.intro (F_X10_areUnlikeColours (cw A0 g K nn dn q w e v f) x1 x2 ) (And.intro rfl (fun r9 A9 h9 => ?_))))))
  rcases h9 with ⟨y4, rfl, rfl, ⟨rfl, by4⟩ | ⟨rfl, by4⟩⟩
  · skip
    have k1 : (1 : Int32).toInt = 1 := rfl
    refine And.intro (fun _ => ?_) (fun c9 => absurd c9 (by decide))
    refine hC.1 1 10 _ _ rfl _ _ _ _ _ ?_
    refine Exists.intro _ (And.intro (cw_o0 hI.1) ?_)
    refine Exists.intro _ (And.intro (cw_o1 hI.1) ?_)
    refine Exists.intro _ (And.intro (cw_o0 hI.1) ?_)
    refine And.intro (Exists.intro _ (cw_o1 hI.1)) (Exists.intro _ (Exists.intro _ (Exists.intro _ (Exists.intro _ (And.intro (F_X9_begin hI hs  (by omega)) (And.intro rfl (fun r9 A9 h9 => ?_)))))))
    obtain ⟨K7, dn7, q7, w7, e7, rfl, rfl, hI7, hX7, hk7, hw7, hy7, hdn7, hfm7, hz7⟩ := h9
    have hq7_0 : q 0 = q7 0 := (hX7.2.1 0 (by omega)).symm
    have hq7_nn : q nn = q7 nn := (hX7.2.1 nn (by omega)).symm
    rw [hq7_0, hq7_nn]
    have hw7_0 := congrArg Int32.toInt hw7.1
    have hw7_1 := congrArg Int32.toInt hw7.2.1
    have hw7_3 := congrArg Int32.toInt hw7.2.2.2
    have ro7 : cw_ro K7 dn7 := hI7.2.1.2.2.1
    have rn7 : cw_ro K7 nn := hI7.2.1.2.1
    have hx7 : e7 15 = e 15 := hy7.trans rfl
    have hu8 := hI7.2.1
    unfold cw_W at hu8
    have zs9 := cw_sz hI7 rn7
    have zs10 := cw_sz hI7 ro7
    have hz9 := hz7
    have hL7 : ∀ L, rp (w nn) (e (nn + 1)) (e (nn + 2)) L → (nn : Int) = 40 + 4 * ((w 0).toInt % 41) → nn ≠ dn7 ∧ rp (w7 nn) (e7 (nn + 1)) (e7 (nn + 2)) L := hL_b ro_nn ro7 hdn7 hfm7
    have hF7 : FRO K w e w7 e7 dn7 := hfm7
    have k0 : (0 : Int32).toInt = 0 := rfl
    have lp12 : ∀ (n : Nat) (z4_28 : Int32) (w11 : Nat → Int32) (e11 : Nat → Nat → Int32) (v11 : Nat → Int32) (f11 : Nat → Nat → Int32), cw_I K7 nn dn7 q7 w11 e11 → e11 15 = e 15 → (∀ L, rp (w nn) (e (nn + 1)) (e (nn + 2)) L → (nn : Int) = 40 + 4 * ((w 0).toInt % 41) → nn ≠ dn7 ∧ rp (w11 nn) (e11 (nn + 1)) (e11 (nn + 2)) L) → FRO K w e w11 e11 dn7 → cw_S v11 f11 → (0 ≤ z4_28.toInt ∧ z4_28.toInt ≤ 160) → (∀ L, rp (w nn) (e (nn + 1)) (e (nn + 2)) L → (nn : Int) = 40 + 4 * ((w 0).toInt % 41) → rp (w11 dn7) (e11 (dn7 + 1)) (e11 (dn7 + 2)) ((si L 0 z4_28.toInt).map (fun p => (if p.1 = x1 then x2 else if p.1 = x2 then x1 else p.1, p.2)))) → (∀ L, rp (w nn) (e (nn + 1)) (e (nn + 2)) L → (nn : Int) = 40 + 4 * ((w 0).toInt % 41) → z4_28.toInt ≤ (L.length : Int)) → (w11 0).toInt = (w 0).toInt → (w11 1).toInt = (w 1).toInt → (w11 3).toInt = (w 3).toInt → 200 - z4_28.toInt < (n : Int) → J 28 [some (.ref (q7 0)), some (.int x1), some (.int x2), some (.ref (q7 nn)), some (.int z4_28), none] [] (cw A0 g K7 nn dn7 q7 w11 e11 v11 f11) 4 485 := by
      intro n
      induction n with
      | zero =>
        intro z4_28 w11 e11 v11 f11 hI11 hx11 hL11 hF11 hs11 j0_28 j1_28 j2_28 j3_28 j4_28 j5_28 j6_28
        omega
      | succ n ih13 =>
        intro z4_28 w11 e11 v11 f11 hI11 hx11 hL11 hF11 hs11 j0_28 j1_28 j2_28 j3_28 j4_28 j5_28 j6_28
        have lh9 := hL11
        have hu14 := hI11.2.1
        unfold cw_W at hu14
        have zs15 := cw_sz hI11 rn7
        have zs16 := cw_sz hI11 ro7
        clear hu8 zs9 zs10
        refine hC.1 2 28 _ _ rfl _ _ _ _ _ ?_
        refine Exists.intro _ (And.intro (cw_ro_o hI11.1 rn7) ?_)
        have z17 := cw_sz hI11 rn7
        refine And.intro (fun c18 => ?_) (fun c18 => ?_)
        · skip
          refine hC.1 6 83 _ _ rfl _ _ _ _ _ ?_
          refine Exists.intro _ (And.intro (cw_o0 hI11.1) ?_)
          have hp_87 := hL11
          refine And.intro (Exists.intro _ (cw_o1 hI11.1)) (Exists.intro _ (Exists.intro _ (Exists.intro _ (Exists.intro _ (And.intro (Z_X9_finish hI11 hs11  (by omega) (by omega)) (And.intro rfl (fun r9 A9 h9 => ?_)))))))
          rcases h9 with ⟨w20, e20, v20, f20, rfl, hI20, hs20, hy20, y19, rfl, by19⟩
          have hx20 : e20 15 = e 15 := hy20.trans hx11
          have hu21 := hI20.2.1
          unfold cw_W at hu21
          have zs22 := cw_sz hI20 ro7
          have zs23 := cw_sz hI20 ro7
          clear hu14 zs15 zs16
          have hb_87 := by19.2.1
          have ht_87 := by19.2.2
          have hF20 : FRO K w e w20 e20 dn7 := FRO_s hF11 hb_87.1
          have hc_9 : HCn K w e w20 e20 dn7 y19 := ⟨by omega, hF20, ht_87⟩
          exact ⟨rfl, fun e9 => absurd e9 (by decide), rfl, K7, dn7, dn7, q7, w20, e20, v20, f20, rfl, hI20, hs20, hX7, hx20, y19, rfl, by first | omega | (dsimp only; omega) | trivial, by refine ⟨?_, ?_⟩; (intro L hL hN; have hl := hL.1; rw [ed_exch, if_pos (by omega)]; have t2 := j1_28 L hL hN; have h8 := (lh9 L hL hN).2.1; have h7 := j2_28 L hL hN; rw [show z4_28.toInt = (L.length : Int) by omega, si_all] at t2; exact ⟨hb_87.2.1 _ t2, by show _ = _ + (1 : Int); omega, by show _ = _ + (1 : Int) * _; omega, by omega, fun _ => hb_87.2.2⟩); (first | (exact Or.inr hc_9) | (exact hc_9) | (exact Or.inl ⟨rfl, rfl, fun _ _ => ⟨rfl, rfl⟩⟩))⟩
        · skip
          refine Exists.intro _ (And.intro (cw_ro_o hI11.1 rn7) ?_)
          refine Exists.intro _ (Exists.intro _ (And.intro (Or.inl (cw_ro_1 hI11.1 rn7)) (And.intro (by omega) ?_)))
          have w24 := cw_col hI11 rn7 (z4_28).toInt.toNat
          refine Exists.intro _ (And.intro (cw_o0 hI11.1) ?_)
          refine And.intro (fun c25 => ?_) (fun c25 => ?_)
          · skip
            have dc25 := pm_neI c25
            refine hC.1 3 62 _ _ rfl _ _ _ _ _ ?_
            refine And.intro (fun c26 => ?_) (fun c26 => ?_)
            · skip
              have dc26 := pm_neI c26
              refine hC.1 4 72 _ _ rfl _ _ _ _ _ ?_
              refine hC.1 5 74 _ _ rfl _ _ _ _ _ ?_
              have hp_74 := hL11
              refine And.intro (Exists.intro _ (cw_o1 hI11.1)) (Exists.intro _ (Exists.intro _ (Exists.intro _ (Exists.intro _ (And.intro (F_X9_keepAs hI11 hs11 z4_28 (e11 (nn + 1) (z4_28).toInt.toNat) (by omega)) (And.intro rfl (fun r9 A9 h9 => ?_)))))))
              rcases h9 with ⟨w28, e28, v28, f28, rfl, hI28, hs28, hy28, rfl, by27⟩
              have hx28 : e28 15 = e 15 := hy28.trans hx11
              have hu29 := hI28.2.1
              unfold cw_W at hu29
              have zs30 := cw_sz hI28 rn7
              have zs31 := cw_sz hI28 ro7
              clear hu14 zs15 zs16
              have hb_74 := by27.2
              have hF28 : FRO K w e w28 e28 dn7 := FRO_s hF11 hb_74.1
              have hL28 : ∀ L, rp (w nn) (e (nn + 1)) (e (nn + 2)) L → (nn : Int) = 40 + 4 * ((w 0).toInt % 41) → nn ≠ dn7 ∧ rp (w28 nn) (e28 (nn + 1)) (e28 (nn + 2)) L := hL_k hL11 rn7 ro7 hb_74.1
              intro m32 em_77
              try have e32 : m32.toInt = (z4_28).toInt + (1) := by rw [em_77]; exact pm_addc _ _ (1) rfl (by omega) (by omega)
              exact hC.2 [false, false, false, false, false, true] _ _ _ _ _ _ (ih13 m32 w28 e28 v28 f28 hI28 hx28 hL28 hF28 hs28 (by omega) (by intro L hL hN; have hl := hL.1; have q2 := hp_74 L hL hN; have z2 := q2.2.1; have s2 := si_len (L := L) (a := 0) (b := z4_28.toInt) (by omega) (by omega) (by omega); have t2 := hb_74.2 L _ q2.2 q2.1 (by omega) (by omega) (by first | omega | (simp only [List.length_append, List.length_nil, List.length_cons, List.length_map, List.length_reverse, nw_len, dr_len]; omega)) (j1_28 L hL hN); rw [show m32.toInt = z4_28.toInt + 1 by omega, si_s q2.2 (a := 0) (z := z4_28.toInt) (by omega) (by omega) (by omega), List.map_append, List.map_cons, List.map_nil]; first | (rw [if_pos (by assumption)]; exact t2) | (rw [if_neg (by assumption), if_pos (by assumption)]; exact t2) | (rw [if_neg (by assumption), if_neg (by assumption)]; exact t2)) (by intro L hL hN; have h8 := (lh9 L hL hN).2.1; omega) (by omega) (by omega) (by omega) (by omega))
            · skip
              have dc26 : ((e11 (nn + 1) (z4_28).toInt.toNat)).toInt = (x2 : Int32).toInt := congrArg Int32.toInt c26
              refine hC.1 5 74 _ _ rfl _ _ _ _ _ ?_
              have hp_74 := hL11
              refine And.intro (Exists.intro _ (cw_o1 hI11.1)) (Exists.intro _ (Exists.intro _ (Exists.intro _ (Exists.intro _ (And.intro (F_X9_keepAs hI11 hs11 z4_28 x1 (by omega)) (And.intro rfl (fun r9 A9 h9 => ?_)))))))
              rcases h9 with ⟨w34, e34, v34, f34, rfl, hI34, hs34, hy34, rfl, by33⟩
              have hx34 : e34 15 = e 15 := hy34.trans hx11
              have hu35 := hI34.2.1
              unfold cw_W at hu35
              have zs36 := cw_sz hI34 rn7
              have zs37 := cw_sz hI34 ro7
              clear hu14 zs15 zs16
              have hb_74 := by33.2
              have hF34 : FRO K w e w34 e34 dn7 := FRO_s hF11 hb_74.1
              have hL34 : ∀ L, rp (w nn) (e (nn + 1)) (e (nn + 2)) L → (nn : Int) = 40 + 4 * ((w 0).toInt % 41) → nn ≠ dn7 ∧ rp (w34 nn) (e34 (nn + 1)) (e34 (nn + 2)) L := hL_k hL11 rn7 ro7 hb_74.1
              intro m38 em_77
              try have e38 : m38.toInt = (z4_28).toInt + (1) := by rw [em_77]; exact pm_addc _ _ (1) rfl (by omega) (by omega)
              exact hC.2 [false, false, false, false, false, true] _ _ _ _ _ _ (ih13 m38 w34 e34 v34 f34 hI34 hx34 hL34 hF34 hs34 (by omega) (by intro L hL hN; have hl := hL.1; have q2 := hp_74 L hL hN; have z2 := q2.2.1; have s2 := si_len (L := L) (a := 0) (b := z4_28.toInt) (by omega) (by omega) (by omega); have t2 := hb_74.2 L _ q2.2 q2.1 (by omega) (by omega) (by first | omega | (simp only [List.length_append, List.length_nil, List.length_cons, List.length_map, List.length_reverse, nw_len, dr_len]; omega)) (j1_28 L hL hN); rw [show m38.toInt = z4_28.toInt + 1 by omega, si_s q2.2 (a := 0) (z := z4_28.toInt) (by omega) (by omega) (by omega), List.map_append, List.map_cons, List.map_nil]; first | (rw [if_pos (by assumption)]; exact t2) | (rw [if_neg (by assumption), if_pos (by assumption)]; exact t2) | (rw [if_neg (by assumption), if_neg (by assumption)]; exact t2)) (by intro L hL hN; have h8 := (lh9 L hL hN).2.1; omega) (by omega) (by omega) (by omega) (by omega))
          · skip
            have dc25 : ((e11 (nn + 1) (z4_28).toInt.toNat)).toInt = (x1 : Int32).toInt := congrArg Int32.toInt c25
            refine hC.1 5 74 _ _ rfl _ _ _ _ _ ?_
            have hp_74 := hL11
            refine And.intro (Exists.intro _ (cw_o1 hI11.1)) (Exists.intro _ (Exists.intro _ (Exists.intro _ (Exists.intro _ (And.intro (F_X9_keepAs hI11 hs11 z4_28 x2 (by omega)) (And.intro rfl (fun r9 A9 h9 => ?_)))))))
            rcases h9 with ⟨w40, e40, v40, f40, rfl, hI40, hs40, hy40, rfl, by39⟩
            have hx40 : e40 15 = e 15 := hy40.trans hx11
            have hu41 := hI40.2.1
            unfold cw_W at hu41
            have zs42 := cw_sz hI40 rn7
            have zs43 := cw_sz hI40 ro7
            clear hu14 zs15 zs16
            have hb_74 := by39.2
            have hF40 : FRO K w e w40 e40 dn7 := FRO_s hF11 hb_74.1
            have hL40 : ∀ L, rp (w nn) (e (nn + 1)) (e (nn + 2)) L → (nn : Int) = 40 + 4 * ((w 0).toInt % 41) → nn ≠ dn7 ∧ rp (w40 nn) (e40 (nn + 1)) (e40 (nn + 2)) L := hL_k hL11 rn7 ro7 hb_74.1
            intro m44 em_77
            try have e44 : m44.toInt = (z4_28).toInt + (1) := by rw [em_77]; exact pm_addc _ _ (1) rfl (by omega) (by omega)
            exact hC.2 [false, false, false, false, false, true] _ _ _ _ _ _ (ih13 m44 w40 e40 v40 f40 hI40 hx40 hL40 hF40 hs40 (by omega) (by intro L hL hN; have hl := hL.1; have q2 := hp_74 L hL hN; have z2 := q2.2.1; have s2 := si_len (L := L) (a := 0) (b := z4_28.toInt) (by omega) (by omega) (by omega); have t2 := hb_74.2 L _ q2.2 q2.1 (by omega) (by omega) (by first | omega | (simp only [List.length_append, List.length_nil, List.length_cons, List.length_map, List.length_reverse, nw_len, dr_len]; omega)) (j1_28 L hL hN); rw [show m44.toInt = z4_28.toInt + 1 by omega, si_s q2.2 (a := 0) (z := z4_28.toInt) (by omega) (by omega) (by omega), List.map_append, List.map_cons, List.map_nil]; first | (rw [if_pos (by assumption)]; exact t2) | (rw [if_neg (by assumption), if_pos (by assumption)]; exact t2) | (rw [if_neg (by assumption), if_neg (by assumption)]; exact t2)) (by intro L hL hN; have h8 := (lh9 L hL hN).2.1; omega) (by omega) (by omega) (by omega) (by omega))
    exact lp12 (200 - (0 : Int32).toInt).toNat.succ (0 : Int32) w7 e7 v f hI7 hx7 hL7 hF7 hs (by omega) (by intro L hL hN; have hl := hL.1; rw [si_n (L := L) (a := 0) (b := (0 : Int32).toInt) (by decide)]; exact rp_0 hz9) (by intro L hL hN; have := hL.1; omega) (by omega) (by omega) (by omega) (by omega)
  · skip
    have k0 : (0 : Int32).toInt = 0 := rfl
    refine And.intro (fun c9 => absurd c9 (by decide)) (fun _ => ?_)
    have km1 : (-1 : Int32).toInt = -1 := rfl
    exact ⟨rfl, fun e9 => absurd e9 (by decide), rfl, K, nn, dn, q, w, e, v, f, rfl, hI, hs, cw_X_r, rfl, (-1 : Int32), rfl, by first | omega | (dsimp only; omega) | trivial, by refine ⟨?_, ?_⟩; (intro L hL hN; have hl := hL.1; rw [ed_exch, if_neg (by omega)]; exact ⟨hL, by show _ = _ + (0 : Int); omega, by show _ = _ + (0 : Int) * _; omega, hN, fun h8 => h8⟩); (first | (exact Or.inr hc_9) | (exact hc_9) | (exact Or.inl ⟨rfl, rfl, fun _ _ => ⟨rfl, rfl⟩⟩))⟩

end
end
section
section
variable {l : Launch} {g : pm_G} {A0 : pm_H} {K nn dn : Nat} {q : Nat → Nat} {w : Nat → Int32} {e : Nat → Nat → Int32} {v : Nat → Int32} {f : Nat → Nat → Int32}
set_option maxRecDepth 100000 in
set_option maxHeartbeats 2000000 in
theorem Z_X10_sort (hI : cw_I K nn dn q w e) (hs : cw_S v f) (x1 : Int32) (x2 : Int32) (p0 : (w 0).toInt < 100000) : pm_Mt l g 32 5 4 485 [.ref (q 0), .int x1, .int x2] (cw A0 g K nn dn q w e v f) (cw_Qb A0 g K nn q (fun r K2 nn2 dn2 w2 e2 => e2 15 = e 15 ∧ (∃ x : Int32, r = some (.int x) ∧ (((w2 0).toInt ≤ (w 0).toInt + 1 ∧ (w 0).toInt ≤ (w2 0).toInt ∧ (w2 3).toInt = (w 3).toInt) ∧ ((∀ L, rp (w nn) (e (nn + 1)) (e (nn + 2)) L → (nn : Int) = 40 + 4 * ((w 0).toInt % 41) → rp (w2 nn2) (e2 (nn2 + 1)) (e2 (nn2 + 2)) ((ed_sort L x1 x2).getD L) ∧ (w2 0).toInt = (w 0).toInt + edn (ed_sort L x1 x2) ∧ (w2 1).toInt = (w 1).toInt + edn (ed_sort L x1 x2) * (0) ∧ (nn2 : Int) = 40 + 4 * ((w2 0).toInt % 41) ∧ (bd (w nn) (e (nn + 1)) (e (nn + 3)) → bd (w2 nn2) (e2 (nn2 + 1)) (e2 (nn2 + 3)))) ∧ HCe K nn w e w2 e2 nn2 x))))) := by
  refine mt_X10_sort rfl (fun J hC => ?_)
  have ro_nn : cw_ro K nn := hI.2.1.2.1
  have ro_dn : cw_ro K dn := hI.2.1.2.2.1
  have hu1 := hI.2.1
  unfold cw_W at hu1
  have zs2 := cw_sz hI ro_nn
  have zs3 := cw_sz hI ro_dn
  have rg_x1 := pm_rng x1
  have rg_x2 := pm_rng x2
  refine hC.1 0 0 _ _ rfl _ _ _ _ _ ?_
  refine Exists.intro _ (And.intro (cw_o0 hI.1) ?_)
  refine Exists.intro _ (And.intro (cw_o1 hI.1) ?_)
  refine And.intro (Exists.intro _ (cw_ro_o hI.1 ro_nn)) (Exists.intro _ (Exists.intro _ (Exists.intro _ (Exists.intro _ (And.intro (c_X7_isSpan hI hs ro_nn x1 x2 ) (And.intro rfl (fun r9 A9 h9 => ?_)))))))
  rcases h9 with ⟨y4, rfl, rfl, ⟨rfl, by4⟩ | ⟨rfl, by4⟩⟩
  · skip
    have k1 : (1 : Int32).toInt = 1 := rfl
    refine And.intro (fun _ => ?_) (fun c9 => absurd c9 (by decide))
    refine hC.1 1 19 _ _ rfl _ _ _ _ _ ?_
    refine Exists.intro _ (And.intro (cw_o0 hI.1) ?_)
    refine And.intro (Exists.intro _ (cw_o1 hI.1)) (Exists.intro _ (Exists.intro _ (Exists.intro _ (Exists.intro _ (And.intro (F_X9_begin hI hs  (by omega)) (And.intro rfl (fun r9 A9 h9 => ?_)))))))
    obtain ⟨K7, dn7, q7, w7, e7, rfl, rfl, hI7, hX7, hk7, hw7, hy7, hdn7, hfm7, hz7⟩ := h9
    have hq7_0 : q 0 = q7 0 := (hX7.2.1 0 (by omega)).symm
    have hq7_nn : q nn = q7 nn := (hX7.2.1 nn (by omega)).symm
    rw [hq7_0, hq7_nn]
    have hw7_0 := congrArg Int32.toInt hw7.1
    have hw7_1 := congrArg Int32.toInt hw7.2.1
    have hw7_3 := congrArg Int32.toInt hw7.2.2.2
    have ro7 : cw_ro K7 dn7 := hI7.2.1.2.2.1
    have rn7 : cw_ro K7 nn := hI7.2.1.2.1
    have hx7 : e7 15 = e 15 := hy7.trans rfl
    have hu8 := hI7.2.1
    unfold cw_W at hu8
    have zs9 := cw_sz hI7 rn7
    have zs10 := cw_sz hI7 ro7
    have hz9 := hz7
    have hL7 : ∀ L, rp (w nn) (e (nn + 1)) (e (nn + 2)) L → (nn : Int) = 40 + 4 * ((w 0).toInt % 41) → nn ≠ dn7 ∧ rp (w7 nn) (e7 (nn + 1)) (e7 (nn + 2)) L := hL_b ro_nn ro7 hdn7 hfm7
    have hF7 : FRO K w e w7 e7 dn7 := hfm7
    refine Exists.intro _ (And.intro (cw_o0 hI7.1) ?_)
    have k0 : (0 : Int32).toInt = 0 := rfl
    intro m11 em_33
    try have e11 : m11.toInt = (x1).toInt - (1) := by rw [em_33]; exact pm_subc _ _ (1) rfl (by omega) (by omega)
    have hp_34 := hL7
    refine And.intro (Exists.intro _ (cw_o1 hI7.1)) (Exists.intro _ (Exists.intro _ (Exists.intro _ (Exists.intro _ (And.intro (F_X9_keep hI7 hs (0 : Int32) m11 ) (And.intro rfl (fun r9 A9 h9 => ?_)))))))
    rcases h9 with ⟨w13, e13, v13, f13, rfl, hI13, hs13, hy13, rfl, by12⟩
    have hx13 : e13 15 = e 15 := hy13.trans hx7
    have hu14 := hI13.2.1
    unfold cw_W at hu14
    have zs15 := cw_sz hI13 rn7
    have zs16 := cw_sz hI13 ro7
    clear hu8 zs9 zs10
    have hb_34 := by12.2
    have hF13 : FRO K w e w13 e13 dn7 := FRO_s hF7 hb_34.1
    have hL13 : ∀ L, rp (w nn) (e (nn + 1)) (e (nn + 2)) L → (nn : Int) = 40 + 4 * ((w 0).toInt % 41) → nn ≠ dn7 ∧ rp (w13 nn) (e13 (nn + 1)) (e13 (nn + 2)) L := hL_k hL7 rn7 ro7 hb_34.1
    have lp18 : ∀ (n : Nat) (z4_40 : Int32) (w17 : Nat → Int32) (e17 : Nat → Nat → Int32) (v17 : Nat → Int32) (f17 : Nat → Nat → Int32), cw_I K7 nn dn7 q7 w17 e17 → e17 15 = e 15 → (∀ L, rp (w nn) (e (nn + 1)) (e (nn + 2)) L → (nn : Int) = 40 + 4 * ((w 0).toInt % 41) → nn ≠ dn7 ∧ rp (w17 nn) (e17 (nn + 1)) (e17 (nn + 2)) L) → FRO K w e w17 e17 dn7 → cw_S v17 f17 → (0 ≤ z4_40.toInt ∧ z4_40.toInt ≤ 24) → (∀ L, rp (w nn) (e (nn + 1)) (e (nn + 2)) L → (nn : Int) = 40 + 4 * ((w 0).toInt % 41) → rp (w17 dn7) (e17 (dn7 + 1)) (e17 (dn7 + 2)) (si L 0 x1.toInt ++ st_l (si L x1.toInt (x2.toInt + 1)) z4_40.toInt.toNat)) → (w17 0).toInt = (w 0).toInt → (w17 1).toInt = (w 1).toInt → (w17 3).toInt = (w 3).toInt → 200 - z4_40.toInt < (n : Int) → J 40 [some (.ref (q7 0)), some (.int x1), some (.int x2), some (.ref (q7 nn)), some (.int z4_40)] [] (cw A0 g K7 nn dn7 q7 w17 e17 v17 f17) 4 485 := by
      intro n
      induction n with
      | zero =>
        intro z4_40 w17 e17 v17 f17 hI17 hx17 hL17 hF17 hs17 j0_40 j1_40 j2_40 j3_40 j4_40 j5_40
        omega
      | succ n ih19 =>
        intro z4_40 w17 e17 v17 f17 hI17 hx17 hL17 hF17 hs17 j0_40 j1_40 j2_40 j3_40 j4_40 j5_40
        have hu20 := hI17.2.1
        unfold cw_W at hu20
        have zs21 := cw_sz hI17 rn7
        have zs22 := cw_sz hI17 ro7
        clear hu14 zs15 zs16
        refine hC.1 2 40 _ _ rfl _ _ _ _ _ ?_
        have k24 : (24 : Int32).toInt = 24 := rfl
        refine And.intro (fun c23 => ?_) (fun c23 => ?_)
        · skip
          refine hC.1 3 64 _ _ rfl _ _ _ _ _ ?_
          refine Exists.intro _ (And.intro (cw_o0 hI17.1) ?_)
          intro m24 em_70
          try have e24 : m24.toInt = (x2).toInt + (1) := by rw [em_70]; exact pm_addc _ _ (1) rfl (by omega) (by omega)
          refine Exists.intro _ (And.intro (cw_ro_o hI17.1 rn7) ?_)
          have z25 := cw_sz hI17 rn7
          intro m26 em_76
          try have e26 : m26.toInt = ((w17 nn)).toInt - (1) := by rw [em_76]; exact pm_subc _ _ (1) rfl (by omega) (by omega)
          have hp_77 := hL17
          refine And.intro (Exists.intro _ (cw_o1 hI17.1)) (Exists.intro _ (Exists.intro _ (Exists.intro _ (Exists.intro _ (And.intro (F_X9_keep hI17 hs17 m24 m26 ) (And.intro rfl (fun r9 A9 h9 => ?_)))))))
          rcases h9 with ⟨w28, e28, v28, f28, rfl, hI28, hs28, hy28, rfl, by27⟩
          have hx28 : e28 15 = e 15 := hy28.trans hx17
          have hu29 := hI28.2.1
          unfold cw_W at hu29
          have zs30 := cw_sz hI28 rn7
          have zs31 := cw_sz hI28 ro7
          clear hu20 zs21 zs22
          have hb_77 := by27.2
          have hF28 : FRO K w e w28 e28 dn7 := FRO_s hF17 hb_77.1
          have hL28 : ∀ L, rp (w nn) (e (nn + 1)) (e (nn + 2)) L → (nn : Int) = 40 + 4 * ((w 0).toInt % 41) → nn ≠ dn7 ∧ rp (w28 nn) (e28 (nn + 1)) (e28 (nn + 2)) L := hL_k hL17 rn7 ro7 hb_77.1
          refine Exists.intro _ (And.intro (cw_o0 hI28.1) ?_)
          have hp_84 := hL28
          refine And.intro (Exists.intro _ (cw_o1 hI28.1)) (Exists.intro _ (Exists.intro _ (Exists.intro _ (Exists.intro _ (And.intro (Z_X9_finish hI28 hs28  (by omega) (by omega)) (And.intro rfl (fun r9 A9 h9 => ?_)))))))
          rcases h9 with ⟨w33, e33, v33, f33, rfl, hI33, hs33, hy33, y32, rfl, by32⟩
          have hx33 : e33 15 = e 15 := hy33.trans hx28
          have hu34 := hI33.2.1
          unfold cw_W at hu34
          have zs35 := cw_sz hI33 ro7
          have zs36 := cw_sz hI33 ro7
          clear hu29 zs30 zs31
          have hb_84 := by32.2.1
          have ht_84 := by32.2.2
          have hF33 : FRO K w e w33 e33 dn7 := FRO_s hF28 hb_84.1
          have hc_9 : HCn K w e w33 e33 dn7 y32 := ⟨by omega, hF33, ht_84⟩
          exact ⟨rfl, fun e9 => absurd e9 (by decide), rfl, K7, dn7, dn7, q7, w33, e33, v33, f33, rfl, hI33, hs33, hX7, hx33, y32, rfl, by first | omega | (dsimp only; omega) | trivial, by refine ⟨?_, ?_⟩; (intro L hL hN; have hl := hL.1; rw [ed_sort, if_pos (by omega)]; have t2 := j1_40 L hL hN; rw [show z4_40.toInt.toNat = 24 by omega] at t2; have h6 := st_len (si L x1.toInt (x2.toInt + 1)) 24; have s1 := si_len (L := L) (a := 0) (b := x1.toInt) (by omega) (by omega) (by omega); have s2 := si_len (L := L) (a := x1.toInt) (b := x2.toInt + 1) (by omega) (by omega) (by omega); have q3 := hp_77 L hL hN; have z3 := q3.2.1; have t3 := hb_77.2 L (_) (x2.toInt + 1) (L.length) q3.2 q3.1 (by omega) (by omega) (by omega) (by omega) (by omega) (by first | omega | (simp only [List.length_append, List.length_nil, List.length_cons, List.length_map, List.length_reverse, nw_len, dr_len]; omega)) t2; have k3 := si_len (L := L) (a := x2.toInt + 1) (b := L.length) (by omega) (by omega) (by omega); exact ⟨hb_84.2.1 _ t3, by show _ = _ + (1 : Int); omega, by show _ = _ + (1 : Int) * _; omega, by omega, fun _ => hb_84.2.2⟩); (first | (exact Or.inr hc_9) | (exact hc_9) | (exact Or.inl ⟨rfl, rfl, fun _ _ => ⟨rfl, rfl⟩⟩))⟩
        · skip
          refine Exists.intro _ (And.intro (cw_o0 hI17.1) ?_)
          have hp_55 := hL17
          refine And.intro (Exists.intro _ (cw_o1 hI17.1)) (Exists.intro _ (Exists.intro _ (Exists.intro _ (Exists.intro _ (And.intro (F_X9_keepThoseOf hI17 hs17 z4_40 x1 x2 (by omega)) (And.intro rfl (fun r9 A9 h9 => ?_)))))))
          rcases h9 with ⟨w38, e38, v38, f38, rfl, hI38, hs38, hy38, rfl, by37⟩
          have hx38 : e38 15 = e 15 := hy38.trans hx17
          have hu39 := hI38.2.1
          unfold cw_W at hu39
          have zs40 := cw_sz hI38 rn7
          have zs41 := cw_sz hI38 ro7
          clear hu20 zs21 zs22
          have hb_55 := by37.2
          have hF38 : FRO K w e w38 e38 dn7 := FRO_s hF17 hb_55.1
          have hL38 : ∀ L, rp (w nn) (e (nn + 1)) (e (nn + 2)) L → (nn : Int) = 40 + 4 * ((w 0).toInt % 41) → nn ≠ dn7 ∧ rp (w38 nn) (e38 (nn + 1)) (e38 (nn + 2)) L := hL_k hL17 rn7 ro7 hb_55.1
          intro m42 em_58
          try have e42 : m42.toInt = (z4_40).toInt + (1) := by rw [em_58]; exact pm_addc _ _ (1) rfl (by omega) (by omega)
          exact ih19 m42 w38 e38 v38 f38 hI38 hx38 hL38 hF38 hs38 (by omega) (by intro L hL hN; have hl := hL.1; have q2 := hp_55 L hL hN; have z2 := q2.2.1; have s2 := si_len (L := L) (a := 0) (b := x1.toInt) (by omega) (by omega) (by omega); have s3 := si_len (L := L) (a := x1.toInt) (b := x2.toInt + 1) (by omega) (by omega) (by omega); have h6 := st_len (si L x1.toInt (x2.toInt + 1)) (z4_40.toInt.toNat + 1); have h7 : st_l (si L x1.toInt (x2.toInt + 1)) (z4_40.toInt.toNat + 1) = st_l (si L x1.toInt (x2.toInt + 1)) z4_40.toInt.toNat ++ (si L x1.toInt (x2.toInt + 1)).filter (fun p => decide (p.1.toInt = z4_40.toInt)) := (by show _ ++ List.filter (fun p : pl_P => decide (p.1.toInt = ((z4_40.toInt.toNat : Nat) : Int))) _ = _; rw [show ((z4_40.toInt.toNat : Nat) : Int) = z4_40.toInt by omega]); rw [h7, List.length_append] at h6; have t2 := hb_55.2 L _ x1.toInt (x2.toInt + 1) q2.2 q2.1 rfl rfl (by omega) (by omega) (by omega) (by first | omega | (simp only [List.length_append, List.length_nil, List.length_cons, List.length_map, List.length_reverse, nw_len, dr_len]; omega)) (j1_40 L hL hN); rw [show m42.toInt.toNat = z4_40.toInt.toNat + 1 by omega, h7, ← List.append_assoc]; exact t2) (by omega) (by omega) (by omega) (by omega)
    exact lp18 (200 - (0 : Int32).toInt).toNat.succ (0 : Int32) w13 e13 v13 f13 hI13 hx13 hL13 hF13 hs13 (by omega) (by intro L hL hN; have hl := hL.1; have q1 := hp_34 L hL hN; have z1 := q1.2.1; have t1 := hb_34.2 L ([]) (0) (x1.toInt) q1.2 q1.1 (by omega) (by omega) (by omega) (by omega) (by omega) (by first | omega | (simp only [List.length_append, List.length_nil, List.length_cons, List.length_map, List.length_reverse, nw_len, dr_len]; omega)) (rp_0 hz9); have k1 := si_len (L := L) (a := 0) (b := x1.toInt) (by omega) (by omega) (by omega); rw [List.nil_append] at t1; show rp _ _ _ (_ ++ []); rw [List.append_nil]; exact t1) (by omega) (by omega) (by omega) (by omega)
  · skip
    have k0 : (0 : Int32).toInt = 0 := rfl
    refine And.intro (fun c9 => absurd c9 (by decide)) (fun _ => ?_)
    have km1 : (-1 : Int32).toInt = -1 := rfl
    exact ⟨rfl, fun e9 => absurd e9 (by decide), rfl, K, nn, dn, q, w, e, v, f, rfl, hI, hs, cw_X_r, rfl, (-1 : Int32), rfl, by first | omega | (dsimp only; omega) | trivial, by refine ⟨?_, ?_⟩; (intro L hL hN; have hl := hL.1; rw [ed_sort, if_neg (by omega)]; exact ⟨hL, by show _ = _ + (0 : Int); omega, by show _ = _ + (0 : Int) * _; omega, hN, fun h8 => h8⟩); (first | (exact Or.inr hc_9) | (exact hc_9) | (exact Or.inl ⟨rfl, rfl, fun _ _ => ⟨rfl, rfl⟩⟩))⟩

set_option maxRecDepth 100000 in
set_option maxHeartbeats 2000000 in
theorem Z_X10_draw (hI : cw_I K nn dn q w e) (hs : cw_S v f) (x1 : Int32) (x2 : Int32) (x3 : Int32) (p0 : (w 0).toInt < 100000) : pm_Mt l g 40 4 4 485 [.ref (q 0), .int x1, .int x2, .int x3] (cw A0 g K nn dn q w e v f) (cw_Qb A0 g K nn q (fun r K2 nn2 dn2 w2 e2 => e2 15 = e 15 ∧ (∃ x : Int32, r = some (.int x) ∧ (((w2 0).toInt ≤ (w 0).toInt + 1 ∧ (w 0).toInt ≤ (w2 0).toInt ∧ (w2 3).toInt = (w 3).toInt) ∧ ((∀ L, rp (w nn) (e (nn + 1)) (e (nn + 2)) L → (nn : Int) = 40 + 4 * ((w 0).toInt % 41) → rp (w2 nn2) (e2 (nn2 + 1)) (e2 (nn2 + 2)) ((ed_draw L (w 1) x1 x2 x3).getD L) ∧ (w2 0).toInt = (w 0).toInt + edn (ed_draw L (w 1) x1 x2 x3) ∧ (w2 1).toInt = (w 1).toInt + edn (ed_draw L (w 1) x1 x2 x3) * (x2.toInt) ∧ (nn2 : Int) = 40 + 4 * ((w2 0).toInt % 41) ∧ (bd (w nn) (e (nn + 1)) (e (nn + 3)) → bd (w2 nn2) (e2 (nn2 + 1)) (e2 (nn2 + 3)))) ∧ HCe K nn w e w2 e2 nn2 x))))) := by
  refine mt_X10_draw rfl (fun J hC => ?_)
  have ro_nn : cw_ro K nn := hI.2.1.2.1
  have ro_dn : cw_ro K dn := hI.2.1.2.2.1
  have hu1 := hI.2.1
  unfold cw_W at hu1
  have zs2 := cw_sz hI ro_nn
  have zs3 := cw_sz hI ro_dn
  have rg_x1 := pm_rng x1
  have rg_x2 := pm_rng x2
  have rg_x3 := pm_rng x3
  refine hC.1 0 0 _ _ rfl _ _ _ _ _ ?_
  refine And.intro (fun c4 => ?_) (fun c4 => ?_)
  · skip
    refine hC.1 1 27 _ _ rfl _ _ _ _ _ ?_
    have k0 : (0 : Int32).toInt = 0 := rfl
    refine hC.1 2 28 _ _ rfl _ _ _ _ _ ?_
    refine And.intro (fun _ => ?_) (fun c9 => absurd c9 (by decide))
    refine hC.1 3 57 _ _ rfl _ _ _ _ _ ?_
    have km1 : (-1 : Int32).toInt = -1 := rfl
    exact ⟨rfl, fun e9 => absurd e9 (by decide), rfl, K, nn, dn, q, w, e, v, f, rfl, hI, hs, cw_X_r, rfl, (-1 : Int32), rfl, by first | omega | (dsimp only; omega) | trivial, by refine ⟨?_, ?_⟩; (intro L hL hN; have hl := hL.1; rw [ed_draw, if_neg (by omega)]; exact ⟨hL, by show _ = _ + (0 : Int); omega, by show _ = _ + (0 : Int) * _; omega, hN, fun h8 => h8⟩); (first | (exact Or.inr hc_9) | (exact hc_9) | (exact Or.inl ⟨rfl, rfl, fun _ _ => ⟨rfl, rfl⟩⟩))⟩
  · skip
    have k9999 : (9999 : Int32).toInt = 9999 := rfl
    refine And.intro (fun c5 => ?_) (fun c5 => ?_)
    · skip
      refine hC.1 1 27 _ _ rfl _ _ _ _ _ ?_
      have k0 : (0 : Int32).toInt = 0 := rfl
      refine hC.1 2 28 _ _ rfl _ _ _ _ _ ?_
      refine And.intro (fun _ => ?_) (fun c9 => absurd c9 (by decide))
      refine hC.1 3 57 _ _ rfl _ _ _ _ _ ?_
      have km1 : (-1 : Int32).toInt = -1 := rfl
      exact ⟨rfl, fun e9 => absurd e9 (by decide), rfl, K, nn, dn, q, w, e, v, f, rfl, hI, hs, cw_X_r, rfl, (-1 : Int32), rfl, by first | omega | (dsimp only; omega) | trivial, by refine ⟨?_, ?_⟩; (intro L hL hN; have hl := hL.1; rw [ed_draw, if_neg (by omega)]; exact ⟨hL, by show _ = _ + (0 : Int); omega, by show _ = _ + (0 : Int) * _; omega, hN, fun h8 => h8⟩); (first | (exact Or.inr hc_9) | (exact hc_9) | (exact Or.inl ⟨rfl, rfl, fun _ _ => ⟨rfl, rfl⟩⟩))⟩
    · skip
      have k1 : (1 : Int32).toInt = 1 := rfl
      refine And.intro (fun c6 => ?_) (fun c6 => ?_)
      · skip
        refine hC.1 1 27 _ _ rfl _ _ _ _ _ ?_
        have k0 : (0 : Int32).toInt = 0 := rfl
        refine hC.1 2 28 _ _ rfl _ _ _ _ _ ?_
        refine And.intro (fun _ => ?_) (fun c9 => absurd c9 (by decide))
        refine hC.1 3 57 _ _ rfl _ _ _ _ _ ?_
        have km1 : (-1 : Int32).toInt = -1 := rfl
        exact ⟨rfl, fun e9 => absurd e9 (by decide), rfl, K, nn, dn, q, w, e, v, f, rfl, hI, hs, cw_X_r, rfl, (-1 : Int32), rfl, by first | omega | (dsimp only; omega) | trivial, by refine ⟨?_, ?_⟩; (intro L hL hN; have hl := hL.1; rw [ed_draw, if_neg (by omega)]; exact ⟨hL, by show _ = _ + (0 : Int); omega, by show _ = _ + (0 : Int) * _; omega, hN, fun h8 => h8⟩); (first | (exact Or.inr hc_9) | (exact hc_9) | (exact Or.inl ⟨rfl, rfl, fun _ _ => ⟨rfl, rfl⟩⟩))⟩
      · skip
        have k160 : (160 : Int32).toInt = 160 := rfl
        refine And.intro (fun c7 => ?_) (fun c7 => ?_)
        · skip
          refine hC.1 1 27 _ _ rfl _ _ _ _ _ ?_
          have k0 : (0 : Int32).toInt = 0 := rfl
          refine hC.1 2 28 _ _ rfl _ _ _ _ _ ?_
          refine And.intro (fun _ => ?_) (fun c9 => absurd c9 (by decide))
          refine hC.1 3 57 _ _ rfl _ _ _ _ _ ?_
          have km1 : (-1 : Int32).toInt = -1 := rfl
          exact ⟨rfl, fun e9 => absurd e9 (by decide), rfl, K, nn, dn, q, w, e, v, f, rfl, hI, hs, cw_X_r, rfl, (-1 : Int32), rfl, by first | omega | (dsimp only; omega) | trivial, by refine ⟨?_, ?_⟩; (intro L hL hN; have hl := hL.1; rw [ed_draw, if_neg (by omega)]; exact ⟨hL, by show _ = _ + (0 : Int); omega, by show _ = _ + (0 : Int) * _; omega, hN, fun h8 => h8⟩); (first | (exact Or.inr hc_9) | (exact hc_9) | (exact Or.inl ⟨rfl, rfl, fun _ _ => ⟨rfl, rfl⟩⟩))⟩
        · skip
          refine hC.1 2 28 _ _ rfl _ _ _ _ _ ?_
          refine And.intro (fun c9 => absurd c9 (by decide)) (fun _ => ?_)
          refine And.intro (fun c8 => ?_) (fun c8 => ?_)
          · skip
            refine hC.1 3 57 _ _ rfl _ _ _ _ _ ?_
            have km1 : (-1 : Int32).toInt = -1 := rfl
            exact ⟨rfl, fun e9 => absurd e9 (by decide), rfl, K, nn, dn, q, w, e, v, f, rfl, hI, hs, cw_X_r, rfl, (-1 : Int32), rfl, by first | omega | (dsimp only; omega) | trivial, by refine ⟨?_, ?_⟩; (intro L hL hN; have hl := hL.1; rw [ed_draw, if_neg (by omega)]; exact ⟨hL, by show _ = _ + (0 : Int); omega, by show _ = _ + (0 : Int) * _; omega, hN, fun h8 => h8⟩); (first | (exact Or.inr hc_9) | (exact hc_9) | (exact Or.inl ⟨rfl, rfl, fun _ _ => ⟨rfl, rfl⟩⟩))⟩
          · skip
            have k24 : (24 : Int32).toInt = 24 := rfl
            refine And.intro (fun c9 => ?_) (fun c9 => ?_)
            · skip
              refine hC.1 3 57 _ _ rfl _ _ _ _ _ ?_
              have km1 : (-1 : Int32).toInt = -1 := rfl
              exact ⟨rfl, fun e9 => absurd e9 (by decide), rfl, K, nn, dn, q, w, e, v, f, rfl, hI, hs, cw_X_r, rfl, (-1 : Int32), rfl, by first | omega | (dsimp only; omega) | trivial, by refine ⟨?_, ?_⟩; (intro L hL hN; have hl := hL.1; rw [ed_draw, if_neg (by omega)]; exact ⟨hL, by show _ = _ + (0 : Int); omega, by show _ = _ + (0 : Int) * _; omega, hN, fun h8 => h8⟩); (first | (exact Or.inr hc_9) | (exact hc_9) | (exact Or.inl ⟨rfl, rfl, fun _ _ => ⟨rfl, rfl⟩⟩))⟩
            · skip
              refine Exists.intro _ (And.intro (cw_o0 hI.1) ?_)
              refine And.intro (Exists.intro _ (cw_o1 hI.1)) (Exists.intro _ (Exists.intro _ (Exists.intro _ (Exists.intro _ (And.intro (c_X9_hasRoomFor hI hs x2 (by omega)) (And.intro rfl (fun r9 A9 h9 => ?_)))))))
              rcases h9 with ⟨y10, rfl, rfl, ⟨rfl, by10⟩ | ⟨rfl, by10⟩⟩
              · skip
                refine And.intro (fun _ => ?_) (fun c9 => absurd c9 (by decide))
                refine hC.1 4 59 _ _ rfl _ _ _ _ _ ?_
                refine Exists.intro _ (And.intro (cw_o0 hI.1) ?_)
                refine And.intro (Exists.intro _ (cw_o1 hI.1)) (Exists.intro _ (Exists.intro _ (Exists.intro _ (Exists.intro _ (And.intro (F_X9_begin hI hs  (by omega)) (And.intro rfl (fun r9 A9 h9 => ?_)))))))
                obtain ⟨K13, dn13, q13, w13, e13, rfl, rfl, hI13, hX13, hk13, hw13, hy13, hdn13, hfm13, hz13⟩ := h9
                have hq13_0 : q 0 = q13 0 := (hX13.2.1 0 (by omega)).symm
                rw [hq13_0]
                have hw13_0 := congrArg Int32.toInt hw13.1
                have hw13_1 := congrArg Int32.toInt hw13.2.1
                have hw13_3 := congrArg Int32.toInt hw13.2.2.2
                have ro13 : cw_ro K13 dn13 := hI13.2.1.2.2.1
                have rn13 : cw_ro K13 nn := hI13.2.1.2.1
                have hx13 : e13 15 = e 15 := hy13.trans rfl
                have hu14 := hI13.2.1
                unfold cw_W at hu14
                have zs15 := cw_sz hI13 rn13
                have zs16 := cw_sz hI13 ro13
                have hz9 := hz13
                have hL13 : ∀ L, rp (w nn) (e (nn + 1)) (e (nn + 2)) L → (nn : Int) = 40 + 4 * ((w 0).toInt % 41) → nn ≠ dn13 ∧ rp (w13 nn) (e13 (nn + 1)) (e13 (nn + 2)) L := hL_b ro_nn ro13 hdn13 hfm13
                have hF13 : FRO K w e w13 e13 dn13 := hfm13
                refine Exists.intro _ (And.intro (cw_o0 hI13.1) ?_)
                have k0 : (0 : Int32).toInt = 0 := rfl
                refine Exists.intro _ (And.intro (cw_o0 hI13.1) ?_)
                refine Exists.intro _ (And.intro (cw_o1 hI13.1) ?_)
                refine Exists.intro _ (And.intro (cw_ro_o hI13.1 rn13) ?_)
                have z17 := cw_sz hI13 rn13
                intro m18 em_82
                try have e18 : m18.toInt = ((w13 nn)).toInt - (1) := by rw [em_82]; exact pm_subc _ _ (1) rfl (by omega) (by omega)
                have hp_83 := hL13
                refine And.intro (Exists.intro _ (cw_o1 hI13.1)) (Exists.intro _ (Exists.intro _ (Exists.intro _ (Exists.intro _ (And.intro (F_X9_keep hI13 hs (0 : Int32) m18 ) (And.intro rfl (fun r9 A9 h9 => ?_)))))))
                rcases h9 with ⟨w20, e20, v20, f20, rfl, hI20, hs20, hy20, rfl, by19⟩
                have hx20 : e20 15 = e 15 := hy20.trans hx13
                have hu21 := hI20.2.1
                unfold cw_W at hu21
                have zs22 := cw_sz hI20 rn13
                have zs23 := cw_sz hI20 ro13
                clear hu14 zs15 zs16
                have hb_83 := by19.2
                have hF20 : FRO K w e w20 e20 dn13 := FRO_s hF13 hb_83.1
                have hL20 : ∀ L, rp (w nn) (e (nn + 1)) (e (nn + 2)) L → (nn : Int) = 40 + 4 * ((w 0).toInt % 41) → nn ≠ dn13 ∧ rp (w20 nn) (e20 (nn + 1)) (e20 (nn + 2)) L := hL_k hL13 rn13 ro13 hb_83.1
                have lp25 : ∀ (n : Nat) (z5_92 : Int32) (z6_92 : Int32) (w24 : Nat → Int32) (e24 : Nat → Nat → Int32) (v24 : Nat → Int32) (f24 : Nat → Nat → Int32), cw_I K13 nn dn13 q13 w24 e24 → e24 15 = e 15 → (∀ L, rp (w nn) (e (nn + 1)) (e (nn + 2)) L → (nn : Int) = 40 + 4 * ((w 0).toInt % 41) → nn ≠ dn13 ∧ rp (w24 nn) (e24 (nn + 1)) (e24 (nn + 2)) L) → FRO K w e w24 e24 dn13 → cw_S v24 f24 → (0 ≤ z6_92.toInt ∧ z6_92.toInt ≤ x2.toInt) → (0 ≤ z5_92.toInt ∧ z5_92.toInt ≤ 10006) → ((w24 1).toInt = (w 1).toInt + z6_92.toInt) → (z5_92.toInt = ds x1.toInt z6_92.toInt.toNat) → (∀ L, rp (w nn) (e (nn + 1)) (e (nn + 2)) L → (nn : Int) = 40 + 4 * ((w 0).toInt % 41) → rp (w24 dn13) (e24 (dn13 + 1)) (e24 (dn13 + 2)) (L ++ nw_l (w 1) (dr_l x1.toInt x3.toInt z6_92.toInt.toNat))) → (w24 0).toInt = (w 0).toInt → (w24 3).toInt = (w 3).toInt → 200 - z6_92.toInt < (n : Int) → J 92 [some (.ref (q13 0)), some (.int x1), some (.int x2), some (.int x3), some (.int (1 : Int32)), some (.int z5_92), some (.int z6_92)] [] (cw A0 g K13 nn dn13 q13 w24 e24 v24 f24) 4 485 := by
                  intro n
                  induction n with
                  | zero =>
                    intro z5_92 z6_92 w24 e24 v24 f24 hI24 hx24 hL24 hF24 hs24 j0_92 j1_92 j2_92 j3_92 j4_92 j5_92 j6_92 j7_92
                    omega
                  | succ n ih26 =>
                    intro z5_92 z6_92 w24 e24 v24 f24 hI24 hx24 hL24 hF24 hs24 j0_92 j1_92 j2_92 j3_92 j4_92 j5_92 j6_92 j7_92
                    obtain ⟨g92, eg92⟩ : ∃ z9, z9 = w24 1 := ⟨_, rfl⟩
                    have hu27 := hI24.2.1
                    unfold cw_W at hu27
                    have zs28 := cw_sz hI24 rn13
                    have zs29 := cw_sz hI24 ro13
                    clear hu21 zs22 zs23
                    refine hC.1 5 92 _ _ rfl _ _ _ _ _ ?_
                    refine And.intro (fun c30 => ?_) (fun c30 => ?_)
                    · skip
                      refine hC.1 6 130 _ _ rfl _ _ _ _ _ ?_
                      refine Exists.intro _ (And.intro (cw_o0 hI24.1) ?_)
                      have hp_134 := hL24
                      refine And.intro (Exists.intro _ (cw_o1 hI24.1)) (Exists.intro _ (Exists.intro _ (Exists.intro _ (Exists.intro _ (And.intro (Z_X9_finish hI24 hs24  (by omega) (by omega)) (And.intro rfl (fun r9 A9 h9 => ?_)))))))
                      rcases h9 with ⟨w32, e32, v32, f32, rfl, hI32, hs32, hy32, y31, rfl, by31⟩
                      have hx32 : e32 15 = e 15 := hy32.trans hx24
                      have hu33 := hI32.2.1
                      unfold cw_W at hu33
                      have zs34 := cw_sz hI32 ro13
                      have zs35 := cw_sz hI32 ro13
                      clear hu27 zs28 zs29
                      have hb_134 := by31.2.1
                      have ht_134 := by31.2.2
                      have hF32 : FRO K w e w32 e32 dn13 := FRO_s hF24 hb_134.1
                      have hc_9 : HCn K w e w32 e32 dn13 y31 := ⟨by omega, hF32, ht_134⟩
                      exact ⟨rfl, fun e9 => absurd e9 (by decide), rfl, K13, dn13, dn13, q13, w32, e32, v32, f32, rfl, hI32, hs32, hX13, hx32, y31, rfl, by first | omega | (dsimp only; omega) | trivial, by refine ⟨?_, ?_⟩; (intro L hL hN; have hl := hL.1; rw [ed_draw, if_pos (by omega)]; have t2 := j4_92 L hL hN; rw [show z6_92.toInt.toNat = x2.toInt.toNat by omega] at t2; exact ⟨hb_134.2.1 _ t2, by show _ = _ + (1 : Int); omega, by show _ = _ + (1 : Int) * _; omega, by omega, fun _ => hb_134.2.2⟩); (first | (exact Or.inr hc_9) | (exact hc_9) | (exact Or.inl ⟨rfl, rfl, fun _ _ => ⟨rfl, rfl⟩⟩))⟩
                    · skip
                      have k137 : (137 : Int32).toInt = 137 := rfl
                      intro m36 em_103
                      try have e36 : m36.toInt = (z5_92).toInt * (137) := by rw [em_103]; exact pm_mulc _ _ (137) rfl (by omega) (by omega)
                      have k71 : (71 : Int32).toInt = 71 := rfl
                      intro m37 em_106
                      try have e37 : m37.toInt = (m36).toInt + (71) := by rw [em_106]; exact pm_addc _ _ (71) rfl (by omega) (by omega)
                      have k10007 : (10007 : Int32).toInt = 10007 := rfl
                      refine And.intro (by decide) ?_
                      intro m38 em_110
                      have e38 : 0 ≤ m38.toInt ∧ m38.toInt < 10007 ∧ m38.toInt = (m37).toInt % 10007 := by rw [em_110]; exact pm_remc _ _ 10007 rfl (by omega) (by decide)
                      have hd1 : ds x1.toInt (z6_92.toInt.toNat + 1) = m38.toInt := by show (137 * ds x1.toInt z6_92.toInt.toNat + 71) % 10007 = _; rw [← j3_92]; omega
                      refine Exists.intro _ (And.intro (cw_o0 hI24.1) ?_)
                      refine And.intro (fun e9 => by have e8 := congrArg Int32.toInt e9; have e7 : (0 : Int32).toInt = 0 := rfl; omega) ?_
                      intro m39 em_120
                      try have e39 := pm_rem m38 x3 (by omega) (by omega)
                      try rw [← em_120] at e39
                      obtain ⟨cc9, hcc9⟩ : ∃ z9, z9 = m39 := ⟨_, rfl⟩
                      have ecc := pm_rem m38 x3 (by omega) (by omega)
                      rw [← em_120, ← hcc9] at ecc
                      have hp_121 := hL24
                      refine And.intro (Exists.intro _ (cw_o1 hI24.1)) (Exists.intro _ (Exists.intro _ (Exists.intro _ (Exists.intro _ (And.intro (F_X9_add hI24 hs24 m39 (by omega) (by omega)) (And.intro rfl (fun r9 A9 h9 => ?_)))))))
                      rcases h9 with ⟨w41, e41, v41, f41, rfl, hI41, hs41, hy41, rfl, by40⟩
                      have hx41 : e41 15 = e 15 := hy41.trans hx24
                      have hu42 := hI41.2.1
                      unfold cw_W at hu42
                      have zs43 := cw_sz hI41 rn13
                      have zs44 := cw_sz hI41 ro13
                      clear hu27 zs28 zs29
                      have hb_121 := by40.2
                      have hF41 : FRO K w e w41 e41 dn13 := FRO_s hF24 hb_121.1
                      have hL41 : ∀ L, rp (w nn) (e (nn + 1)) (e (nn + 2)) L → (nn : Int) = 40 + 4 * ((w 0).toInt % 41) → nn ≠ dn13 ∧ rp (w41 nn) (e41 (nn + 1)) (e41 (nn + 2)) L := hL_k hL24 rn13 ro13 hb_121.1
                      intro m45 em_124
                      try have e45 : m45.toInt = (z6_92).toInt + (1) := by rw [em_124]; exact pm_addc _ _ (1) rfl (by omega) (by omega)
                      exact ih26 m38 m45 w41 e41 v41 f41 hI41 hx41 hL41 hF41 hs41 (by omega) (by omega) (by omega) (by rw [show m45.toInt.toNat = z6_92.toInt.toNat + 1 by omega, hd1]) (by intro L hL hN; have hl := hL.1; have t2 := hb_121.2 _ (j4_92 L hL hN) (by first | omega | (simp only [List.length_append, List.length_nil, List.length_cons, List.length_map, List.length_reverse, nw_len, dr_len]; omega)); rw [← eg92] at t2; have h5 : Int32.ofInt (m38.toInt % x3.toInt) = cc9 := (by rw [← ecc.2.2, Int32.ofInt_toInt]); rw [show m45.toInt.toNat = z6_92.toInt.toNat + 1 by omega, dr_s, hd1, nw_app (g2 := g92) (by rw [eg92, dr_len]; omega) (by rw [dr_len]; omega), ← List.append_assoc, h5, hcc9]; exact t2) (by omega) (by omega) (by omega)
                exact lp25 (200 - (0 : Int32).toInt).toNat.succ x1 (0 : Int32) w20 e20 v20 f20 hI20 hx20 hL20 hF20 hs20 (by omega) (by omega) (by omega) (by rfl) (by intro L hL hN; have hl := hL.1; have q1 := hp_83 L hL hN; have z1 := q1.2.1; have t1 := hb_83.2 L ([]) (0) (L.length) q1.2 q1.1 (by omega) (by omega) (by omega) (by omega) (by omega) (by first | omega | (simp only [List.length_append, List.length_nil, List.length_cons, List.length_map, List.length_reverse, nw_len, dr_len]; omega)) (rp_0 hz9); have k1 := si_len (L := L) (a := 0) (b := L.length) (by omega) (by omega) (by omega); rw [List.nil_append] at t1; rw [si_all] at t1; show rp _ _ _ (L ++ []); rw [List.append_nil]; exact t1) (by omega) (by omega) (by omega)
              · skip
                have k0 : (0 : Int32).toInt = 0 := rfl
                refine And.intro (fun c9 => absurd c9 (by decide)) (fun _ => ?_)
                refine hC.1 3 57 _ _ rfl _ _ _ _ _ ?_
                have km1 : (-1 : Int32).toInt = -1 := rfl
                exact ⟨rfl, fun e9 => absurd e9 (by decide), rfl, K, nn, dn, q, w, e, v, f, rfl, hI, hs, cw_X_r, rfl, (-1 : Int32), rfl, by first | omega | (dsimp only; omega) | trivial, by refine ⟨?_, ?_⟩; (intro L hL hN; have hl := hL.1; rw [ed_draw, if_neg (by omega)]; exact ⟨hL, by show _ = _ + (0 : Int); omega, by show _ = _ + (0 : Int) * _; omega, hN, fun h8 => h8⟩); (first | (exact Or.inr hc_9) | (exact hc_9) | (exact Or.inl ⟨rfl, rfl, fun _ _ => ⟨rfl, rfl⟩⟩))⟩

end
end
section
/-! since: from which edit on a name has the bond that it has now -/
theorem FST_n {m : Nat → Int32} {n r : Int} {x : Int32} (hn : 0 ≤ n) (h : FST m n x r) : r = nextEq m x 0 n.toNat := by
  rcases h with ⟨a, b⟩ | ⟨a, b, c, d⟩
  · rw [a, nextEq_m n.toNat 0 (fun i _ hi => b i (by omega))]
  · rw [nextEq_0 n.toNat 0 r.toNat (by omega) (by omega) c (fun i _ hi => d i (by omega))]; omega
end
section
/-! changed: how many names are otherwise now than behind an edit -/
def qn (k : Nat → Int32) (n : Int) (x : Int32) : Int := nextEq k x 0 n.toNat
end
section
/-! report: the k-th by its bond, those without ahead of all -/
def la (c : Nat → Int32) (i : Nat) : Int := lastEq c (c i) i
def kR (c : Nat → Int32) (i : Nat) : Int := if la c i < 0 then (i : Int) - 160 else la c i
end
section
/-! the questions: an answer by its row, all of them, one more -/
def ANR (c m W : Nat → Int32) (n : Int) (a b x y : Int32) : Prop := (¬ (0 ≤ nextEq m a 0 n.toNat ∧ 0 ≤ nextEq m b 0 n.toNat) ∧ x = -1 ∧ y = -1) ∨ ((0 ≤ nextEq m a 0 n.toNat ∧ 0 ≤ nextEq m b 0 n.toNat) ∧ x.toInt = (cntB (sS c (min (nextEq m a 0 n.toNat) (nextEq m b 0 n.toNat)) (max (nextEq m a 0 n.toNat) (nextEq m b 0 n.toNat))) 24 : Int) ∧ y = msB W (sS c (min (nextEq m a 0 n.toNat) (nextEq m b 0 n.toNat)) (max (nextEq m a 0 n.toNat) (nextEq m b 0 n.toNat))) 24)
theorem ANR_no {c m W : Nat → Int32} {n : Int} {a b x y : Int32} {p q : Int} (hp : p = nextEq m a 0 n.toNat) (hq : q = nextEq m b 0 n.toNat) (h : ¬ (0 ≤ p ∧ 0 ≤ q)) (hx : x = -1) (hy : y = -1) : ANR c m W n a b x y := Or.inl ⟨by rw [← hp, ← hq]; exact h, hx, hy⟩
theorem ANR_yes {c m W : Nat → Int32} {n : Int} {a b x y : Int32} {p q l r : Int} (hp : p = nextEq m a 0 n.toNat) (hq : q = nextEq m b 0 n.toNat) (h : 0 ≤ p ∧ 0 ≤ q) (hl : (p ≤ q ∧ l = p ∧ r = q) ∨ (q ≤ p ∧ l = q ∧ r = p)) (hx : x.toInt = (cntB (sS c l r) 24 : Int)) (hy : y = msB W (sS c l r) 24) : ANR c m W n a b x y := Or.inr (by
  rw [← hp, ← hq]
  rw [show min p q = l by omega, show max p q = r by omega]
  exact ⟨h, hx, hy⟩)
theorem ANR_u {c m W d k V : Nat → Int32} {n n2 : Int32} {a b x y x2 y2 : Int32} {L : List pl_P} (h1 : rp n c m L) (h2 : rp n2 d k L) (hw : ∀ j, j < 24 → W j = V j) (g1 : ANR c m W n.toInt a b x y) (g2 : ANR d k V n2.toInt a b x2 y2) : x = x2 ∧ y = y2 := by
  have e0 : n.toInt = n2.toInt := h1.1.trans h2.1.symm
  have hl := h1.1
  have hc : ∀ j : Nat, (j : Int) < n.toInt → c j = d j := fun j hj => by rw [(h1.2 j (by omega)).1, (h2.2 j (by omega)).1]
  have hm : ∀ j : Nat, (j : Int) < n.toInt → m j = k j := fun j hj => by rw [(h1.2 j (by omega)).2, (h2.2 j (by omega)).2]
  have e1 : ∀ z, nextEq m z 0 n.toInt.toNat = nextEq k z 0 n2.toInt.toNat := fun z => by
    rw [← e0]
    exact nextEq_eq _ _ (fun j hj => hm j (by omega))
  have q1 := nextEq_lt m a 0 n.toInt.toNat
  have q2 := nextEq_lt m b 0 n.toInt.toNat
  unfold ANR at g2
  rw [← e1, ← e1] at g2
  rcases g1 with ⟨a1, a2, a3⟩ | ⟨a1, a2, a3⟩
  · rcases g2 with ⟨b1, b2, b3⟩ | ⟨b1, b2, b3⟩
    · exact ⟨a2.trans b2.symm, a3.trans b3.symm⟩
    · exact absurd b1 a1
  · rcases g2 with ⟨b1, b2, b3⟩ | ⟨b1, b2, b3⟩
    · exact absurd a1 b1
    · have es := sS_eq (c := c) (d := d) (n := n.toInt) (l := min (nextEq m a 0 n.toInt.toNat) (nextEq m b 0 n.toInt.toNat)) (r := max (nextEq m a 0 n.toInt.toNat) (nextEq m b 0 n.toInt.toNat)) hc (by omega)
      rw [← es] at b2 b3
      exact ⟨pm_eqI (a2.trans b2.symm), a3.trans ((msB_eq 24 hw).trans b3.symm)⟩
def AKI (c m W : Nat → Int32) (n E : Int) (hn : Int → Int) (hc hm : Int → Nat → Int32) (ed a b x y : Int32) : Prop := (ed.toInt = -1 ∧ ANR c m W n a b x y) ∨ (¬ ed.toInt = -1 ∧ kno E ed.toInt ∧ ANR (hc ed.toInt) (hm ed.toInt) W (hn ed.toInt) a b x y) ∨ (¬ ed.toInt = -1 ∧ ¬ kno E ed.toInt ∧ x = -1 ∧ y = -1)
def cro (i : Int) : Nat := (40 + 4 * (i % 41)).toNat
def cN (w : Nat → Int32) (i : Int) : Int := (w (cro i)).toInt
def cC (e : Nat → Nat → Int32) (i : Int) : Nat → Int32 := e (cro i + 1)
def cM (e : Nat → Nat → Int32) (i : Int) : Nat → Int32 := e (cro i + 2)
theorem cro_i {i : Int} (h : 0 ≤ i) : (cro i : Int) = 40 + 4 * (i % 41) := by unfold cro; omega
def rNi (f : Nat → Nat → Int32) (i : Int) : Int := (rN f i).toInt
def cnA (x : Nat → Int32) : Nat → Int
  | 0 => 0
  | k + 1 => cnA x k + (if x k = -1 then 0 else 1)
theorem cnA_eq {x y : Nat → Int32} : ∀ k, (∀ j, j < k → x j = y j) → cnA x k = cnA y k
  | 0, _ => rfl
  | k + 1, h => by rw [cnA, cnA, cnA_eq k (fun j hj => h j (by omega)), h k (by omega)]
theorem cnA_r (x : Nat → Int32) : ∀ k, 0 ≤ cnA x k ∧ cnA x k ≤ k
  | 0 => ⟨Int.le_refl _, Int.le_refl _⟩
  | k + 1 => by
    have h := cnA_r x k
    rw [cnA]
    split <;> omega
theorem cnA_1 {x y : Nat → Int32} {k : Nat} {z : Int32} (h : y = upd x k z) (hz : ¬ z = -1) : cnA y (k + 1) = cnA x k + 1 := by
  subst h
  rw [cnA, pk_us, if_neg hz, cnA_eq k (fun j hj => pk_un (by omega))]
theorem cnA_0 {x y : Nat → Int32} {k : Nat} {z : Int32} (h : y = upd x k z) (hz : z = -1) : cnA y (k + 1) = cnA x k := by
  subst h
  rw [cnA, pk_us, if_pos hz, cnA_eq k (fun j hj => pk_un (by omega)), Int.add_zero]
theorem m1_ne {z : Int32} (h : 0 ≤ z.toInt) : ¬ z = -1 := fun e => by rw [e] at h; exact absurd h (by decide)
def QST (ok : Prop) (ed a b n n2 r : Int32) (p o s t i p2 o2 s2 t2 i2 : Nat → Int32) : Prop := (¬ ok ∧ n2 = n ∧ r = -1 ∧ p2 = p ∧ o2 = o ∧ s2 = s ∧ t2 = t ∧ i2 = i) ∨ (ok ∧ n2 = n + 1 ∧ r = n ∧ p2 = upd p n.toInt.toNat a ∧ o2 = upd o n.toInt.toNat b ∧ s2 = upd s n.toInt.toNat (-1) ∧ t2 = upd t n.toInt.toNat (-1) ∧ i2 = upd i n.toInt.toNat ed)
def ASD (n x t : Int) (p o s u i : Nat → Int32) : Int32 := if 0 ≤ x ∧ x < n then (if t = 0 then s x.toNat else if t = 1 then u x.toNat else if t = 2 then p x.toNat else if t = 3 then o x.toNat else if t = 4 then i x.toNat else -1) else -1
theorem ASD_n {n x t : Int} {p o s u i : Nat → Int32} (h : ¬ (0 ≤ x ∧ x < n)) : ASD n x t p o s u i = -1 := if_neg h
theorem ASD_d {n x t : Int} {p o s u i : Nat → Int32} (h : ¬ (0 ≤ t ∧ t ≤ 4)) : ASD n x t p o s u i = -1 := by
  unfold ASD
  split
  · rw [if_neg (by omega), if_neg (by omega), if_neg (by omega), if_neg (by omega), if_neg (by omega)]
  · rfl
theorem ASD_0 {n x t : Int} {p o s u i : Nat → Int32} (h : 0 ≤ x ∧ x < n) (ht : t = 0) : ASD n x t p o s u i = s x.toNat := by unfold ASD; rw [if_pos h, if_pos ht]
theorem ASD_1 {n x t : Int} {p o s u i : Nat → Int32} (h : 0 ≤ x ∧ x < n) (ht : t = 1) : ASD n x t p o s u i = u x.toNat := by unfold ASD; rw [if_pos h, if_neg (by omega), if_pos ht]
theorem ASD_2 {n x t : Int} {p o s u i : Nat → Int32} (h : 0 ≤ x ∧ x < n) (ht : t = 2) : ASD n x t p o s u i = p x.toNat := by unfold ASD; rw [if_pos h, if_neg (by omega), if_neg (by omega), if_pos ht]
theorem ASD_3 {n x t : Int} {p o s u i : Nat → Int32} (h : 0 ≤ x ∧ x < n) (ht : t = 3) : ASD n x t p o s u i = o x.toNat := by unfold ASD; rw [if_pos h, if_neg (by omega), if_neg (by omega), if_neg (by omega), if_pos ht]
theorem ASD_4 {n x t : Int} {p o s u i : Nat → Int32} (h : 0 ≤ x ∧ x < n) (ht : t = 4) : ASD n x t p o s u i = i x.toNat := by unfold ASD; rw [if_pos h, if_neg (by omega), if_neg (by omega), if_neg (by omega), if_neg (by omega), if_pos ht]
theorem pk_uu {c : Nat → Int32} {i : Nat} {a b : Int32} : upd (upd c i a) i b = upd c i b := funext (fun j => by
  by_cases h : j = i
  · rw [h, pk_us, pk_us]
  · rw [pk_un h, pk_un h, pk_un h])
theorem ANR_e {c m W c2 m2 W2 : Nat → Int32} {n n2 : Int} {a b a2 b2 x y : Int32} (h : ANR c m W n a b x y) (hc : c = c2) (hm : m = m2) (hw : W = W2) (hn : n = n2) (ha : a = a2) (hb : b = b2) : ANR c2 m2 W2 n2 a2 b2 x y := by
  subst hc; subst hm; subst hw; subst hn; subst ha; subst hb; exact h
theorem AKI_row {w : Nat → Int32} {e : Nat → Nat → Int32} {c m W : Nat → Int32} {n E : Int} {ed a b x y : Int32} {o : Nat} (he : ¬ ed.toInt = -1) (hk : kno E ed.toInt) (ho : cro ed.toInt = o) (h : ANR (e (o + 1)) (e (o + 2)) W (w o).toInt a b x y) : AKI c m W n E (cN w) (cC e) (cM e) ed a b x y := Or.inr (Or.inl ⟨he, hk, by unfold cC cM cN; rw [ho]; exact h⟩)
theorem QST_i {ok ok2 : Prop} {ed a b n n2 r : Int32} {p o s t i p2 o2 s2 t2 i2 : Nat → Int32} (h : QST ok ed a b n n2 r p o s t i p2 o2 s2 t2 i2) (hk : ok ↔ ok2) : QST ok2 ed a b n n2 r p o s t i p2 o2 s2 t2 i2 := by
  rcases h with ⟨h1, h2⟩ | ⟨h1, h2⟩
  · exact Or.inl ⟨fun q => h1 (hk.mpr q), h2⟩
  · exact Or.inr ⟨hk.mp h1, h2⟩
theorem PLN {m : Nat → Int32} {n s : Int} {x : Int32} (hn : 0 ≤ n) (h : (x.toInt < 0 ∧ s = -1) ∨ (0 ≤ x.toInt ∧ FST m n x s)) : (0 ≤ s ↔ (0 ≤ x.toInt ∧ 0 ≤ nextEq m x 0 n.toNat)) := by
  rcases h with ⟨h1, h2⟩ | ⟨h1, h2⟩
  · exact ⟨fun q => by omega, fun q => by omega⟩
  · have h3 := FST_n hn h2
    exact ⟨fun q => ⟨h1, by omega⟩, fun q => by omega⟩
def PBR (n : Int) (m : Nat → Int32) (E : Int) (hn : Int → Int) (hm : Int → Nat → Int32) (ed x : Int32) (r : Int) : Prop := (ed.toInt = -1 ∧ r = nextEq m x 0 n.toNat) ∨ (¬ ed.toInt = -1 ∧ kno E ed.toInt ∧ r = nextEq (hm ed.toInt) x 0 (hn ed.toInt).toNat) ∨ (¬ ed.toInt = -1 ∧ ¬ kno E ed.toInt ∧ r = -1)
theorem AKI_no {c m W : Nat → Int32} {n E : Int} {hn : Int → Int} {hc hm : Int → Nat → Int32} {ed a b x y : Int32} {p q : Int} (hp : PBR n m E hn hm ed a p) (hq : PBR n m E hn hm ed b q) (h : ¬ (0 ≤ p ∧ 0 ≤ q)) (hx : x = -1) (hy : y = -1) : AKI c m W n E hn hc hm ed a b x y := by
  rcases hp with ⟨p1, p2⟩ | ⟨p1, p2, p3⟩ | ⟨p1, p2, p3⟩
  · rcases hq with ⟨q1, q2⟩ | ⟨q1, q2, q3⟩ | ⟨q1, q2, q3⟩
    · exact Or.inl ⟨p1, ANR_no p2 q2 h hx hy⟩
    · exact absurd p1 q1
    · exact absurd p1 q1
  · rcases hq with ⟨q1, q2⟩ | ⟨q1, q2, q3⟩ | ⟨q1, q2, q3⟩
    · exact absurd q1 p1
    · exact Or.inr (Or.inl ⟨p1, p2, ANR_no p3 q3 h hx hy⟩)
    · exact absurd p2 q2
  · exact Or.inr (Or.inr ⟨p1, p2, hx, hy⟩)
theorem AKI_yes {c m W : Nat → Int32} {n E : Int} {hn : Int → Int} {hc hm : Int → Nat → Int32} {ed a b x y S : Int32} {p q l r : Int} (hp : PBR n m E hn hm ed a p) (hq : PBR n m E hn hm ed b q) (h : 0 ≤ p ∧ 0 ≤ q) (hl : (p ≤ q ∧ l = p ∧ r = q) ∨ (q ≤ p ∧ l = q ∧ r = p)) (hS : (ed.toInt = -1 → S = sS c l r) ∧ (¬ ed.toInt = -1 → S = sS (hc ed.toInt) l r)) (hx : x.toInt = (cntB S 24 : Int)) (hy : y = msB W S 24) : AKI c m W n E hn hc hm ed a b x y := by
  rcases hp with ⟨p1, p2⟩ | ⟨p1, p2, p3⟩ | ⟨p1, p2, p3⟩
  · rcases hq with ⟨q1, q2⟩ | ⟨q1, q2, q3⟩ | ⟨q1, q2, q3⟩
    · have e := hS.1 p1
      subst e
      exact Or.inl ⟨p1, ANR_yes p2 q2 h hl hx hy⟩
    · exact absurd p1 q1
    · exact absurd p1 q1
  · rcases hq with ⟨q1, q2⟩ | ⟨q1, q2, q3⟩ | ⟨q1, q2, q3⟩
    · exact absurd q1 p1
    · have e := hS.2 p1
      subst e
      exact Or.inr (Or.inl ⟨p1, p2, ANR_yes p3 q3 h hl hx hy⟩)
    · exact absurd p2 q2
  · omega
def ABT (n gv ed ta ak : Int32) (c : Nat → Int32) (t : Int) : Int := if t = 0 then n.toInt else if t = 1 then (cntB (sS c 0 (n.toInt - 1)) 24 : Int) else if t = 2 then gv.toInt else if t = 3 then ed.toInt else if t = 4 then ta.toInt else if t = 5 then ak.toInt else -1
theorem ABT_0 {n gv ed ta ak : Int32} {c : Nat → Int32} {t : Int} (h : t = 0) : ABT n gv ed ta ak c t = n.toInt := if_pos h
theorem ABT_1 {n gv ed ta ak : Int32} {c : Nat → Int32} {t : Int} (h : t = 1) : ABT n gv ed ta ak c t = (cntB (sS c 0 (n.toInt - 1)) 24 : Int) := by unfold ABT; rw [if_neg (by omega), if_pos h]
theorem ABT_2 {n gv ed ta ak : Int32} {c : Nat → Int32} {t : Int} (h : t = 2) : ABT n gv ed ta ak c t = gv.toInt := by unfold ABT; rw [if_neg (by omega), if_neg (by omega), if_pos h]
theorem ABT_3 {n gv ed ta ak : Int32} {c : Nat → Int32} {t : Int} (h : t = 3) : ABT n gv ed ta ak c t = ed.toInt := by unfold ABT; rw [if_neg (by omega), if_neg (by omega), if_neg (by omega), if_pos h]
theorem ABT_4 {n gv ed ta ak : Int32} {c : Nat → Int32} {t : Int} (h : t = 4) : ABT n gv ed ta ak c t = ta.toInt := by unfold ABT; rw [if_neg (by omega), if_neg (by omega), if_neg (by omega), if_neg (by omega), if_pos h]
theorem ABT_5 {n gv ed ta ak : Int32} {c : Nat → Int32} {t : Int} (h : t = 5) : ABT n gv ed ta ak c t = ak.toInt := by unfold ABT; rw [if_neg (by omega), if_neg (by omega), if_neg (by omega), if_neg (by omega), if_neg (by omega), if_pos h]
theorem ABT_d {n gv ed ta ak : Int32} {c : Nat → Int32} {t : Int} (h : ¬ (0 ≤ t ∧ t ≤ 5)) : ABT n gv ed ta ak c t = -1 := by unfold ABT; rw [if_neg (by omega), if_neg (by omega), if_neg (by omega), if_neg (by omega), if_neg (by omega), if_neg (by omega)]
theorem ABT_k {n gv ed ta ak : Int32} {c : Nat → Int32} {t x l r : Int} (h : t = 1) (a : x = (cntB (sS c l r) 24 : Int)) (hl : l = 0) (hr : r = n.toInt - 1) : x = ABT n gv ed ta ak c t := by
  subst hl; subst hr
  exact a.trans (ABT_1 h).symm
theorem ABT_m {n gv ed ta ak S : Int32} {c : Nat → Int32} {t x l r : Int} (h : t = 1) (k : ok24 c) (hs : S = setF c l.toNat (r + 1 - l).toNat) (b : x = (cntB S 32 : Int)) (hl : l = 0) (hr : r = n.toInt - 1) : x = ABT n gv ed ta ak c t := by
  subst hl; subst hr; subst hs
  exact (b.trans (congrArg (fun n9 : Nat => (n9 : Int)) (set_24 k _))).trans (ABT_1 h).symm
theorem SB24 {c : Nat → Int32} {hc : Int → Nat → Int32} {ed S : Int32} {l r : Int} (h : (ed.toInt = -1 → S = sS c l r) ∧ (¬ ed.toInt = -1 → S = sS (hc ed.toInt) l r)) (k1 : ok24 c) (k2 : ∀ i, ok24 (hc i)) : cntB S 32 = cntB S 24 := by
  by_cases e : ed.toInt = -1
  · rw [h.1 e]; exact set_24 k1 _
  · rw [h.2 e]; exact set_24 (k2 _) _
end
section
section
variable {l : Launch} {g : pm_G} {A0 : pm_H} {K nn dn : Nat} {q : Nat → Nat} {w : Nat → Int32} {e : Nat → Nat → Int32} {v : Nat → Int32} {f : Nat → Nat → Int32}
set_option maxRecDepth 100000 in
set_option maxHeartbeats 2000000 in
theorem V_X7_hasName (hI : cw_I K nn dn q w e) (hs : cw_S v f) {o0 : Nat} (ho0 : cw_ro K o0) (x1 : Int32)  : pm_Mt l g 154 1 0 0 [.ref (q o0), .int x1] (cw A0 g K nn dn q w e v f) (md_Qp (cw A0 g K nn dn q w e v f) (fun r => (r = 1 ∧ (0 ≤ nextEq (e (o0 + 2)) x1 0 (w o0).toInt.toNat)) ∨ (r = 0 ∧ (¬ (0 ≤ nextEq (e (o0 + 2)) x1 0 (w o0).toInt.toNat))))) := by
  refine mt_X7_hasName rfl (fun J hC => ?_)
  have ro_nn : cw_ro K nn := hI.2.1.2.1
  have ro_dn : cw_ro K dn := hI.2.1.2.2.1
  have hu1 := hI.2.1
  unfold cw_W at hu1
  have rg_x1 := pm_rng x1
  have zz0 := cw_sz hI ho0
  refine hC.1 0 0 _ _ rfl _ _ _ _ _ ?_
  refine And.intro (Exists.intro _ (cw_ro_o hI.1 ho0)) (Exists.intro _ (Exists.intro _ (Exists.intro _ (Exists.intro _ (And.intro (F_X7_placeOf hI hs ho0 x1 ) (And.intro rfl (fun r9 A9 h9 => ?_)))))))
  obtain ⟨y2, rfl, rfl, by2⟩ := h9
  have yf_9 := FST_n (by omega) by2.2
  have km1 : (-1 : Int32).toInt = -1 := rfl
  refine And.intro (fun c4 => ?_) (fun c4 => ?_)
  · skip
    have dc4 : (y2).toInt = ((-1 : Int32) : Int32).toInt := congrArg Int32.toInt c4
    refine hC.1 1 13 _ _ rfl _ _ _ _ _ ?_
    have k0 : (0 : Int32).toInt = 0 := rfl
    refine hC.1 2 14 _ _ rfl _ _ _ _ _ ?_
    exact ⟨rfl, fun _ => (by decide), rfl, (0 : Int32), rfl, rfl, Or.inr ⟨rfl, by first | omega | (dsimp only; omega) | trivial⟩⟩
  · skip
    have dc4 := pm_neI c4
    have k1 : (1 : Int32).toInt = 1 := rfl
    refine hC.1 2 14 _ _ rfl _ _ _ _ _ ?_
    exact ⟨rfl, fun _ => (by decide), rfl, (1 : Int32), rfl, rfl, Or.inl ⟨rfl, by first | omega | (dsimp only; omega) | trivial⟩⟩

set_option maxRecDepth 100000 in
set_option maxHeartbeats 2000000 in
theorem V_X5_add (hI : cw_I K nn dn q w e) (hs : cw_S v f) (x1 : Int32) (x2 : Int32) (x3 : Int32)  : pm_Mt l g 159 0 0 0 [.ref (q 9), .int x1, .int x2, .int x3] (cw A0 g K nn dn q w e v f) (cw_Qt A0 g K nn dn q (fun r w2 e2 => e2 15 = e 15 ∧ (∃ x : Int32, r = some (.int x) ∧ (((w2 0).toInt = (w 0).toInt ∧ (w2 1).toInt = (w 1).toInt ∧ (w2 2).toInt = (w 2).toInt) ∧ ((∀ i9, 40 ≤ i9 → w2 i9 = w i9 ∧ e2 i9 = e i9) ∧ QST (0 ≤ (w 3).toInt ∧ (w 3).toInt < 30) x1 x2 x3 (w 3) (w2 3) x (e 35) (e 36) (e 37) (e 38) (e 39) (e2 35) (e2 36) (e2 37) (e2 38) (e2 39)))))) := by
  refine mt_X5_add rfl (fun J hC => ?_)
  have ro_nn : cw_ro K nn := hI.2.1.2.1
  have ro_dn : cw_ro K dn := hI.2.1.2.2.1
  have hu1 := hI.2.1
  unfold cw_W at hu1
  have rg_x1 := pm_rng x1
  have rg_x2 := pm_rng x2
  have rg_x3 := pm_rng x3
  refine hC.1 0 0 _ _ rfl _ _ _ _ _ ?_
  refine Exists.intro _ (And.intro (cw_o9 hI.1) ?_)
  refine And.intro (fun c2 => ?_) (fun c2 => ?_)
  · skip
    refine hC.1 1 16 _ _ rfl _ _ _ _ _ ?_
    have km1 : (-1 : Int32).toInt = -1 := rfl
    exact ⟨rfl, fun e9 => absurd e9 (by decide), rfl, w, e, v, f, rfl, hI, hs, rfl, (-1 : Int32), rfl, by first | omega | (dsimp only; omega) | trivial, by exact ⟨fun _ _ => ⟨rfl, rfl⟩, Or.inl ⟨fun h9 => (by omega), rfl, rfl, rfl, rfl, rfl, rfl, rfl⟩⟩⟩
  · skip
    refine Exists.intro _ (And.intro (cw_o9 hI.1) ?_)
    have k30 : (30 : Int32).toInt = 30 := rfl
    refine And.intro (fun c3 => ?_) (fun c3 => ?_)
    · skip
      refine hC.1 2 18 _ _ rfl _ _ _ _ _ ?_
      refine Exists.intro _ (And.intro (cw_o9 hI.1) ?_)
      refine Exists.intro _ (And.intro (cw_o9 hI.1) ?_)
      refine Exists.intro _ (Exists.intro _ (And.intro (cw_a35 hI.1) (And.intro (by omega) ?_)))
      rw [cw_s35 hI.1]
      obtain ⟨e4, ee4⟩ : ∃ z9, z9 = va_up e 35 (upd (e 35) ((w 3)).toInt.toNat x2) := ⟨_, rfl⟩
      rw [← ee4]
      have hI4 : cw_I K nn dn q w e4 := ⟨hI.1, hI.2.1, hI.2.2.1, by rw [ee4]; exact cw_E_up hI.2.2.2 _ _ (fun h9 _ => absurd h9 (by decide)) (fun h9 _ => absurd h9 (by decide))⟩
      have hx4 : e4 15 = e 15 := (show e4 15 = e 15 by rw [ee4]; exact if_neg (by omega)).trans rfl
      have pe_31 := ee4
      refine Exists.intro _ (And.intro (cw_o9 hI4.1) ?_)
      refine Exists.intro _ (Exists.intro _ (And.intro (cw_a36 hI4.1) (And.intro (by omega) ?_)))
      rw [cw_s36 hI4.1]
      obtain ⟨e5, ee5⟩ : ∃ z9, z9 = va_up e4 36 (upd (e4 36) ((w 3)).toInt.toNat x3) := ⟨_, rfl⟩
      rw [← ee5]
      have hI5 : cw_I K nn dn q w e5 := ⟨hI4.1, hI4.2.1, hI4.2.2.1, by rw [ee5]; exact cw_E_up hI4.2.2.2 _ _ (fun h9 _ => absurd h9 (by decide)) (fun h9 _ => absurd h9 (by decide))⟩
      have hx5 : e5 15 = e 15 := (show e5 15 = e4 15 by rw [ee5]; exact if_neg (by omega)).trans hx4
      have pe_39 := ee5
      refine Exists.intro _ (And.intro (cw_o9 hI5.1) ?_)
      refine Exists.intro _ (Exists.intro _ (And.intro (cw_a39 hI5.1) (And.intro (by omega) ?_)))
      rw [cw_s39 hI5.1]
      obtain ⟨e6, ee6⟩ : ∃ z9, z9 = va_up e5 39 (upd (e5 39) ((w 3)).toInt.toNat x1) := ⟨_, rfl⟩
      rw [← ee6]
      have hI6 : cw_I K nn dn q w e6 := ⟨hI5.1, hI5.2.1, hI5.2.2.1, by rw [ee6]; exact cw_E_up hI5.2.2.2 _ _ (fun h9 _ => absurd h9 (by decide)) (fun h9 _ => absurd h9 (by decide))⟩
      have hx6 : e6 15 = e 15 := (show e6 15 = e5 15 by rw [ee6]; exact if_neg (by omega)).trans hx5
      have pe_47 := ee6
      refine Exists.intro _ (And.intro (cw_o9 hI6.1) ?_)
      have km1 : (-1 : Int32).toInt = -1 := rfl
      refine Exists.intro _ (Exists.intro _ (And.intro (cw_a37 hI6.1) (And.intro (by omega) ?_)))
      rw [cw_s37 hI6.1]
      obtain ⟨e7, ee7⟩ : ∃ z9, z9 = va_up e6 37 (upd (e6 37) ((w 3)).toInt.toNat (-1 : Int32)) := ⟨_, rfl⟩
      rw [← ee7]
      have hI7 : cw_I K nn dn q w e7 := ⟨hI6.1, hI6.2.1, hI6.2.2.1, by rw [ee7]; exact cw_E_up hI6.2.2.2 _ _ (fun h9 _ => absurd h9 (by decide)) (fun h9 _ => absurd h9 (by decide))⟩
      have hx7 : e7 15 = e 15 := (show e7 15 = e6 15 by rw [ee7]; exact if_neg (by omega)).trans hx6
      have pe_55 := ee7
      refine Exists.intro _ (And.intro (cw_o9 hI7.1) ?_)
      refine Exists.intro _ (Exists.intro _ (And.intro (cw_a38 hI7.1) (And.intro (by omega) ?_)))
      rw [cw_s38 hI7.1]
      obtain ⟨e8, ee8⟩ : ∃ z9, z9 = va_up e7 38 (upd (e7 38) ((w 3)).toInt.toNat (-1 : Int32)) := ⟨_, rfl⟩
      rw [← ee8]
      have hI8 : cw_I K nn dn q w e8 := ⟨hI7.1, hI7.2.1, hI7.2.2.1, by rw [ee8]; exact cw_E_up hI7.2.2.2 _ _ (fun h9 _ => absurd h9 (by decide)) (fun h9 _ => absurd h9 (by decide))⟩
      have hx8 : e8 15 = e 15 := (show e8 15 = e7 15 by rw [ee8]; exact if_neg (by omega)).trans hx7
      have pe_63 := ee8
      refine Exists.intro _ (And.intro (cw_o9 hI8.1) ?_)
      have k1 : (1 : Int32).toInt = 1 := rfl
      intro m9 em_70
      try have e9 : m9.toInt = ((w 3)).toInt + (1) := by rw [em_70]; exact pm_addc _ _ (1) rfl (by omega) (by omega)
      refine Exists.intro _ (And.intro (cw_o9 hI8.1) (And.intro rfl ?_))
      rw [cw_p_number hI8.1]
      obtain ⟨w10, ew10⟩ : ∃ z9, z9 = upd w 3 m9 := ⟨_, rfl⟩
      rw [← ew10]
      have ew10_0 : (w10 0).toInt = (w 0).toInt := by rw [ew10]; rfl
      have ew10_1 : (w10 1).toInt = (w 1).toInt := by rw [ew10]; rfl
      have ew10_2 : (w10 2).toInt = (w 2).toInt := by rw [ew10]; rfl
      have ew10_3 : (w10 3).toInt = (m9).toInt := by rw [ew10]; rfl
      have pn_71 : w10 3 = m9 := by rw [ew10, pk_us]
      have pw_71 := ew10
      have hZ10 : cw_Z w10 := by rw [ew10]; exact cw_Z_up hI8.2.2.1 _ _ (by omega)
      have hI10 : cw_I K nn dn q w10 e8 := ⟨hI8.1, by unfold cw_W; omega, hZ10, hI8.2.2.2⟩
      exact ⟨rfl, fun e9 => absurd e9 (by decide), rfl, w10, e8, v, f, rfl, hI10, hs, hx8, (w 3), rfl, by first | omega | (dsimp only; omega) | trivial, by refine ⟨fun i9 h9 => ⟨by rw [pw_71, pk_un (by omega)], by rw [pe_63, va_un (by omega), pe_55, va_un (by omega), pe_47, va_un (by omega), pe_39, va_un (by omega), pe_31, va_un (by omega)]⟩, Or.inr ⟨by omega, (by rw [pw_71, pk_us] : w10 3 = _).trans em_70, rfl, ?_, ?_, ?_, ?_, ?_⟩⟩; (rw [pe_63, va_un (by decide), pe_55, va_un (by decide), pe_47, va_un (by decide), pe_39, va_un (by decide), pe_31, va_us]); (rw [pe_63, va_un (by decide), pe_55, va_un (by decide), pe_47, va_un (by decide), pe_39, va_us, pe_31, va_un (by decide)]); (rw [pe_63, va_un (by decide), pe_55, va_us, pe_47, va_un (by decide), pe_39, va_un (by decide), pe_31, va_un (by decide)]); (rw [pe_63, va_us, pe_55, va_un (by decide), pe_47, va_un (by decide), pe_39, va_un (by decide), pe_31, va_un (by decide)]); (rw [pe_63, va_un (by decide), pe_55, va_un (by decide), pe_47, va_us, pe_39, va_un (by decide), pe_31, va_un (by decide)])⟩
    · skip
      refine hC.1 1 16 _ _ rfl _ _ _ _ _ ?_
      have km1 : (-1 : Int32).toInt = -1 := rfl
      exact ⟨rfl, fun e9 => absurd e9 (by decide), rfl, w, e, v, f, rfl, hI, hs, rfl, (-1 : Int32), rfl, by first | omega | (dsimp only; omega) | trivial, by exact ⟨fun _ _ => ⟨rfl, rfl⟩, Or.inl ⟨fun h9 => (by omega), rfl, rfl, rfl, rfl, rfl, rfl, rfl⟩⟩⟩

set_option maxRecDepth 100000 in
set_option maxHeartbeats 2000000 in
theorem V_X10_ask (hI : cw_I K nn dn q w e) (hs : cw_S v f) (x1 : Int32) (x2 : Int32)  : pm_Mt l g 158 2 0 0 [.ref (q 0), .int x1, .int x2] (cw A0 g K nn dn q w e v f) (cw_Qt A0 g K nn dn q (fun r w2 e2 => e2 15 = e 15 ∧ (∃ x : Int32, r = some (.int x) ∧ (((w2 0).toInt = (w 0).toInt ∧ (w2 1).toInt = (w 1).toInt ∧ (w2 2).toInt = (w 2).toInt) ∧ ((∀ i9, 40 ≤ i9 → w2 i9 = w i9 ∧ e2 i9 = e i9) ∧ QST ((w 3).toInt < 30 ∧ 0 ≤ nextEq (e (nn + 2)) x1 0 (w nn).toInt.toNat ∧ 0 ≤ nextEq (e (nn + 2)) x2 0 (w nn).toInt.toNat) (-1) x1 x2 (w 3) (w2 3) x (e 35) (e 36) (e 37) (e 38) (e 39) (e2 35) (e2 36) (e2 37) (e2 38) (e2 39)))))) := by
  refine mt_X10_ask rfl (fun J hC => ?_)
  have ro_nn : cw_ro K nn := hI.2.1.2.1
  have ro_dn : cw_ro K dn := hI.2.1.2.2.1
  have hu1 := hI.2.1
  unfold cw_W at hu1
  have rg_x1 := pm_rng x1
  have rg_x2 := pm_rng x2
  refine hC.1 0 0 _ _ rfl _ _ _ _ _ ?_
  refine Exists.intro _ (And.intro (cw_o0 hI.1) ?_)
  refine Exists.intro _ (And.intro (cw_o1 hI.1) ?_)
  refine And.intro (Exists.intro _ (cw_ro_o hI.1 ro_nn)) (Exists.intro _ (Exists.intro _ (Exists.intro _ (Exists.intro _ (And.intro (V_X7_hasName hI hs ro_nn x1 ) (And.intro rfl (fun r9 A9 h9 => ?_)))))))
  rcases h9 with ⟨y2, rfl, rfl, ⟨rfl, by2⟩ | ⟨rfl, by2⟩⟩
  · skip
    have k1 : (1 : Int32).toInt = 1 := rfl
    have ya_9 := by2
    refine And.intro (fun c9 => absurd c9 (by decide)) (fun _ => ?_)
    refine And.intro (Exists.intro _ (cw_ro_o hI.1 ro_nn)) (Exists.intro _ (Exists.intro _ (Exists.intro _ (Exists.intro _ (And.intro (V_X7_hasName hI hs ro_nn x2 ) (And.intro rfl (fun r9 A9 h9 => ?_)))))))
    rcases h9 with ⟨y4, rfl, rfl, ⟨rfl, by4⟩ | ⟨rfl, by4⟩⟩
    · skip
      have yb_9 := by4
      refine And.intro (fun c9 => absurd c9 (by decide)) (fun _ => ?_)
      refine Exists.intro _ (And.intro (cw_o0 hI.1) ?_)
      have km1 : (-1 : Int32).toInt = -1 := rfl
      refine And.intro (Exists.intro _ (cw_o9 hI.1)) (Exists.intro _ (Exists.intro _ (Exists.intro _ (Exists.intro _ (And.intro (V_X5_add hI hs (-1 : Int32) x1 x2 ) (And.intro rfl (fun r9 A9 h9 => ?_)))))))
      rcases h9 with ⟨w7, e7, v7, f7, rfl, hI7, hs7, hy7, y6, rfl, by6⟩
      have hx7 : e7 15 = e 15 := hy7.trans rfl
      have hu8 := hI7.2.1
      unfold cw_W at hu8
      have hb_31 := by6.2
      refine hC.1 2 38 _ _ rfl _ _ _ _ _ ?_
      exact ⟨rfl, fun e9 => absurd e9 (by decide), rfl, w7, e7, v7, f7, rfl, hI7, hs7, hx7, y6, rfl, by first | omega | (dsimp only; omega) | trivial, by first | (exact ⟨hb_31.1, QST_i hb_31.2 ⟨fun h9 => ⟨h9.2, ya_9, yb_9⟩, fun h9 => (by omega)⟩⟩) | (exact ⟨fun _ _ => ⟨rfl, rfl⟩, Or.inl ⟨fun h9 => absurd h9.2.1 ya_9, rfl, rfl, rfl, rfl, rfl, rfl, rfl⟩⟩) | (exact ⟨fun _ _ => ⟨rfl, rfl⟩, Or.inl ⟨fun h9 => absurd h9.2.2 yb_9, rfl, rfl, rfl, rfl, rfl, rfl, rfl⟩⟩)⟩
    · skip
      have k0 : (0 : Int32).toInt = 0 := rfl
      have yb_9 := by4
      refine And.intro (fun _ => ?_) (fun c9 => absurd c9 (by decide))
      refine hC.1 1 37 _ _ rfl _ _ _ _ _ ?_
      have km1 : (-1 : Int32).toInt = -1 := rfl
      refine hC.1 2 38 _ _ rfl _ _ _ _ _ ?_
      exact ⟨rfl, fun e9 => absurd e9 (by decide), rfl, w, e, v, f, rfl, hI, hs, rfl, (-1 : Int32), rfl, by first | omega | (dsimp only; omega) | trivial, by first | (exact ⟨hb_31.1, QST_i hb_31.2 ⟨fun h9 => ⟨h9.2, ya_9, yb_9⟩, fun h9 => (by omega)⟩⟩) | (exact ⟨fun _ _ => ⟨rfl, rfl⟩, Or.inl ⟨fun h9 => absurd h9.2.1 ya_9, rfl, rfl, rfl, rfl, rfl, rfl, rfl⟩⟩) | (exact ⟨fun _ _ => ⟨rfl, rfl⟩, Or.inl ⟨fun h9 => absurd h9.2.2 yb_9, rfl, rfl, rfl, rfl, rfl, rfl, rfl⟩⟩)⟩
  · skip
    have k0 : (0 : Int32).toInt = 0 := rfl
    have ya_9 := by2
    refine And.intro (fun _ => ?_) (fun c9 => absurd c9 (by decide))
    refine hC.1 1 37 _ _ rfl _ _ _ _ _ ?_
    have km1 : (-1 : Int32).toInt = -1 := rfl
    refine hC.1 2 38 _ _ rfl _ _ _ _ _ ?_
    exact ⟨rfl, fun e9 => absurd e9 (by decide), rfl, w, e, v, f, rfl, hI, hs, rfl, (-1 : Int32), rfl, by first | omega | (dsimp only; omega) | trivial, by first | (exact ⟨hb_31.1, QST_i hb_31.2 ⟨fun h9 => ⟨h9.2, ya_9, yb_9⟩, fun h9 => (by omega)⟩⟩) | (exact ⟨fun _ _ => ⟨rfl, rfl⟩, Or.inl ⟨fun h9 => absurd h9.2.1 ya_9, rfl, rfl, rfl, rfl, rfl, rfl, rfl⟩⟩) | (exact ⟨fun _ _ => ⟨rfl, rfl⟩, Or.inl ⟨fun h9 => absurd h9.2.2 yb_9, rfl, rfl, rfl, rfl, rfl, rfl, rfl⟩⟩)⟩

set_option maxRecDepth 100000 in
set_option maxHeartbeats 2000000 in
theorem V_X10_askOf (hI : cw_I K nn dn q w e) (hs : cw_S v f) (x1 : Int32) (x2 : Int32) (x3 : Int32)  : pm_Mt l g 160 2 0 0 [.ref (q 0), .int x1, .int x2, .int x3] (cw A0 g K nn dn q w e v f) (cw_Qt A0 g K nn dn q (fun r w2 e2 => e2 15 = e 15 ∧ (∃ x : Int32, r = some (.int x) ∧ (((w2 0).toInt = (w 0).toInt ∧ (w2 1).toInt = (w 1).toInt ∧ (w2 2).toInt = (w 2).toInt) ∧ ((∀ i9, 40 ≤ i9 → w2 i9 = w i9 ∧ e2 i9 = e i9) ∧ QST ((w 3).toInt < 30 ∧ kno (w 0).toInt x1.toInt ∧ 0 ≤ nextEq (cM e x1.toInt) x2 0 (cN w x1.toInt).toNat ∧ 0 ≤ nextEq (cM e x1.toInt) x3 0 (cN w x1.toInt).toNat) x1 x2 x3 (w 3) (w2 3) x (e 35) (e 36) (e 37) (e 38) (e 39) (e2 35) (e2 36) (e2 37) (e2 38) (e2 39)))))) := by
  refine mt_X10_askOf rfl (fun J hC => ?_)
  have ro_nn : cw_ro K nn := hI.2.1.2.1
  have ro_dn : cw_ro K dn := hI.2.1.2.2.1
  have hu1 := hI.2.1
  unfold cw_W at hu1
  have rg_x1 := pm_rng x1
  have rg_x2 := pm_rng x2
  have rg_x3 := pm_rng x3
  refine hC.1 0 0 _ _ rfl _ _ _ _ _ ?_
  refine Exists.intro _ (And.intro (cw_o0 hI.1) ?_)
  refine And.intro (Exists.intro _ (cw_o1 hI.1)) (Exists.intro _ (Exists.intro _ (Exists.intro _ (Exists.intro _ (And.intro (F_X9_behind hI hs x1 ) (And.intro rfl (fun r9 A9 h9 => ?_)))))))
  rcases h9 with ⟨rfl, ⟨rfl, hn3⟩ | ⟨o3, rfl, ho3, hn3, he3⟩⟩
  · skip
    have kn_5 := hn3
    unfold kno at hn3
    refine hC.1 1 33 _ _ rfl _ _ _ _ _ ?_
    have km1 : (-1 : Int32).toInt = -1 := rfl
    exact ⟨rfl, fun e9 => absurd e9 (by decide), rfl, w, e, v, f, rfl, hI, hs, rfl, (-1 : Int32), rfl, by first | omega | (dsimp only; omega) | trivial, by first | (exact ⟨hb_42.1, QST_i hb_42.2 ⟨fun h9 => ⟨h9.2, kn_5, ya_9, yb_9⟩, fun h9 => (by omega)⟩⟩) | (exact ⟨fun _ _ => ⟨rfl, rfl⟩, Or.inl ⟨fun h9 => kn_5 h9.2.1, rfl, rfl, rfl, rfl, rfl, rfl, rfl⟩⟩) | (exact ⟨fun _ _ => ⟨rfl, rfl⟩, Or.inl ⟨fun h9 => ya_9 h9.2.2.1, rfl, rfl, rfl, rfl, rfl, rfl, rfl⟩⟩) | (exact ⟨fun _ _ => ⟨rfl, rfl⟩, Or.inl ⟨fun h9 => yb_9 h9.2.2.2, rfl, rfl, rfl, rfl, rfl, rfl, rfl⟩⟩)⟩
  · skip
    have kn_5 := hn3
    have ke_5 := he3
    have ko_5 : ∀ z9 : Nat, (z9 : Int) = 40 + 4 * ((x1).toInt % 41) → z9 = o3 := fun z9 h9 => (by omega)
    unfold kno at hn3
    have yo_9 : cro x1.toInt = o3 := ko_5 (cro x1.toInt) (cro_i kn_5.1)
    have yM_9 : cM e x1.toInt = e (o3 + 2) := (by unfold cM; rw [yo_9])
    have yN_9 : cN w x1.toInt = (w o3).toInt := (by unfold cN; rw [yo_9])
    refine And.intro (Exists.intro _ (cw_ro_o hI.1 ho3)) (Exists.intro _ (Exists.intro _ (Exists.intro _ (Exists.intro _ (And.intro (V_X7_hasName hI hs ho3 x2 ) (And.intro rfl (fun r9 A9 h9 => ?_)))))))
    rcases h9 with ⟨y4, rfl, rfl, ⟨rfl, by4⟩ | ⟨rfl, by4⟩⟩
    · skip
      have k1 : (1 : Int32).toInt = 1 := rfl
      have ya_9 := by4
      rw [← yM_9, ← yN_9] at ya_9
      refine And.intro (fun c9 => absurd c9 (by decide)) (fun _ => ?_)
      refine And.intro (Exists.intro _ (cw_ro_o hI.1 ho3)) (Exists.intro _ (Exists.intro _ (Exists.intro _ (Exists.intro _ (And.intro (V_X7_hasName hI hs ho3 x3 ) (And.intro rfl (fun r9 A9 h9 => ?_)))))))
      rcases h9 with ⟨y6, rfl, rfl, ⟨rfl, by6⟩ | ⟨rfl, by6⟩⟩
      · skip
        have yb_9 := by6
        rw [← yM_9, ← yN_9] at yb_9
        refine And.intro (fun _ => ?_) (fun c9 => absurd c9 (by decide))
        refine hC.1 2 35 _ _ rfl _ _ _ _ _ ?_
        refine Exists.intro _ (And.intro (cw_o0 hI.1) ?_)
        refine And.intro (Exists.intro _ (cw_o9 hI.1)) (Exists.intro _ (Exists.intro _ (Exists.intro _ (Exists.intro _ (And.intro (V_X5_add hI hs x1 x2 x3 ) (And.intro rfl (fun r9 A9 h9 => ?_)))))))
        rcases h9 with ⟨w9, e9, v9, f9, rfl, hI9, hs9, hy9, y8, rfl, by8⟩
        have hx9 : e9 15 = e 15 := hy9.trans rfl
        have hu10 := hI9.2.1
        unfold cw_W at hu10
        have hb_42 := by8.2
        exact ⟨rfl, fun e9 => absurd e9 (by decide), rfl, w9, e9, v9, f9, rfl, hI9, hs9, hx9, y8, rfl, by first | omega | (dsimp only; omega) | trivial, by first | (exact ⟨hb_42.1, QST_i hb_42.2 ⟨fun h9 => ⟨h9.2, kn_5, ya_9, yb_9⟩, fun h9 => (by omega)⟩⟩) | (exact ⟨fun _ _ => ⟨rfl, rfl⟩, Or.inl ⟨fun h9 => kn_5 h9.2.1, rfl, rfl, rfl, rfl, rfl, rfl, rfl⟩⟩) | (exact ⟨fun _ _ => ⟨rfl, rfl⟩, Or.inl ⟨fun h9 => ya_9 h9.2.2.1, rfl, rfl, rfl, rfl, rfl, rfl, rfl⟩⟩) | (exact ⟨fun _ _ => ⟨rfl, rfl⟩, Or.inl ⟨fun h9 => yb_9 h9.2.2.2, rfl, rfl, rfl, rfl, rfl, rfl, rfl⟩⟩)⟩
      · skip
        have k0 : (0 : Int32).toInt = 0 := rfl
        have yb_9 := by6
        rw [← yM_9, ← yN_9] at yb_9
        refine And.intro (fun c9 => absurd c9 (by decide)) (fun _ => ?_)
        refine hC.1 1 33 _ _ rfl _ _ _ _ _ ?_
        have km1 : (-1 : Int32).toInt = -1 := rfl
        exact ⟨rfl, fun e9 => absurd e9 (by decide), rfl, w, e, v, f, rfl, hI, hs, rfl, (-1 : Int32), rfl, by first | omega | (dsimp only; omega) | trivial, by first | (exact ⟨hb_42.1, QST_i hb_42.2 ⟨fun h9 => ⟨h9.2, kn_5, ya_9, yb_9⟩, fun h9 => (by omega)⟩⟩) | (exact ⟨fun _ _ => ⟨rfl, rfl⟩, Or.inl ⟨fun h9 => kn_5 h9.2.1, rfl, rfl, rfl, rfl, rfl, rfl, rfl⟩⟩) | (exact ⟨fun _ _ => ⟨rfl, rfl⟩, Or.inl ⟨fun h9 => ya_9 h9.2.2.1, rfl, rfl, rfl, rfl, rfl, rfl, rfl⟩⟩) | (exact ⟨fun _ _ => ⟨rfl, rfl⟩, Or.inl ⟨fun h9 => yb_9 h9.2.2.2, rfl, rfl, rfl, rfl, rfl, rfl, rfl⟩⟩)⟩
    · skip
      have k0 : (0 : Int32).toInt = 0 := rfl
      have ya_9 := by4
      rw [← yM_9, ← yN_9] at ya_9
      refine And.intro (fun _ => ?_) (fun c9 => absurd c9 (by decide))
      refine hC.1 1 33 _ _ rfl _ _ _ _ _ ?_
      have km1 : (-1 : Int32).toInt = -1 := rfl
      exact ⟨rfl, fun e9 => absurd e9 (by decide), rfl, w, e, v, f, rfl, hI, hs, rfl, (-1 : Int32), rfl, by first | omega | (dsimp only; omega) | trivial, by first | (exact ⟨hb_42.1, QST_i hb_42.2 ⟨fun h9 => ⟨h9.2, kn_5, ya_9, yb_9⟩, fun h9 => (by omega)⟩⟩) | (exact ⟨fun _ _ => ⟨rfl, rfl⟩, Or.inl ⟨fun h9 => kn_5 h9.2.1, rfl, rfl, rfl, rfl, rfl, rfl, rfl⟩⟩) | (exact ⟨fun _ _ => ⟨rfl, rfl⟩, Or.inl ⟨fun h9 => ya_9 h9.2.2.1, rfl, rfl, rfl, rfl, rfl, rfl, rfl⟩⟩) | (exact ⟨fun _ _ => ⟨rfl, rfl⟩, Or.inl ⟨fun h9 => yb_9 h9.2.2.2, rfl, rfl, rfl, rfl, rfl, rfl, rfl⟩⟩)⟩

set_option maxRecDepth 100000 in
set_option maxHeartbeats 2000000 in
theorem V_X10_forget (hI : cw_I K nn dn q w e) (hs : cw_S v f)   : pm_Mt l g 165 0 0 0 [.ref (q 0)] (cw A0 g K nn dn q w e v f) (cw_Qt A0 g K nn dn q (fun r w2 e2 => e2 15 = e 15 ∧ (∃ x : Int32, r = some (.int x) ∧ (((w2 0).toInt = (w 0).toInt ∧ (w2 1).toInt = (w 1).toInt ∧ (w2 2).toInt = (w 2).toInt) ∧ ((∀ i9, 40 ≤ i9 → w2 i9 = w i9 ∧ e2 i9 = e i9) ∧ (x = w 3 ∧ (w2 3).toInt = 0) ∧ ∀ i9, e2 i9 = e i9))))) := by
  refine mt_X10_forget rfl (fun J hC => ?_)
  have ro_nn : cw_ro K nn := hI.2.1.2.1
  have ro_dn : cw_ro K dn := hI.2.1.2.2.1
  have hu1 := hI.2.1
  unfold cw_W at hu1
  refine hC.1 0 0 _ _ rfl _ _ _ _ _ ?_
  refine Exists.intro _ (And.intro (cw_o0 hI.1) ?_)
  refine Exists.intro _ (And.intro (cw_o9 hI.1) ?_)
  refine Exists.intro _ (And.intro (cw_o0 hI.1) ?_)
  have k0 : (0 : Int32).toInt = 0 := rfl
  refine Exists.intro _ (And.intro (cw_o9 hI.1) (And.intro rfl ?_))
  rw [cw_p_number hI.1]
  obtain ⟨w2, ew2⟩ : ∃ z9, z9 = upd w 3 (0 : Int32) := ⟨_, rfl⟩
  rw [← ew2]
  have ew2_0 : (w2 0).toInt = (w 0).toInt := by rw [ew2]; rfl
  have ew2_1 : (w2 1).toInt = (w 1).toInt := by rw [ew2]; rfl
  have ew2_2 : (w2 2).toInt = (w 2).toInt := by rw [ew2]; rfl
  have ew2_3 : (w2 3).toInt = ((0 : Int32)).toInt := by rw [ew2]; rfl
  have pn_13 : w2 3 = (0 : Int32) := by rw [ew2, pk_us]
  have pw_13 := ew2
  have hZ2 : cw_Z w2 := by rw [ew2]; exact cw_Z_up hI.2.2.1 _ _ (by omega)
  have hI2 : cw_I K nn dn q w2 e := ⟨hI.1, by unfold cw_W; omega, hZ2, hI.2.2.2⟩
  exact ⟨rfl, fun e9 => absurd e9 (by decide), rfl, w2, e, v, f, rfl, hI2, hs, rfl, (w 3), rfl, by first | omega | (dsimp only; omega) | trivial, by exact ⟨fun i9 h9 => ⟨by rw [pw_13, pk_un (by omega)], rfl⟩, ⟨rfl, by rw [pw_13, pk_us]; rfl⟩, fun _ => rfl⟩⟩

set_option maxRecDepth 100000 in
set_option maxHeartbeats 2000000 in
theorem V_X5_answer (hI : cw_I K nn dn q w e) (hs : cw_S v f) (x1 : Int32) {o2 : Nat} (ho2 : cw_ro K o2) (p0 : 0 ≤ x1.toInt ∧ x1.toInt < 30) : pm_Mt l g 162 3 0 0 [.ref (q 9), .int x1, .ref (q o2), .ref (q 2)] (cw A0 g K nn dn q w e v f) (cw_Qt A0 g K nn dn q (fun r w2 e2 => e2 15 = e 15 ∧ ((r = some (.int 1) ∧ (((w2 0).toInt = (w 0).toInt ∧ (w2 1).toInt = (w 1).toInt ∧ (w2 2).toInt = (w 2).toInt ∧ (w2 3).toInt = (w 3).toInt) ∧ (w2 = w ∧ (∀ i9, i9 ≠ 37 → i9 ≠ 38 → e2 i9 = e i9) ∧ ∃ a9 b9 : Int32, e2 37 = upd (e 37) x1.toInt.toNat a9 ∧ e2 38 = upd (e 38) x1.toInt.toNat b9 ∧ ANR (e (o2 + 1)) (e (o2 + 2)) (e 15) (w o2).toInt (e 35 x1.toInt.toNat) (e 36 x1.toInt.toNat) a9 b9 ∧ ¬ a9 = -1))) ∨ (r = some (.int 0) ∧ (((w2 0).toInt = (w 0).toInt ∧ (w2 1).toInt = (w 1).toInt ∧ (w2 2).toInt = (w 2).toInt ∧ (w2 3).toInt = (w 3).toInt) ∧ (w2 = w ∧ (∀ i9, i9 ≠ 37 → i9 ≠ 38 → e2 i9 = e i9) ∧ ∃ a9 b9 : Int32, e2 37 = upd (e 37) x1.toInt.toNat a9 ∧ e2 38 = upd (e 38) x1.toInt.toNat b9 ∧ ANR (e (o2 + 1)) (e (o2 + 2)) (e 15) (w o2).toInt (e 35 x1.toInt.toNat) (e 36 x1.toInt.toNat) a9 b9 ∧ a9 = -1)))))) := by
  refine mt_X5_answer rfl (fun J hC => ?_)
  have ro_nn : cw_ro K nn := hI.2.1.2.1
  have ro_dn : cw_ro K dn := hI.2.1.2.2.1
  have hu1 := hI.2.1
  unfold cw_W at hu1
  have rg_x1 := pm_rng x1
  have yd_9 := ho2
  unfold cw_ro at yd_9
  have zz2 := cw_sz hI ho2
  refine hC.1 0 0 _ _ rfl _ _ _ _ _ ?_
  refine Exists.intro _ (And.intro (cw_o9 hI.1) ?_)
  have km1 : (-1 : Int32).toInt = -1 := rfl
  refine Exists.intro _ (Exists.intro _ (And.intro (cw_a37 hI.1) (And.intro (by omega) ?_)))
  rw [cw_s37 hI.1]
  obtain ⟨e2, ee2⟩ : ∃ z9, z9 = va_up e 37 (upd (e 37) (x1).toInt.toNat (-1 : Int32)) := ⟨_, rfl⟩
  rw [← ee2]
  have hI2 : cw_I K nn dn q w e2 := ⟨hI.1, hI.2.1, hI.2.2.1, by rw [ee2]; exact cw_E_up hI.2.2.2 _ _ (fun h9 _ => absurd h9 (by decide)) (fun h9 _ => absurd h9 (by decide))⟩
  have hx2 : e2 15 = e 15 := (show e2 15 = e 15 by rw [ee2]; exact if_neg (by omega)).trans rfl
  have pe_6 := ee2
  refine Exists.intro _ (And.intro (cw_o9 hI2.1) ?_)
  refine Exists.intro _ (Exists.intro _ (And.intro (cw_a38 hI2.1) (And.intro (by omega) ?_)))
  rw [cw_s38 hI2.1]
  obtain ⟨e3, ee3⟩ : ∃ z9, z9 = va_up e2 38 (upd (e2 38) (x1).toInt.toNat (-1 : Int32)) := ⟨_, rfl⟩
  rw [← ee3]
  have hI3 : cw_I K nn dn q w e3 := ⟨hI2.1, hI2.2.1, hI2.2.2.1, by rw [ee3]; exact cw_E_up hI2.2.2.2 _ _ (fun h9 _ => absurd h9 (by decide)) (fun h9 _ => absurd h9 (by decide))⟩
  have hx3 : e3 15 = e 15 := (show e3 15 = e2 15 by rw [ee3]; exact if_neg (by omega)).trans hx2
  have pe_13 := ee3
  refine hC.1 1 20 _ _ rfl _ _ _ _ _ ?_
  have en_9 : ∀ i9, i9 ≠ 37 → i9 ≠ 38 → e3 i9 = e i9 := fun i9 h9 h8 => (by rw [pe_13, va_un h8, pe_6, va_un h9])
  refine Exists.intro _ (And.intro (cw_o9 hI3.1) ?_)
  refine Exists.intro _ (Exists.intro _ (And.intro (Or.inl (cw_a35 hI3.1)) (And.intro (by omega) ?_)))
  refine And.intro (Exists.intro _ (cw_ro_o hI3.1 ho2)) (Exists.intro _ (Exists.intro _ (Exists.intro _ (Exists.intro _ (And.intro (F_X7_placeOf hI3 hs ho2 (e3 35 (x1).toInt.toNat) ) (And.intro rfl (fun r9 A9 h9 => ?_)))))))
  obtain ⟨y4, rfl, rfl, by4⟩ := h9
  have yp_9 := FST_n (by omega) by4.2
  have yp_8 := by4.1
  rw [en_9 (o2 + 2) (by omega) (by omega), en_9 35 (by decide) (by decide)] at yp_9
  refine Exists.intro _ (And.intro (cw_o9 hI3.1) ?_)
  refine Exists.intro _ (Exists.intro _ (And.intro (Or.inl (cw_a36 hI3.1)) (And.intro (by omega) ?_)))
  refine And.intro (Exists.intro _ (cw_ro_o hI3.1 ho2)) (Exists.intro _ (Exists.intro _ (Exists.intro _ (Exists.intro _ (And.intro (F_X7_placeOf hI3 hs ho2 (e3 36 (x1).toInt.toNat) ) (And.intro rfl (fun r9 A9 h9 => ?_)))))))
  obtain ⟨y6, rfl, rfl, by6⟩ := h9
  have yq_9 := FST_n (by omega) by6.2
  have yq_8 := by6.1
  rw [en_9 (o2 + 2) (by omega) (by omega), en_9 36 (by decide) (by decide)] at yq_9
  refine And.intro (fun c8 => ?_) (fun c8 => ?_)
  · skip
    have dc8 : (y4).toInt = ((-1 : Int32) : Int32).toInt := congrArg Int32.toInt c8
    refine hC.1 2 56 _ _ rfl _ _ _ _ _ ?_
    have k0 : (0 : Int32).toInt = 0 := rfl
    exact ⟨rfl, fun _ => (by decide), rfl, w, e3, v, f, rfl, hI3, hs, hx3, Or.inr ⟨rfl, by first | omega | (dsimp only; omega) | trivial, by exact ⟨rfl, fun i9 h9 h8 => (by rw [pe_13, va_un h8, pe_6, va_un h9]), -1, -1, (by rw [pe_13, va_un (by decide), pe_6, va_us]), (by rw [pe_13, va_us, pe_6, va_un (by decide)]), ANR_no yp_9 yq_9 (by omega) rfl rfl, rfl⟩⟩⟩
  · skip
    have dc8 := pm_neI c8
    refine And.intro (fun c9 => ?_) (fun c9 => ?_)
    · skip
      have dc9 := pm_neI c9
      refine hC.1 3 58 _ _ rfl _ _ _ _ _ ?_
      refine Exists.intro _ (Exists.intro _ (Exists.intro _ (Exists.intro _ (And.intro (c_J9_min_7cf53 (cw A0 g K nn dn q w e3 v f) y4 y6 ) (And.intro rfl (fun r9 A9 h9 => ?_))))))
      obtain ⟨y10, rfl, rfl, by10⟩ := h9
      refine Exists.intro _ (Exists.intro _ (Exists.intro _ (Exists.intro _ (And.intro (c_J9_max_7cf53 (cw A0 g K nn dn q w e3 v f) y4 y6 ) (And.intro rfl (fun r9 A9 h9 => ?_))))))
      obtain ⟨y12, rfl, rfl, by12⟩ := h9
      refine And.intro (Exists.intro _ (cw_o2 hI3.1)) (Exists.intro _ (Exists.intro _ (Exists.intro _ (Exists.intro _ (And.intro (F_X2_read hI3 hs ho2 y10 y12 (by omega)) (And.intro rfl (fun r9 A9 h9 => ?_)))))))
      rcases h9 with ⟨v15, f15, rfl, hs15, rfl, by14⟩
      have yr_9 := by14.2.1
      rw [en_9 (o2 + 1) (by omega) (by omega), en_9 15 (by decide) (by decide)] at yr_9
      have yk_9 := PAL_kd (fun j9 => cw_col hI ho2 j9) yr_9
      have ym_9 := PAL_ms (fun j9 => cw_col hI ho2 j9) yr_9
      refine Exists.intro _ (And.intro (cw_o9 hI3.1) ?_)
      refine Exists.intro _ (And.intro (cw_o2 hI3.1) ?_)
      refine Exists.intro _ (Exists.intro _ (And.intro (cw_a37 hI3.1) (And.intro (by omega) ?_)))
      rw [cw_s37 hI3.1]
      obtain ⟨e16, ee16⟩ : ∃ z9, z9 = va_up e3 37 (upd (e3 37) (x1).toInt.toNat (v15 2)) := ⟨_, rfl⟩
      rw [← ee16]
      have hI16 : cw_I K nn dn q w e16 := ⟨hI3.1, hI3.2.1, hI3.2.2.1, by rw [ee16]; exact cw_E_up hI3.2.2.2 _ _ (fun h9 _ => absurd h9 (by decide)) (fun h9 _ => absurd h9 (by decide))⟩
      have hx16 : e16 15 = e 15 := (show e16 15 = e3 15 by rw [ee16]; exact if_neg (by omega)).trans hx3
      have pe_86 := ee16
      refine Exists.intro _ (And.intro (cw_o9 hI16.1) ?_)
      refine Exists.intro _ (And.intro (cw_o2 hI16.1) ?_)
      refine Exists.intro _ (Exists.intro _ (And.intro (cw_a38 hI16.1) (And.intro (by omega) ?_)))
      rw [cw_s38 hI16.1]
      obtain ⟨e17, ee17⟩ : ∃ z9, z9 = va_up e16 38 (upd (e16 38) (x1).toInt.toNat (v15 4)) := ⟨_, rfl⟩
      rw [← ee17]
      have hI17 : cw_I K nn dn q w e17 := ⟨hI16.1, hI16.2.1, hI16.2.2.1, by rw [ee17]; exact cw_E_up hI16.2.2.2 _ _ (fun h9 _ => absurd h9 (by decide)) (fun h9 _ => absurd h9 (by decide))⟩
      have hx17 : e17 15 = e 15 := (show e17 15 = e16 15 by rw [ee17]; exact if_neg (by omega)).trans hx16
      have pe_96 := ee17
      have k1 : (1 : Int32).toInt = 1 := rfl
      exact ⟨rfl, fun _ => (by decide), rfl, w, e17, v15, f15, rfl, hI17, hs15, hx17, Or.inl ⟨rfl, by first | omega | (dsimp only; omega) | trivial, by exact ⟨rfl, fun i9 h9 h8 => (by rw [pe_96, va_un h8, pe_86, va_un h9, pe_13, va_un h8, pe_6, va_un h9]), _, _, (by rw [pe_96, va_un (by decide), pe_86, va_us, pe_13, va_un (by decide), pe_6, va_us, pk_uu]), (by rw [pe_96, va_us, pe_86, va_un (by decide), pe_13, va_us, pe_6, va_un (by decide), pk_uu]), ANR_yes yp_9 yq_9 (by omega) (by omega) yk_9 ym_9, m1_ne (by rw [yk_9]; omega)⟩⟩⟩
    · skip
      have dc9 : (y6).toInt = ((-1 : Int32) : Int32).toInt := congrArg Int32.toInt c9
      refine hC.1 2 56 _ _ rfl _ _ _ _ _ ?_
      have k0 : (0 : Int32).toInt = 0 := rfl
      exact ⟨rfl, fun _ => (by decide), rfl, w, e3, v, f, rfl, hI3, hs, hx3, Or.inr ⟨rfl, by first | omega | (dsimp only; omega) | trivial, by exact ⟨rfl, fun i9 h9 h8 => (by rw [pe_13, va_un h8, pe_6, va_un h9]), -1, -1, (by rw [pe_13, va_un (by decide), pe_6, va_us]), (by rw [pe_13, va_us, pe_6, va_un (by decide)]), ANR_no yp_9 yq_9 (by omega) rfl rfl, rfl⟩⟩⟩

set_option maxRecDepth 100000 in
set_option maxHeartbeats 2000000 in
theorem V_X5_answer__n (hI : cw_I K nn dn q w e) (hs : cw_S v f) (x1 : Int32) (p0 : 0 ≤ x1.toInt ∧ x1.toInt < 30) : pm_Mt l g 162 3 0 0 [.ref (q 9), .int x1, .null, .ref (q 2)] (cw A0 g K nn dn q w e v f) (cw_Qt A0 g K nn dn q (fun r w2 e2 => e2 15 = e 15 ∧ ((r = some (.int 1) ∧ (((w2 0).toInt = (w 0).toInt ∧ (w2 1).toInt = (w 1).toInt ∧ (w2 2).toInt = (w 2).toInt ∧ (w2 3).toInt = (w 3).toInt) ∧ (w2 = w ∧ (∀ i9, i9 ≠ 37 → i9 ≠ 38 → e2 i9 = e i9) ∧ ∃ a9 b9 : Int32, e2 37 = upd (e 37) x1.toInt.toNat a9 ∧ e2 38 = upd (e 38) x1.toInt.toNat b9 ∧ (a9 = -1 ∧ b9 = -1) ∧ ¬ a9 = -1))) ∨ (r = some (.int 0) ∧ (((w2 0).toInt = (w 0).toInt ∧ (w2 1).toInt = (w 1).toInt ∧ (w2 2).toInt = (w 2).toInt ∧ (w2 3).toInt = (w 3).toInt) ∧ (w2 = w ∧ (∀ i9, i9 ≠ 37 → i9 ≠ 38 → e2 i9 = e i9) ∧ ∃ a9 b9 : Int32, e2 37 = upd (e 37) x1.toInt.toNat a9 ∧ e2 38 = upd (e 38) x1.toInt.toNat b9 ∧ (a9 = -1 ∧ b9 = -1) ∧ a9 = -1)))))) := by
  refine mt_X5_answer rfl (fun J hC => ?_)
  have ro_nn : cw_ro K nn := hI.2.1.2.1
  have ro_dn : cw_ro K dn := hI.2.1.2.2.1
  have hu1 := hI.2.1
  unfold cw_W at hu1
  have rg_x1 := pm_rng x1
  refine hC.1 0 0 _ _ rfl _ _ _ _ _ ?_
  refine Exists.intro _ (And.intro (cw_o9 hI.1) ?_)
  have km1 : (-1 : Int32).toInt = -1 := rfl
  refine Exists.intro _ (Exists.intro _ (And.intro (cw_a37 hI.1) (And.intro (by omega) ?_)))
  rw [cw_s37 hI.1]
  obtain ⟨e2, ee2⟩ : ∃ z9, z9 = va_up e 37 (upd (e 37) (x1).toInt.toNat (-1 : Int32)) := ⟨_, rfl⟩
  rw [← ee2]
  have hI2 : cw_I K nn dn q w e2 := ⟨hI.1, hI.2.1, hI.2.2.1, by rw [ee2]; exact cw_E_up hI.2.2.2 _ _ (fun h9 _ => absurd h9 (by decide)) (fun h9 _ => absurd h9 (by decide))⟩
  have hx2 : e2 15 = e 15 := (show e2 15 = e 15 by rw [ee2]; exact if_neg (by omega)).trans rfl
  have pe_6 := ee2
  refine Exists.intro _ (And.intro (cw_o9 hI2.1) ?_)
  refine Exists.intro _ (Exists.intro _ (And.intro (cw_a38 hI2.1) (And.intro (by omega) ?_)))
  rw [cw_s38 hI2.1]
  obtain ⟨e3, ee3⟩ : ∃ z9, z9 = va_up e2 38 (upd (e2 38) (x1).toInt.toNat (-1 : Int32)) := ⟨_, rfl⟩
  rw [← ee3]
  have hI3 : cw_I K nn dn q w e3 := ⟨hI2.1, hI2.2.1, hI2.2.2.1, by rw [ee3]; exact cw_E_up hI2.2.2.2 _ _ (fun h9 _ => absurd h9 (by decide)) (fun h9 _ => absurd h9 (by decide))⟩
  have hx3 : e3 15 = e 15 := (show e3 15 = e2 15 by rw [ee3]; exact if_neg (by omega)).trans hx2
  have pe_13 := ee3
  have k0 : (0 : Int32).toInt = 0 := rfl
  exact ⟨rfl, fun _ => (by decide), rfl, w, e3, v, f, rfl, hI3, hs, hx3, Or.inr ⟨rfl, by first | omega | (dsimp only; omega) | trivial, by exact ⟨rfl, fun i9 h9 h8 => (by rw [pe_13, va_un h8, pe_6, va_un h9]), -1, -1, (by rw [pe_13, va_un (by decide), pe_6, va_us]), (by rw [pe_13, va_us, pe_6, va_un (by decide)]), ⟨rfl, rfl⟩, rfl⟩⟩⟩

end
end
section
section
variable {l : Launch} {g : pm_G} {A0 : pm_H} {K nn dn : Nat} {q : Nat → Nat} {w : Nat → Int32} {e : Nat → Nat → Int32} {v : Nat → Int32} {f : Nat → Nat → Int32}
set_option maxRecDepth 100000 in
set_option maxHeartbeats 2000000 in
theorem V_X10_solve (hI : cw_I K nn dn q w e) (hs : cw_S v f)   : pm_Mt l g 161 4 0 0 [.ref (q 0)] (cw A0 g K nn dn q w e v f) (cw_Qt A0 g K nn dn q (fun r w2 e2 => e2 15 = e 15 ∧ (∃ x : Int32, r = some (.int x) ∧ (((w2 0).toInt = (w 0).toInt ∧ (w2 1).toInt = (w 1).toInt ∧ (w2 2).toInt = (w 2).toInt ∧ (w2 3).toInt = (w 3).toInt) ∧ ((∀ i9, 40 ≤ i9 → w2 i9 = w i9 ∧ e2 i9 = e i9) ∧ (w2 3 = w 3 ∧ w2 2 = w 2 ∧ e2 35 = e 35 ∧ e2 36 = e 36 ∧ e2 39 = e 39) ∧ (∀ j9 : Nat, (j9 : Int) < (w 3).toInt → AKI (e (nn + 1)) (e (nn + 2)) (e 15) (w nn).toInt (w 0).toInt (cN w) (cC e) (cM e) (e 39 j9) (e 35 j9) (e 36 j9) (e2 37 j9) (e2 38 j9)) ∧ x.toInt = cnA (e2 37) (w 3).toInt.toNat))))) := by
  refine mt_X10_solve rfl (fun J hC => ?_)
  have ro_nn : cw_ro K nn := hI.2.1.2.1
  have ro_dn : cw_ro K dn := hI.2.1.2.2.1
  have hu1 := hI.2.1
  unfold cw_W at hu1
  refine hC.1 0 0 _ _ rfl _ _ _ _ _ ?_
  have k0 : (0 : Int32).toInt = 0 := rfl
  have lp3 : ∀ (n : Nat) (z1_4 : Int32) (z2_4 : Int32) (w2 : Nat → Int32) (e2 : Nat → Nat → Int32) (v2 : Nat → Int32) (f2 : Nat → Nat → Int32), cw_I K nn dn q w2 e2 → e2 15 = e 15 → cw_S v2 f2 → (0 ≤ z2_4.toInt ∧ z2_4.toInt ≤ (w 3).toInt) → (w2 = w ∧ ∀ i9, i9 ≠ 37 → i9 ≠ 38 → e2 i9 = e i9) → (0 ≤ z1_4.toInt ∧ z1_4.toInt ≤ z2_4.toInt ∧ z1_4.toInt = cnA (e2 37) z2_4.toInt.toNat) → (∀ j9 : Nat, (j9 : Int) < z2_4.toInt → AKI (e (nn + 1)) (e (nn + 2)) (e 15) (w nn).toInt (w 0).toInt (cN w) (cC e) (cM e) (e 39 j9) (e 35 j9) (e 36 j9) (e2 37 j9) (e2 38 j9)) → (w2 0).toInt = (w 0).toInt → (w2 1).toInt = (w 1).toInt → (w2 2).toInt = (w 2).toInt → (w2 3).toInt = (w 3).toInt → 200 - z2_4.toInt < (n : Int) → J 4 [some (.ref (q 0)), some (.int z1_4), some (.int z2_4), none, none] [] (cw A0 g K nn dn q w2 e2 v2 f2) 0 0 := by
    intro n
    induction n with
    | zero =>
      intro z1_4 z2_4 w2 e2 v2 f2 hI2 hx2 hs2 j0_4 j1_4 j2_4 j3_4 j4_4 j5_4 j6_4 j7_4 j8_4
      omega
    | succ n ih4 =>
      intro z1_4 z2_4 w2 e2 v2 f2 hI2 hx2 hs2 j0_4 j1_4 j2_4 j3_4 j4_4 j5_4 j6_4 j7_4 j8_4
      have en_9 := j1_4.2
      have ew_9 := j1_4.1
      have nn_9 := ro_nn
      unfold cw_ro at nn_9
      have e39_9 : e2 39 = e 39 := en_9 39 (by decide) (by decide)
      have e35_9 : e2 35 = e 35 := en_9 35 (by decide) (by decide)
      have e36_9 : e2 36 = e 36 := en_9 36 (by decide) (by decide)
      have e15_9 : e2 15 = e 15 := en_9 15 (by decide) (by decide)
      have hu5 := hI2.2.1
      unfold cw_W at hu5
      refine hC.1 1 4 _ _ rfl _ _ _ _ _ ?_
      refine Exists.intro _ (And.intro (cw_o0 hI2.1) ?_)
      refine Exists.intro _ (And.intro (cw_o9 hI2.1) ?_)
      refine And.intro (fun c6 => ?_) (fun c6 => ?_)
      · skip
        refine hC.1 5 76 _ _ rfl _ _ _ _ _ ?_
        exact ⟨rfl, fun e9 => absurd e9 (by decide), rfl, w2, e2, v2, f2, rfl, hI2, hs2, hx2, z1_4, rfl, by first | omega | (dsimp only; omega) | trivial, by exact ⟨fun i9 h9 => ⟨by rw [ew_9], en_9 i9 (by omega) (by omega)⟩, ⟨by rw [ew_9], by rw [ew_9], e35_9, e36_9, e39_9⟩, fun j9 h9 => j3_4 j9 (by rw [← ew_9] at h9; omega), by rw [show (w 3).toInt.toNat = z2_4.toInt.toNat by (rw [← ew_9]; omega)]; exact j2_4.2.2⟩⟩
      · skip
        refine Exists.intro _ (And.intro (cw_o0 hI2.1) ?_)
        refine Exists.intro _ (And.intro (cw_o9 hI2.1) ?_)
        refine Exists.intro _ (Exists.intro _ (And.intro (Or.inl (cw_a39 hI2.1)) (And.intro (by omega) ?_)))
        have km1 : (-1 : Int32).toInt = -1 := rfl
        refine And.intro (fun c7 => ?_) (fun c7 => ?_)
        · skip
          have dc7 := pm_neI c7
          refine hC.1 2 40 _ _ rfl _ _ _ _ _ ?_
          refine Exists.intro _ (And.intro (cw_o0 hI2.1) ?_)
          refine And.intro (Exists.intro _ (cw_o1 hI2.1)) (Exists.intro _ (Exists.intro _ (Exists.intro _ (Exists.intro _ (And.intro (F_X9_behind hI2 hs2 (e2 39 (z2_4).toInt.toNat) ) (And.intro rfl (fun r9 A9 h9 => ?_)))))))
          rcases h9 with ⟨rfl, ⟨rfl, hn9⟩ | ⟨o9, rfl, ho9, hn9, he9⟩⟩
          · skip
            have kn_45 := hn9
            unfold kno at hn9
            have yk_9 : ∀ x9 y9 : Int32, x9 = -1 ∧ y9 = -1 → AKI (e (nn + 1)) (e (nn + 2)) (e 15) (w nn).toInt (w 0).toInt (cN w) (cC e) (cM e) (e 39 z2_4.toInt.toNat) (e 35 z2_4.toInt.toNat) (e 36 z2_4.toInt.toNat) x9 y9 := fun x9 y9 h9 => Or.inr (Or.inr ⟨(by rw [← e39_9]; omega), (by rw [← e39_9, ← ew_9]; exact kn_45), h9.1, h9.2⟩)
            refine hC.1 3 48 _ _ rfl _ _ _ _ _ ?_
            refine Exists.intro _ (And.intro (cw_o0 hI2.1) ?_)
            refine Exists.intro _ (And.intro (cw_o0 hI2.1) ?_)
            refine And.intro (Exists.intro _ (cw_o9 hI2.1)) (Exists.intro _ (Exists.intro _ (Exists.intro _ (Exists.intro _ (And.intro (V_X5_answer__n hI2 hs2 z2_4 (by omega)) (And.intro rfl (fun r9 A9 h9 => ?_)))))))
            rcases h9 with ⟨w11, e11, v11, f11, rfl, hI11, hs11, hy11, hzy10⟩
            have hx11 : e11 15 = e 15 := hy11.trans hx2
            have hu12 := hI11.2.1
            unfold cw_W at hu12
            rcases hzy10 with ⟨rfl, by10⟩ | ⟨rfl, by10⟩
            · skip
              have k1 : (1 : Int32).toInt = 1 := rfl
              have hb_61 := by10.2
              obtain ⟨a8_9, b8_9, g1_9, g2_9, g3_9, g4_9⟩ := hb_61.2.2
              have hc_9 := cnA_1 g1_9 g4_9
              refine And.intro (fun c9 => absurd c9 (by decide)) (fun _ => ?_)
              intro m13 em_67
              try have e13 : m13.toInt = (z1_4).toInt + (1) := by rw [em_67]; exact pm_addc _ _ (1) rfl (by omega) (by omega)
              refine hC.1 4 70 _ _ rfl _ _ _ _ _ ?_
              intro m14 em_70
              try have e14 : m14.toInt = (z2_4).toInt + (1) := by rw [em_70]; exact pm_addc _ _ (1) rfl (by omega) (by omega)
              exact hC.2 [false, false, false, true, true] _ _ _ _ _ _ (ih4 m13 m14 w11 e11 v11 f11 hI11 hx11 hs11 (by omega) (by exact ⟨hb_61.1.trans ew_9, fun i9 h9 h8 => (hb_61.2.1 i9 h9 h8).trans (en_9 i9 h9 h8)⟩) (by refine ⟨by omega, by omega, ?_⟩; rw [show m14.toInt.toNat = z2_4.toInt.toNat + 1 by omega, hc_9]; omega) (by intro j9 h9; by_cases h8 : j9 = z2_4.toInt.toNat; (subst h8; rw [g1_9, g2_9, pk_us, pk_us]; exact yk_9 _ _ g3_9); (rw [g1_9, g2_9, pk_un h8, pk_un h8]; exact j3_4 j9 (by omega))) (by omega) (by omega) (by omega) (by omega) (by omega))
            · skip
              have hb_61 := by10.2
              obtain ⟨a8_9, b8_9, g1_9, g2_9, g3_9, g4_9⟩ := hb_61.2.2
              have hc_9 := cnA_0 g1_9 g4_9
              refine And.intro (fun _ => ?_) (fun c9 => absurd c9 (by decide))
              refine hC.1 4 70 _ _ rfl _ _ _ _ _ ?_
              have k1 : (1 : Int32).toInt = 1 := rfl
              intro m15 em_70
              try have e15 : m15.toInt = (z2_4).toInt + (1) := by rw [em_70]; exact pm_addc _ _ (1) rfl (by omega) (by omega)
              exact hC.2 [false, false, false, true, true] _ _ _ _ _ _ (ih4 z1_4 m15 w11 e11 v11 f11 hI11 hx11 hs11 (by omega) (by exact ⟨hb_61.1.trans ew_9, fun i9 h9 h8 => (hb_61.2.1 i9 h9 h8).trans (en_9 i9 h9 h8)⟩) (by refine ⟨by omega, by omega, ?_⟩; rw [show m15.toInt.toNat = z2_4.toInt.toNat + 1 by omega, hc_9]; omega) (by intro j9 h9; by_cases h8 : j9 = z2_4.toInt.toNat; (subst h8; rw [g1_9, g2_9, pk_us, pk_us]; exact yk_9 _ _ g3_9); (rw [g1_9, g2_9, pk_un h8, pk_un h8]; exact j3_4 j9 (by omega))) (by omega) (by omega) (by omega) (by omega) (by omega))
          · skip
            have kn_45 := hn9
            have ke_45 := he9
            have ko_45 : ∀ z9 : Nat, (z9 : Int) = 40 + 4 * (((e2 39 (z2_4).toInt.toNat)).toInt % 41) → z9 = o9 := fun z9 h9 => (by omega)
            unfold kno at hn9
            have yo_9 := ko_45 (cro ((e 39 z2_4.toInt.toNat).toInt)) (by rw [← e39_9]; exact cro_i kn_45.1)
            have oo_9 := ho9
            unfold cw_ro at oo_9
            have yk_9 : ∀ x9 y9 : Int32, ANR (e2 (o9 + 1)) (e2 (o9 + 2)) (e2 15) (w2 o9).toInt (e2 35 z2_4.toInt.toNat) (e2 36 z2_4.toInt.toNat) x9 y9 → AKI (e (nn + 1)) (e (nn + 2)) (e 15) (w nn).toInt (w 0).toInt (cN w) (cC e) (cM e) (e 39 z2_4.toInt.toNat) (e 35 z2_4.toInt.toNat) (e 36 z2_4.toInt.toNat) x9 y9 := fun x9 y9 h9 => AKI_row (by rw [← e39_9]; omega) (by rw [← e39_9, ← ew_9]; exact kn_45) yo_9 (ANR_e h9 (en_9 _ (by omega) (by omega)) (en_9 _ (by omega) (by omega)) e15_9 (by rw [ew_9]) (by rw [e35_9]) (by rw [e36_9]))
            refine hC.1 3 48 _ _ rfl _ _ _ _ _ ?_
            refine Exists.intro _ (And.intro (cw_o0 hI2.1) ?_)
            refine Exists.intro _ (And.intro (cw_o0 hI2.1) ?_)
            refine And.intro (Exists.intro _ (cw_o9 hI2.1)) (Exists.intro _ (Exists.intro _ (Exists.intro _ (Exists.intro _ (And.intro (V_X5_answer hI2 hs2 z2_4 ho9 (by omega)) (And.intro rfl (fun r9 A9 h9 => ?_)))))))
            rcases h9 with ⟨w17, e17, v17, f17, rfl, hI17, hs17, hy17, hzy16⟩
            have hx17 : e17 15 = e 15 := hy17.trans hx2
            have hu18 := hI17.2.1
            unfold cw_W at hu18
            rcases hzy16 with ⟨rfl, by16⟩ | ⟨rfl, by16⟩
            · skip
              have k1 : (1 : Int32).toInt = 1 := rfl
              have hb_61 := by16.2
              obtain ⟨a8_9, b8_9, g1_9, g2_9, g3_9, g4_9⟩ := hb_61.2.2
              have hc_9 := cnA_1 g1_9 g4_9
              refine And.intro (fun c9 => absurd c9 (by decide)) (fun _ => ?_)
              intro m19 em_67
              try have e19 : m19.toInt = (z1_4).toInt + (1) := by rw [em_67]; exact pm_addc _ _ (1) rfl (by omega) (by omega)
              refine hC.1 4 70 _ _ rfl _ _ _ _ _ ?_
              intro m20 em_70
              try have e20 : m20.toInt = (z2_4).toInt + (1) := by rw [em_70]; exact pm_addc _ _ (1) rfl (by omega) (by omega)
              exact hC.2 [false, false, false, true, true] _ _ _ _ _ _ (ih4 m19 m20 w17 e17 v17 f17 hI17 hx17 hs17 (by omega) (by exact ⟨hb_61.1.trans ew_9, fun i9 h9 h8 => (hb_61.2.1 i9 h9 h8).trans (en_9 i9 h9 h8)⟩) (by refine ⟨by omega, by omega, ?_⟩; rw [show m20.toInt.toNat = z2_4.toInt.toNat + 1 by omega, hc_9]; omega) (by intro j9 h9; by_cases h8 : j9 = z2_4.toInt.toNat; (subst h8; rw [g1_9, g2_9, pk_us, pk_us]; exact yk_9 _ _ g3_9); (rw [g1_9, g2_9, pk_un h8, pk_un h8]; exact j3_4 j9 (by omega))) (by omega) (by omega) (by omega) (by omega) (by omega))
            · skip
              have hb_61 := by16.2
              obtain ⟨a8_9, b8_9, g1_9, g2_9, g3_9, g4_9⟩ := hb_61.2.2
              have hc_9 := cnA_0 g1_9 g4_9
              refine And.intro (fun _ => ?_) (fun c9 => absurd c9 (by decide))
              refine hC.1 4 70 _ _ rfl _ _ _ _ _ ?_
              have k1 : (1 : Int32).toInt = 1 := rfl
              intro m21 em_70
              try have e21 : m21.toInt = (z2_4).toInt + (1) := by rw [em_70]; exact pm_addc _ _ (1) rfl (by omega) (by omega)
              exact hC.2 [false, false, false, true, true] _ _ _ _ _ _ (ih4 z1_4 m21 w17 e17 v17 f17 hI17 hx17 hs17 (by omega) (by exact ⟨hb_61.1.trans ew_9, fun i9 h9 h8 => (hb_61.2.1 i9 h9 h8).trans (en_9 i9 h9 h8)⟩) (by refine ⟨by omega, by omega, ?_⟩; rw [show m21.toInt.toNat = z2_4.toInt.toNat + 1 by omega, hc_9]; omega) (by intro j9 h9; by_cases h8 : j9 = z2_4.toInt.toNat; (subst h8; rw [g1_9, g2_9, pk_us, pk_us]; exact yk_9 _ _ g3_9); (rw [g1_9, g2_9, pk_un h8, pk_un h8]; exact j3_4 j9 (by omega))) (by omega) (by omega) (by omega) (by omega) (by omega))
        · skip
          have dc7 : ((e2 39 (z2_4).toInt.toNat)).toInt = ((-1 : Int32) : Int32).toInt := congrArg Int32.toInt c7
          have yk_9 : ∀ x9 y9 : Int32, ANR (e2 (nn + 1)) (e2 (nn + 2)) (e2 15) (w2 nn).toInt (e2 35 z2_4.toInt.toNat) (e2 36 z2_4.toInt.toNat) x9 y9 → AKI (e (nn + 1)) (e (nn + 2)) (e 15) (w nn).toInt (w 0).toInt (cN w) (cC e) (cM e) (e 39 z2_4.toInt.toNat) (e 35 z2_4.toInt.toNat) (e 36 z2_4.toInt.toNat) x9 y9 := fun x9 y9 h9 => Or.inl ⟨(by rw [← e39_9]; omega), ANR_e h9 (en_9 _ (by omega) (by omega)) (en_9 _ (by omega) (by omega)) e15_9 (by rw [ew_9]) (by rw [e35_9]) (by rw [e36_9])⟩
          refine Exists.intro _ (And.intro (cw_o0 hI2.1) ?_)
          refine Exists.intro _ (And.intro (cw_o1 hI2.1) ?_)
          refine hC.1 3 48 _ _ rfl _ _ _ _ _ ?_
          refine Exists.intro _ (And.intro (cw_o0 hI2.1) ?_)
          refine Exists.intro _ (And.intro (cw_o0 hI2.1) ?_)
          refine And.intro (Exists.intro _ (cw_o9 hI2.1)) (Exists.intro _ (Exists.intro _ (Exists.intro _ (Exists.intro _ (And.intro (V_X5_answer hI2 hs2 z2_4 ro_nn (by omega)) (And.intro rfl (fun r9 A9 h9 => ?_)))))))
          rcases h9 with ⟨w23, e23, v23, f23, rfl, hI23, hs23, hy23, hzy22⟩
          have hx23 : e23 15 = e 15 := hy23.trans hx2
          have hu24 := hI23.2.1
          unfold cw_W at hu24
          rcases hzy22 with ⟨rfl, by22⟩ | ⟨rfl, by22⟩
          · skip
            have k1 : (1 : Int32).toInt = 1 := rfl
            have hb_61 := by22.2
            obtain ⟨a8_9, b8_9, g1_9, g2_9, g3_9, g4_9⟩ := hb_61.2.2
            have hc_9 := cnA_1 g1_9 g4_9
            refine And.intro (fun c9 => absurd c9 (by decide)) (fun _ => ?_)
            intro m25 em_67
            try have e25 : m25.toInt = (z1_4).toInt + (1) := by rw [em_67]; exact pm_addc _ _ (1) rfl (by omega) (by omega)
            refine hC.1 4 70 _ _ rfl _ _ _ _ _ ?_
            intro m26 em_70
            try have e26 : m26.toInt = (z2_4).toInt + (1) := by rw [em_70]; exact pm_addc _ _ (1) rfl (by omega) (by omega)
            exact hC.2 [false, false, false, true, true] _ _ _ _ _ _ (ih4 m25 m26 w23 e23 v23 f23 hI23 hx23 hs23 (by omega) (by exact ⟨hb_61.1.trans ew_9, fun i9 h9 h8 => (hb_61.2.1 i9 h9 h8).trans (en_9 i9 h9 h8)⟩) (by refine ⟨by omega, by omega, ?_⟩; rw [show m26.toInt.toNat = z2_4.toInt.toNat + 1 by omega, hc_9]; omega) (by intro j9 h9; by_cases h8 : j9 = z2_4.toInt.toNat; (subst h8; rw [g1_9, g2_9, pk_us, pk_us]; exact yk_9 _ _ g3_9); (rw [g1_9, g2_9, pk_un h8, pk_un h8]; exact j3_4 j9 (by omega))) (by omega) (by omega) (by omega) (by omega) (by omega))
          · skip
            have hb_61 := by22.2
            obtain ⟨a8_9, b8_9, g1_9, g2_9, g3_9, g4_9⟩ := hb_61.2.2
            have hc_9 := cnA_0 g1_9 g4_9
            refine And.intro (fun _ => ?_) (fun c9 => absurd c9 (by decide))
            refine hC.1 4 70 _ _ rfl _ _ _ _ _ ?_
            have k1 : (1 : Int32).toInt = 1 := rfl
            intro m27 em_70
            try have e27 : m27.toInt = (z2_4).toInt + (1) := by rw [em_70]; exact pm_addc _ _ (1) rfl (by omega) (by omega)
            exact hC.2 [false, false, false, true, true] _ _ _ _ _ _ (ih4 z1_4 m27 w23 e23 v23 f23 hI23 hx23 hs23 (by omega) (by exact ⟨hb_61.1.trans ew_9, fun i9 h9 h8 => (hb_61.2.1 i9 h9 h8).trans (en_9 i9 h9 h8)⟩) (by refine ⟨by omega, by omega, ?_⟩; rw [show m27.toInt.toNat = z2_4.toInt.toNat + 1 by omega, hc_9]; omega) (by intro j9 h9; by_cases h8 : j9 = z2_4.toInt.toNat; (subst h8; rw [g1_9, g2_9, pk_us, pk_us]; exact yk_9 _ _ g3_9); (rw [g1_9, g2_9, pk_un h8, pk_un h8]; exact j3_4 j9 (by omega))) (by omega) (by omega) (by omega) (by omega) (by omega))
  exact lp3 (200 - (0 : Int32).toInt).toNat.succ (0 : Int32) (0 : Int32) w e v f hI rfl hs (by omega) (by exact ⟨rfl, fun _ _ _ => rfl⟩) (by exact ⟨by omega, by omega, rfl⟩) (by intro j9 h9; omega) (by omega) (by omega) (by omega) (by omega) (by omega)

set_option maxRecDepth 100000 in
set_option maxHeartbeats 2000000 in
theorem V_X10_about (hI : cw_I K nn dn q w e) (hs : cw_S v f) (x1 : Int32)  : pm_Mt l g 53 4 0 0 [.ref (q 0), .int x1] (cw A0 g K nn dn q w e v f) (cw_Qs A0 g K nn dn q w e (fun r v2 f2 => ∃ x : Int32, r = some (.int x) ∧ ((True) ∧ (x.toInt = ABT (w nn) (w 1) (w 0) (w 2) (w 3) (e (nn + 1)) x1.toInt)))) := by
  refine mt_X10_about rfl (fun J hC => ?_)
  have ro_nn : cw_ro K nn := hI.2.1.2.1
  have ro_dn : cw_ro K dn := hI.2.1.2.2.1
  have hu1 := hI.2.1
  unfold cw_W at hu1
  have rg_x1 := pm_rng x1
  have zz0 := cw_sz hI ro_nn
  refine hC.1 0 0 _ _ rfl _ _ _ _ _ ?_
  refine pm_swc 6 rfl (by decide) ?_ ?_
  · intro _
    refine hC.1 7 108 _ _ rfl _ _ _ _ _ ?_
    have km1 : (-1 : Int32).toInt = -1 := rfl
    exact ⟨rfl, fun e9 => absurd e9 (by decide), rfl, v, f, rfl, hs, (-1 : Int32), rfl, by exact True.intro, by exact (ABT_d (by omega)).symm⟩
  · intro i9 hi9 he9
    rcases (show i9 = 0 ∨ i9 = 1 ∨ i9 = 2 ∨ i9 = 3 ∨ i9 = 4 ∨ i9 = 5 by omega) with rfl | rfl | rfl | rfl | rfl | rfl
    · skip
      refine hC.1 1 40 _ _ rfl _ _ _ _ _ ?_
      refine Exists.intro _ (And.intro (cw_o0 hI.1) ?_)
      refine Exists.intro _ (And.intro (cw_o1 hI.1) ?_)
      refine Exists.intro _ (And.intro (cw_ro_o hI.1 ro_nn) ?_)
      have z4 := cw_sz hI ro_nn
      exact ⟨rfl, fun e9 => absurd e9 (by decide), rfl, v, f, rfl, hs, (w nn), rfl, by exact True.intro, by exact (ABT_0 (by omega)).symm⟩
    · skip
      refine hC.1 2 51 _ _ rfl _ _ _ _ _ ?_
      refine Exists.intro _ (And.intro (cw_o0 hI.1) ?_)
      refine Exists.intro _ (And.intro (cw_o1 hI.1) ?_)
      have k0 : (0 : Int32).toInt = 0 := rfl
      refine Exists.intro _ (And.intro (cw_o0 hI.1) ?_)
      refine Exists.intro _ (And.intro (cw_o1 hI.1) ?_)
      refine Exists.intro _ (And.intro (cw_ro_o hI.1 ro_nn) ?_)
      have z5 := cw_sz hI ro_nn
      have k1 : (1 : Int32).toInt = 1 := rfl
      intro m6 em_71
      try have e6 : m6.toInt = ((w nn)).toInt - (1) := by rw [em_71]; exact pm_subc _ _ (1) rfl (by omega) (by omega)
      refine And.intro (Exists.intro _ (cw_o0 hI.1)) (Exists.intro _ (Exists.intro _ (Exists.intro _ (Exists.intro _ (And.intro (F_X10_colourNumber hI hs ro_nn (0 : Int32) m6 (by omega)) (And.intro rfl (fun r9 A9 h9 => ?_)))))))
      rcases h9 with ⟨v8, f8, rfl, hs8, y7, rfl, by7⟩
      have yf_9 := by7.2
      exact ⟨rfl, fun e9 => absurd e9 (by decide), rfl, v8, f8, rfl, hs8, y7, rfl, by exact True.intro, by exact ABT_k (by omega) yf_9 (by omega) (by omega)⟩
    · skip
      refine hC.1 3 76 _ _ rfl _ _ _ _ _ ?_
      refine Exists.intro _ (And.intro (cw_o0 hI.1) ?_)
      refine Exists.intro _ (And.intro (cw_o1 hI.1) ?_)
      exact ⟨rfl, fun e9 => absurd e9 (by decide), rfl, v, f, rfl, hs, (w 1), rfl, by exact True.intro, by exact (ABT_2 (by omega)).symm⟩
    · skip
      refine hC.1 4 84 _ _ rfl _ _ _ _ _ ?_
      refine Exists.intro _ (And.intro (cw_o0 hI.1) ?_)
      refine Exists.intro _ (And.intro (cw_o1 hI.1) ?_)
      exact ⟨rfl, fun e9 => absurd e9 (by decide), rfl, v, f, rfl, hs, (w 0), rfl, by exact True.intro, by exact (ABT_3 (by omega)).symm⟩
    · skip
      refine hC.1 5 92 _ _ rfl _ _ _ _ _ ?_
      refine Exists.intro _ (And.intro (cw_o0 hI.1) ?_)
      refine Exists.intro _ (And.intro (cw_o1 hI.1) ?_)
      exact ⟨rfl, fun e9 => absurd e9 (by decide), rfl, v, f, rfl, hs, (w 2), rfl, by exact True.intro, by exact (ABT_4 (by omega)).symm⟩
    · skip
      refine hC.1 6 100 _ _ rfl _ _ _ _ _ ?_
      refine Exists.intro _ (And.intro (cw_o0 hI.1) ?_)
      refine Exists.intro _ (And.intro (cw_o9 hI.1) ?_)
      exact ⟨rfl, fun e9 => absurd e9 (by decide), rfl, v, f, rfl, hs, (w 3), rfl, by exact True.intro, by exact (ABT_5 (by omega)).symm⟩

set_option maxRecDepth 100000 in
set_option maxHeartbeats 2000000 in
theorem V_X5_tell (hI : cw_I K nn dn q w e) (hs : cw_S v f) (x1 : Int32) (x2 : Int32)  : pm_Mt l g 164 0 0 0 [.ref (q 9), .int x1, .int x2] (cw A0 g K nn dn q w e v f) (md_Qp (cw A0 g K nn dn q w e v f) (fun r => r = ASD (w 3).toInt x1.toInt x2.toInt (e 35) (e 36) (e 37) (e 38) (e 39))) := by
  refine mt_X5_tell rfl (fun J hC => ?_)
  have ro_nn : cw_ro K nn := hI.2.1.2.1
  have ro_dn : cw_ro K dn := hI.2.1.2.2.1
  have hu1 := hI.2.1
  unfold cw_W at hu1
  have rg_x1 := pm_rng x1
  have rg_x2 := pm_rng x2
  refine hC.1 0 0 _ _ rfl _ _ _ _ _ ?_
  refine And.intro (fun c2 => ?_) (fun c2 => ?_)
  · skip
    refine hC.1 1 12 _ _ rfl _ _ _ _ _ ?_
    have km1 : (-1 : Int32).toInt = -1 := rfl
    exact ⟨rfl, fun e9 => absurd e9 (by decide), rfl, (-1 : Int32), rfl, rfl, by first | (exact (ASD_n (by omega)).symm) | (exact (ASD_0 (by omega) (by omega)).symm) | (exact (ASD_1 (by omega) (by omega)).symm) | (exact (ASD_2 (by omega) (by omega)).symm) | (exact (ASD_3 (by omega) (by omega)).symm) | (exact (ASD_4 (by omega) (by omega)).symm) | (exact (ASD_d (by omega)).symm)⟩
  · skip
    refine Exists.intro _ (And.intro (cw_o9 hI.1) ?_)
    refine And.intro (fun c3 => ?_) (fun c3 => ?_)
    · skip
      refine hC.1 2 14 _ _ rfl _ _ _ _ _ ?_
      refine pm_swc 5 rfl (by decide) ?_ ?_
      · intro _
        refine hC.1 8 83 _ _ rfl _ _ _ _ _ ?_
        have km1 : (-1 : Int32).toInt = -1 := rfl
        exact ⟨rfl, fun e9 => absurd e9 (by decide), rfl, (-1 : Int32), rfl, rfl, by first | (exact (ASD_n (by omega)).symm) | (exact (ASD_0 (by omega) (by omega)).symm) | (exact (ASD_1 (by omega) (by omega)).symm) | (exact (ASD_2 (by omega) (by omega)).symm) | (exact (ASD_3 (by omega) (by omega)).symm) | (exact (ASD_4 (by omega) (by omega)).symm) | (exact (ASD_d (by omega)).symm)⟩
      · intro i9 hi9 he9
        rcases (show i9 = 0 ∨ i9 = 1 ∨ i9 = 2 ∨ i9 = 3 ∨ i9 = 4 by omega) with rfl | rfl | rfl | rfl | rfl
        · skip
          refine hC.1 3 48 _ _ rfl _ _ _ _ _ ?_
          refine Exists.intro _ (And.intro (cw_o9 hI.1) ?_)
          refine Exists.intro _ (Exists.intro _ (And.intro (Or.inl (cw_a37 hI.1)) (And.intro (by omega) ?_)))
          exact ⟨rfl, fun e9 => absurd e9 (by decide), rfl, (e 37 (x1).toInt.toNat), rfl, rfl, by first | (exact (ASD_n (by omega)).symm) | (exact (ASD_0 (by omega) (by omega)).symm) | (exact (ASD_1 (by omega) (by omega)).symm) | (exact (ASD_2 (by omega) (by omega)).symm) | (exact (ASD_3 (by omega) (by omega)).symm) | (exact (ASD_4 (by omega) (by omega)).symm) | (exact (ASD_d (by omega)).symm)⟩
        · skip
          refine hC.1 4 55 _ _ rfl _ _ _ _ _ ?_
          refine Exists.intro _ (And.intro (cw_o9 hI.1) ?_)
          refine Exists.intro _ (Exists.intro _ (And.intro (Or.inl (cw_a38 hI.1)) (And.intro (by omega) ?_)))
          exact ⟨rfl, fun e9 => absurd e9 (by decide), rfl, (e 38 (x1).toInt.toNat), rfl, rfl, by first | (exact (ASD_n (by omega)).symm) | (exact (ASD_0 (by omega) (by omega)).symm) | (exact (ASD_1 (by omega) (by omega)).symm) | (exact (ASD_2 (by omega) (by omega)).symm) | (exact (ASD_3 (by omega) (by omega)).symm) | (exact (ASD_4 (by omega) (by omega)).symm) | (exact (ASD_d (by omega)).symm)⟩
        · skip
          refine hC.1 5 62 _ _ rfl _ _ _ _ _ ?_
          refine Exists.intro _ (And.intro (cw_o9 hI.1) ?_)
          refine Exists.intro _ (Exists.intro _ (And.intro (Or.inl (cw_a35 hI.1)) (And.intro (by omega) ?_)))
          exact ⟨rfl, fun e9 => absurd e9 (by decide), rfl, (e 35 (x1).toInt.toNat), rfl, rfl, by first | (exact (ASD_n (by omega)).symm) | (exact (ASD_0 (by omega) (by omega)).symm) | (exact (ASD_1 (by omega) (by omega)).symm) | (exact (ASD_2 (by omega) (by omega)).symm) | (exact (ASD_3 (by omega) (by omega)).symm) | (exact (ASD_4 (by omega) (by omega)).symm) | (exact (ASD_d (by omega)).symm)⟩
        · skip
          refine hC.1 6 69 _ _ rfl _ _ _ _ _ ?_
          refine Exists.intro _ (And.intro (cw_o9 hI.1) ?_)
          refine Exists.intro _ (Exists.intro _ (And.intro (Or.inl (cw_a36 hI.1)) (And.intro (by omega) ?_)))
          exact ⟨rfl, fun e9 => absurd e9 (by decide), rfl, (e 36 (x1).toInt.toNat), rfl, rfl, by first | (exact (ASD_n (by omega)).symm) | (exact (ASD_0 (by omega) (by omega)).symm) | (exact (ASD_1 (by omega) (by omega)).symm) | (exact (ASD_2 (by omega) (by omega)).symm) | (exact (ASD_3 (by omega) (by omega)).symm) | (exact (ASD_4 (by omega) (by omega)).symm) | (exact (ASD_d (by omega)).symm)⟩
        · skip
          refine hC.1 7 76 _ _ rfl _ _ _ _ _ ?_
          refine Exists.intro _ (And.intro (cw_o9 hI.1) ?_)
          refine Exists.intro _ (Exists.intro _ (And.intro (Or.inl (cw_a39 hI.1)) (And.intro (by omega) ?_)))
          exact ⟨rfl, fun e9 => absurd e9 (by decide), rfl, (e 39 (x1).toInt.toNat), rfl, rfl, by first | (exact (ASD_n (by omega)).symm) | (exact (ASD_0 (by omega) (by omega)).symm) | (exact (ASD_1 (by omega) (by omega)).symm) | (exact (ASD_2 (by omega) (by omega)).symm) | (exact (ASD_3 (by omega) (by omega)).symm) | (exact (ASD_4 (by omega) (by omega)).symm) | (exact (ASD_d (by omega)).symm)⟩
    · skip
      refine hC.1 1 12 _ _ rfl _ _ _ _ _ ?_
      have km1 : (-1 : Int32).toInt = -1 := rfl
      exact ⟨rfl, fun e9 => absurd e9 (by decide), rfl, (-1 : Int32), rfl, rfl, by first | (exact (ASD_n (by omega)).symm) | (exact (ASD_0 (by omega) (by omega)).symm) | (exact (ASD_1 (by omega) (by omega)).symm) | (exact (ASD_2 (by omega) (by omega)).symm) | (exact (ASD_3 (by omega) (by omega)).symm) | (exact (ASD_4 (by omega) (by omega)).symm) | (exact (ASD_d (by omega)).symm)⟩

set_option maxRecDepth 100000 in
set_option maxHeartbeats 2000000 in
theorem V_X10_asked (hI : cw_I K nn dn q w e) (hs : cw_S v f) (x1 : Int32) (x2 : Int32)  : pm_Mt l g 163 1 0 0 [.ref (q 0), .int x1, .int x2] (cw A0 g K nn dn q w e v f) (md_Qp (cw A0 g K nn dn q w e v f) (fun r => r = ASD (w 3).toInt x1.toInt x2.toInt (e 35) (e 36) (e 37) (e 38) (e 39))) := by
  refine mt_X10_asked rfl (fun J hC => ?_)
  have ro_nn : cw_ro K nn := hI.2.1.2.1
  have ro_dn : cw_ro K dn := hI.2.1.2.2.1
  have hu1 := hI.2.1
  unfold cw_W at hu1
  have rg_x1 := pm_rng x1
  have rg_x2 := pm_rng x2
  refine hC.1 0 0 _ _ rfl _ _ _ _ _ ?_
  refine Exists.intro _ (And.intro (cw_o0 hI.1) ?_)
  refine And.intro (Exists.intro _ (cw_o9 hI.1)) (Exists.intro _ (Exists.intro _ (Exists.intro _ (Exists.intro _ (And.intro (V_X5_tell hI hs x1 x2 ) (And.intro rfl (fun r9 A9 h9 => ?_)))))))
  obtain ⟨y2, rfl, rfl, by2⟩ := h9
  exact ⟨rfl, fun e9 => absurd e9 (by decide), rfl, y2, rfl, rfl, by assumption⟩

end
end
section
section
variable {l : Launch} {g : pm_G} {A0 : pm_H} {h : Nat} {q : Nat → Nat}
set_option maxRecDepth 100000 in
set_option maxHeartbeats 2000000 in
theorem V_X11_placeBy (D : md_D h q) (v : Nat → Int32) (f : Nat → Nat → Int32) (hv : md_V v) (hf : md_F f) (x1 : Int32) (x2 : Int32)  : pm_Mt l g 279 2 0 0 [.ref h, .int x1, .int x2] (md A0 g h q v f) (md_Qp (md A0 g h q v f) (fun r => (-1 ≤ r.toInt ∧ r.toInt < 160 ∧ (0 ≤ r.toInt → x1.toInt = -1 ∨ 0 ≤ x1.toInt)) ∧ PBR (v 0).toInt (f 1) (v 4).toInt (rNi f) (rM f) x1 x2 r.toInt)) := by
  refine mt_X11_placeBy rfl (fun J hC => ?_)
  have hv9 := hv
  unfold md_V at hv9
  have rg_x1 := pm_rng x1
  have rg_x2 := pm_rng x2
  have rb9 : 0 ≤ (rN f x1.toInt).toInt ∧ (rN f x1.toInt).toInt ≤ 160 := hf 14 _
  refine hC.1 0 0 _ _ rfl _ _ _ _ _ ?_
  have km1 : (-1 : Int32).toInt = -1 := rfl
  refine And.intro (fun c1 => ?_) (fun c1 => ?_)
  · skip
    have dc1 := pm_neI c1
    refine hC.1 1 13 _ _ rfl _ _ _ _ _ ?_
    refine And.intro (Exists.intro _ md_o) (Exists.intro _ (Exists.intro _ (Exists.intro _ (Exists.intro _ (And.intro (c_X11_isKnown D v f hv hf x1 ) (And.intro rfl (fun r9 A9 h9 => ?_)))))))
    rcases h9 with ⟨y2, rfl, rfl, ⟨rfl, by2⟩ | ⟨rfl, by2⟩⟩
    · skip
      have k1 : (1 : Int32).toInt = 1 := rfl
      refine And.intro (fun c9 => absurd c9 (by decide)) (fun _ => ?_)
      refine And.intro (Exists.intro _ md_o) (Exists.intro _ (Exists.intro _ (Exists.intro _ (Exists.intro _ (And.intro (F_X11_wasPlace D v f hv hf x1 x2 (by omega)) (And.intro rfl (fun r9 A9 h9 => ?_)))))))
      obtain ⟨y3, rfl, rfl, by3⟩ := h9
      have yq_9 := by3.2
      have yq_8 := by3.1
      refine hC.1 3 31 _ _ rfl _ _ _ _ _ ?_
      exact ⟨rfl, fun e9 => absurd e9 (by decide), rfl, y3, rfl, rfl, by first | (exact ⟨by omega, Or.inl ⟨by omega, yp_9⟩⟩) | (exact ⟨by omega, Or.inr (Or.inl ⟨by omega, by unfold kno; omega, yq_9⟩)⟩) | (exact ⟨by omega, Or.inr (Or.inr ⟨by omega, by unfold kno; omega, rfl⟩)⟩)⟩
    · skip
      have k0 : (0 : Int32).toInt = 0 := rfl
      refine And.intro (fun _ => ?_) (fun c9 => absurd c9 (by decide))
      refine hC.1 2 30 _ _ rfl _ _ _ _ _ ?_
      refine hC.1 3 31 _ _ rfl _ _ _ _ _ ?_
      exact ⟨rfl, fun e9 => absurd e9 (by decide), rfl, (-1 : Int32), rfl, rfl, by first | (exact ⟨by omega, Or.inl ⟨by omega, yp_9⟩⟩) | (exact ⟨by omega, Or.inr (Or.inl ⟨by omega, by unfold kno; omega, yq_9⟩)⟩) | (exact ⟨by omega, Or.inr (Or.inr ⟨by omega, by unfold kno; omega, rfl⟩)⟩)⟩
  · skip
    have dc1 : (x1).toInt = ((-1 : Int32) : Int32).toInt := congrArg Int32.toInt c1
    refine And.intro (Exists.intro _ md_o) (Exists.intro _ (Exists.intro _ (Exists.intro _ (Exists.intro _ (And.intro (F_X11_placeOf D v f hv hf x2 ) (And.intro rfl (fun r9 A9 h9 => ?_)))))))
    obtain ⟨y4, rfl, rfl, by4⟩ := h9
    have yp_9 := FST_n (by omega) by4.2
    have yp_8 := by4.1
    refine hC.1 3 31 _ _ rfl _ _ _ _ _ ?_
    exact ⟨rfl, fun e9 => absurd e9 (by decide), rfl, y4, rfl, rfl, by first | (exact ⟨by omega, Or.inl ⟨by omega, yp_9⟩⟩) | (exact ⟨by omega, Or.inr (Or.inl ⟨by omega, by unfold kno; omega, yq_9⟩)⟩) | (exact ⟨by omega, Or.inr (Or.inr ⟨by omega, by unfold kno; omega, rfl⟩)⟩)⟩

set_option maxRecDepth 100000 in
set_option maxHeartbeats 2000000 in
theorem V_X11_setBy (D : md_D h q) (v : Nat → Int32) (f : Nat → Nat → Int32) (hv : md_V v) (hf : md_F f) (x1 : Int32) (x2 : Int32) (x3 : Int32) (p0 : x1.toInt = -1 ∨ 0 ≤ x1.toInt) (p1 : 0 ≤ x2.toInt ∧ x2.toInt ≤ 160) (p2 : -1 ≤ x3.toInt ∧ x3.toInt < 160) : pm_Mt l g 280 2 0 0 [.ref h, .int x1, .int x2, .int x3] (md A0 g h q v f) (md_Qp (md A0 g h q v f) (fun r => (x1.toInt = -1 → r = sS (f 0) x2.toInt x3.toInt) ∧ (¬ x1.toInt = -1 → r = sS (rC f x1.toInt) x2.toInt x3.toInt))) := by
  refine mt_X11_setBy rfl (fun J hC => ?_)
  have hv9 := hv
  unfold md_V at hv9
  have rg_x1 := pm_rng x1
  have rg_x2 := pm_rng x2
  have rg_x3 := pm_rng x3
  refine hC.1 0 0 _ _ rfl _ _ _ _ _ ?_
  have km1 : (-1 : Int32).toInt = -1 := rfl
  refine And.intro (fun c1 => ?_) (fun c1 => ?_)
  · skip
    have dc1 := pm_neI c1
    refine hC.1 1 14 _ _ rfl _ _ _ _ _ ?_
    refine And.intro (Exists.intro _ md_o) (Exists.intro _ (Exists.intro _ (Exists.intro _ (Exists.intro _ (And.intro (F_X11_wasSet D v f hv hf x1 x2 x3 (by omega) (by omega) (by omega)) (And.intro rfl (fun r9 A9 h9 => ?_)))))))
    obtain ⟨y2, rfl, rfl, by2⟩ := h9
    have yq_9 := by2
    refine hC.1 2 21 _ _ rfl _ _ _ _ _ ?_
    exact ⟨rfl, fun e9 => absurd e9 (by decide), rfl, y2, rfl, rfl, by first | (exact ⟨fun _ => yp_9, fun h9 => absurd (by omega) h9⟩) | (exact ⟨fun h9 => absurd h9 (by omega), fun _ => yq_9⟩)⟩
  · skip
    have dc1 : (x1).toInt = ((-1 : Int32) : Int32).toInt := congrArg Int32.toInt c1
    refine And.intro (Exists.intro _ md_o) (Exists.intro _ (Exists.intro _ (Exists.intro _ (Exists.intro _ (And.intro (c_X11_setOf D v f hv hf x2 x3 (by omega) (by omega)) (And.intro rfl (fun r9 A9 h9 => ?_)))))))
    obtain ⟨y3, rfl, rfl, by3⟩ := h9
    have yp_9 := by3
    refine hC.1 2 21 _ _ rfl _ _ _ _ _ ?_
    exact ⟨rfl, fun e9 => absurd e9 (by decide), rfl, y3, rfl, rfl, by first | (exact ⟨fun _ => yp_9, fun h9 => absurd (by omega) h9⟩) | (exact ⟨fun h9 => absurd h9 (by omega), fun _ => yq_9⟩)⟩

set_option maxRecDepth 100000 in
set_option maxHeartbeats 2000000 in
theorem V_X11_asks (D : md_D h q) (v : Nat → Int32) (f : Nat → Nat → Int32) (hv : md_V v) (hf : md_F f) (x1 : Int32) (x2 : Int32) (x3 : Int32) (p0 : (v 6).toInt < 30) : pm_Mt l g 276 0 0 0 [.ref h, .int x1, .int x2, .int x3] (md A0 g h q v f) (md_Qw A0 g h q f (fun r v2 f2 => f2 0 = f 0 ∧ f2 1 = f 1 ∧ f2 12 = f 12 ∧ f2 13 = f 13 ∧ f2 14 = f 14 ∧ f2 15 = f 15 ∧ ((v2 0).toInt = (v 0).toInt ∧ (v2 1).toInt = (v 1).toInt ∧ (v2 2).toInt = (v 2).toInt ∧ (v2 3).toInt = (v 3).toInt ∧ (v2 4).toInt = (v 4).toInt ∧ (v2 5).toInt = (v 5).toInt) ∧ (QST True x1 x2 x3 (v 6) (v2 6) r (f 7) (f 8) (f 9) (f 10) (f 11) (f2 7) (f2 8) (f2 9) (f2 10) (f2 11)))) := by
  refine mt_X11_asks rfl (fun J hC => ?_)
  have hv9 := hv
  unfold md_V at hv9
  have rg_x1 := pm_rng x1
  have rg_x2 := pm_rng x2
  have rg_x3 := pm_rng x3
  refine hC.1 0 0 _ _ rfl _ _ _ _ _ ?_
  refine Exists.intro _ (And.intro md_o ?_)
  refine Exists.intro _ (And.intro md_o ?_)
  refine Exists.intro _ (Exists.intro _ (And.intro (md_a_askedOne D) (And.intro (by omega) ?_)))
  rw [md_s_askedOne D]
  obtain ⟨f1, ef1⟩ : ∃ z9, z9 = va_up f 7 (upd (f 7) ((v 6)).toInt.toNat x2) := ⟨_, rfl⟩
  rw [← ef1]
  have pf_9 : f1 7 = upd (f 7) ((v 6)).toInt.toNat x2 := by rw [ef1]; exact if_pos rfl
  have pg_9 : ∀ i9, i9 ≠ 7 → f1 i9 = f i9 := fun i9 h9 => by rw [ef1]; exact if_neg h9
  have hf1 : md_F f1 := by rw [ef1]; exact md_F_st hf 7 _ _ (md_rng _ _ (by decide))
  have hw1 : f1 2 = f 2 := (show f1 2 = f 2 by rw [ef1]; rfl).trans rfl
  have hr1_0 : f1 0 = f 0 := (show f1 0 = f 0 by rw [ef1]; rfl).trans rfl
  have hr1_1 : f1 1 = f 1 := (show f1 1 = f 1 by rw [ef1]; rfl).trans rfl
  have hr1_12 : f1 12 = f 12 := (show f1 12 = f 12 by rw [ef1]; rfl).trans rfl
  have hr1_13 : f1 13 = f 13 := (show f1 13 = f 13 by rw [ef1]; rfl).trans rfl
  have hr1_14 : f1 14 = f 14 := (show f1 14 = f 14 by rw [ef1]; rfl).trans rfl
  have hr1_15 : f1 15 = f 15 := (show f1 15 = f 15 by rw [ef1]; rfl).trans rfl
  refine Exists.intro _ (And.intro md_o ?_)
  refine Exists.intro _ (And.intro md_o ?_)
  refine Exists.intro _ (Exists.intro _ (And.intro (md_a_askedOther D) (And.intro (by omega) ?_)))
  rw [md_s_askedOther D]
  obtain ⟨f2, ef2⟩ : ∃ z9, z9 = va_up f1 8 (upd (f1 8) ((v 6)).toInt.toNat x3) := ⟨_, rfl⟩
  rw [← ef2]
  have pf_19 : f2 8 = upd (f1 8) ((v 6)).toInt.toNat x3 := by rw [ef2]; exact if_pos rfl
  have pg_19 : ∀ i9, i9 ≠ 8 → f2 i9 = f1 i9 := fun i9 h9 => by rw [ef2]; exact if_neg h9
  have hf2 : md_F f2 := by rw [ef2]; exact md_F_st hf1 8 _ _ (md_rng _ _ (by decide))
  have hw2 : f2 2 = f 2 := (show f2 2 = f1 2 by rw [ef2]; rfl).trans hw1
  have hr2_0 : f2 0 = f 0 := (show f2 0 = f1 0 by rw [ef2]; rfl).trans hr1_0
  have hr2_1 : f2 1 = f 1 := (show f2 1 = f1 1 by rw [ef2]; rfl).trans hr1_1
  have hr2_12 : f2 12 = f 12 := (show f2 12 = f1 12 by rw [ef2]; rfl).trans hr1_12
  have hr2_13 : f2 13 = f 13 := (show f2 13 = f1 13 by rw [ef2]; rfl).trans hr1_13
  have hr2_14 : f2 14 = f 14 := (show f2 14 = f1 14 by rw [ef2]; rfl).trans hr1_14
  have hr2_15 : f2 15 = f 15 := (show f2 15 = f1 15 by rw [ef2]; rfl).trans hr1_15
  refine Exists.intro _ (And.intro md_o ?_)
  refine Exists.intro _ (And.intro md_o ?_)
  refine Exists.intro _ (Exists.intro _ (And.intro (md_a_askedEdit D) (And.intro (by omega) ?_)))
  rw [md_s_askedEdit D]
  obtain ⟨f3, ef3⟩ : ∃ z9, z9 = va_up f2 11 (upd (f2 11) ((v 6)).toInt.toNat x1) := ⟨_, rfl⟩
  rw [← ef3]
  have pf_29 : f3 11 = upd (f2 11) ((v 6)).toInt.toNat x1 := by rw [ef3]; exact if_pos rfl
  have pg_29 : ∀ i9, i9 ≠ 11 → f3 i9 = f2 i9 := fun i9 h9 => by rw [ef3]; exact if_neg h9
  have hf3 : md_F f3 := by rw [ef3]; exact md_F_st hf2 11 _ _ (md_rng _ _ (by decide))
  have hw3 : f3 2 = f 2 := (show f3 2 = f2 2 by rw [ef3]; rfl).trans hw2
  have hr3_0 : f3 0 = f 0 := (show f3 0 = f2 0 by rw [ef3]; rfl).trans hr2_0
  have hr3_1 : f3 1 = f 1 := (show f3 1 = f2 1 by rw [ef3]; rfl).trans hr2_1
  have hr3_12 : f3 12 = f 12 := (show f3 12 = f2 12 by rw [ef3]; rfl).trans hr2_12
  have hr3_13 : f3 13 = f 13 := (show f3 13 = f2 13 by rw [ef3]; rfl).trans hr2_13
  have hr3_14 : f3 14 = f 14 := (show f3 14 = f2 14 by rw [ef3]; rfl).trans hr2_14
  have hr3_15 : f3 15 = f 15 := (show f3 15 = f2 15 by rw [ef3]; rfl).trans hr2_15
  refine Exists.intro _ (And.intro md_o ?_)
  refine Exists.intro _ (And.intro md_o ?_)
  have km1 : (-1 : Int32).toInt = -1 := rfl
  refine Exists.intro _ (Exists.intro _ (And.intro (md_a_answerCount D) (And.intro (by omega) ?_)))
  rw [md_s_answerCount D]
  obtain ⟨f4, ef4⟩ : ∃ z9, z9 = va_up f3 9 (upd (f3 9) ((v 6)).toInt.toNat (-1 : Int32)) := ⟨_, rfl⟩
  rw [← ef4]
  have pf_39 : f4 9 = upd (f3 9) ((v 6)).toInt.toNat (-1 : Int32) := by rw [ef4]; exact if_pos rfl
  have pg_39 : ∀ i9, i9 ≠ 9 → f4 i9 = f3 i9 := fun i9 h9 => by rw [ef4]; exact if_neg h9
  have hf4 : md_F f4 := by rw [ef4]; exact md_F_st hf3 9 _ _ (md_rng _ _ (by decide))
  have hw4 : f4 2 = f 2 := (show f4 2 = f3 2 by rw [ef4]; rfl).trans hw3
  have hr4_0 : f4 0 = f 0 := (show f4 0 = f3 0 by rw [ef4]; rfl).trans hr3_0
  have hr4_1 : f4 1 = f 1 := (show f4 1 = f3 1 by rw [ef4]; rfl).trans hr3_1
  have hr4_12 : f4 12 = f 12 := (show f4 12 = f3 12 by rw [ef4]; rfl).trans hr3_12
  have hr4_13 : f4 13 = f 13 := (show f4 13 = f3 13 by rw [ef4]; rfl).trans hr3_13
  have hr4_14 : f4 14 = f 14 := (show f4 14 = f3 14 by rw [ef4]; rfl).trans hr3_14
  have hr4_15 : f4 15 = f 15 := (show f4 15 = f3 15 by rw [ef4]; rfl).trans hr3_15
  refine Exists.intro _ (And.intro md_o ?_)
  refine Exists.intro _ (And.intro md_o ?_)
  refine Exists.intro _ (Exists.intro _ (And.intro (md_a_answerWeight D) (And.intro (by omega) ?_)))
  rw [md_s_answerWeight D]
  obtain ⟨f5, ef5⟩ : ∃ z9, z9 = va_up f4 10 (upd (f4 10) ((v 6)).toInt.toNat (-1 : Int32)) := ⟨_, rfl⟩
  rw [← ef5]
  have pf_49 : f5 10 = upd (f4 10) ((v 6)).toInt.toNat (-1 : Int32) := by rw [ef5]; exact if_pos rfl
  have pg_49 : ∀ i9, i9 ≠ 10 → f5 i9 = f4 i9 := fun i9 h9 => by rw [ef5]; exact if_neg h9
  have hf5 : md_F f5 := by rw [ef5]; exact md_F_st hf4 10 _ _ (md_rng _ _ (by decide))
  have hw5 : f5 2 = f 2 := (show f5 2 = f4 2 by rw [ef5]; rfl).trans hw4
  have hr5_0 : f5 0 = f 0 := (show f5 0 = f4 0 by rw [ef5]; rfl).trans hr4_0
  have hr5_1 : f5 1 = f 1 := (show f5 1 = f4 1 by rw [ef5]; rfl).trans hr4_1
  have hr5_12 : f5 12 = f 12 := (show f5 12 = f4 12 by rw [ef5]; rfl).trans hr4_12
  have hr5_13 : f5 13 = f 13 := (show f5 13 = f4 13 by rw [ef5]; rfl).trans hr4_13
  have hr5_14 : f5 14 = f 14 := (show f5 14 = f4 14 by rw [ef5]; rfl).trans hr4_14
  have hr5_15 : f5 15 = f 15 := (show f5 15 = f4 15 by rw [ef5]; rfl).trans hr4_15
  refine Exists.intro _ (And.intro md_o ?_)
  have k1 : (1 : Int32).toInt = 1 := rfl
  intro m6 em_56
  try have e6 : m6.toInt = ((v 6)).toInt + (1) := by rw [em_56]; exact pm_addc _ _ (1) rfl (by omega) (by omega)
  refine Exists.intro _ (And.intro md_o (And.intro rfl ?_))
  rw [md_p_askedMany D]
  obtain ⟨v7, ev7⟩ : ∃ z9, z9 = upd v 6 m6 := ⟨_, rfl⟩
  rw [← ev7]
  have ev7_0 : (v7 0).toInt = (v 0).toInt := by rw [ev7]; rfl
  have ev7_1 : (v7 1).toInt = (v 1).toInt := by rw [ev7]; rfl
  have ev7_2 : (v7 2).toInt = (v 2).toInt := by rw [ev7]; rfl
  have ev7_3 : (v7 3).toInt = (v 3).toInt := by rw [ev7]; rfl
  have ev7_4 : (v7 4).toInt = (v 4).toInt := by rw [ev7]; rfl
  have ev7_5 : (v7 5).toInt = (v 5).toInt := by rw [ev7]; rfl
  have ev7_6 : (v7 6).toInt = (m6).toInt := by rw [ev7]; rfl
  have ev7_7 : (v7 7).toInt = (v 7).toInt := by rw [ev7]; rfl
  have pn_57 : v7 6 = m6 := by rw [ev7]; rfl
  refine Exists.intro _ (And.intro md_o ?_)
  intro m8 em_65
  try have e8 : m8.toInt = ((v7 6)).toInt - (1) := by rw [em_65]; exact pm_subc _ _ (1) rfl (by omega) (by omega)
  have hv9 : md_V v7 := by unfold md_V; omega
  exact ⟨rfl, fun e9 => absurd e9 (by decide), rfl, m8, v7, f5, rfl, rfl, hv9, hf5, hw5, hr5_0, hr5_1, hr5_12, hr5_13, hr5_14, hr5_15, by first | omega | (dsimp only; omega) | trivial, by refine Or.inr ⟨trivial, pn_57.trans em_56, pm_eqI (by omega), ?_, ?_, ?_, ?_, ?_⟩; (rw [pg_49 7 (by decide), pg_39 7 (by decide), pg_29 7 (by decide), pg_19 7 (by decide), pf_9]); (rw [pg_49 8 (by decide), pg_39 8 (by decide), pg_29 8 (by decide), pf_19, pg_9 8 (by decide)]); (rw [pg_49 9 (by decide), pf_39, pg_29 9 (by decide), pg_19 9 (by decide), pg_9 9 (by decide)]); (rw [pf_49, pg_39 10 (by decide), pg_29 10 (by decide), pg_19 10 (by decide), pg_9 10 (by decide)]); (rw [pg_49 11 (by decide), pg_39 11 (by decide), pf_29, pg_19 11 (by decide), pg_9 11 (by decide)])⟩

set_option maxRecDepth 100000 in
set_option maxHeartbeats 2000000 in
theorem V_X11_ask (D : md_D h q) (v : Nat → Int32) (f : Nat → Nat → Int32) (hv : md_V v) (hf : md_F f) (x1 : Int32) (x2 : Int32)  : pm_Mt l g 275 2 0 0 [.ref h, .int x1, .int x2] (md A0 g h q v f) (md_Qw A0 g h q f (fun r v2 f2 => f2 0 = f 0 ∧ f2 1 = f 1 ∧ f2 12 = f 12 ∧ f2 13 = f 13 ∧ f2 14 = f 14 ∧ f2 15 = f 15 ∧ ((v2 0).toInt = (v 0).toInt ∧ (v2 1).toInt = (v 1).toInt ∧ (v2 2).toInt = (v 2).toInt ∧ (v2 3).toInt = (v 3).toInt ∧ (v2 4).toInt = (v 4).toInt ∧ (v2 5).toInt = (v 5).toInt) ∧ (QST ((v 6).toInt < 30 ∧ (0 ≤ x1.toInt ∧ 0 ≤ nextEq (f 1) x1 0 (v 0).toInt.toNat) ∧ (0 ≤ x2.toInt ∧ 0 ≤ nextEq (f 1) x2 0 (v 0).toInt.toNat)) (-1) x1 x2 (v 6) (v2 6) r (f 7) (f 8) (f 9) (f 10) (f 11) (f2 7) (f2 8) (f2 9) (f2 10) (f2 11)))) := by
  refine mt_X11_ask rfl (fun J hC => ?_)
  have hv9 := hv
  unfold md_V at hv9
  have rg_x1 := pm_rng x1
  have rg_x2 := pm_rng x2
  refine hC.1 0 0 _ _ rfl _ _ _ _ _ ?_
  refine Exists.intro _ (And.intro md_o ?_)
  have k30 : (30 : Int32).toInt = 30 := rfl
  refine And.intro (fun c1 => ?_) (fun c1 => ?_)
  · skip
    refine hC.1 1 35 _ _ rfl _ _ _ _ _ ?_
    have km1 : (-1 : Int32).toInt = -1 := rfl
    refine hC.1 2 36 _ _ rfl _ _ _ _ _ ?_
    exact ⟨rfl, fun e9 => absurd e9 (by decide), rfl, (-1 : Int32), v, f, rfl, rfl, hv, hf, rfl, rfl, rfl, rfl, rfl, rfl, rfl, by first | omega | (dsimp only; omega) | trivial, by first | (exact QST_i yf_9 ⟨fun _ => (by omega), fun _ => trivial⟩) | (exact Or.inl ⟨fun h9 => (by omega), rfl, rfl, rfl, rfl, rfl, rfl, rfl⟩)⟩
  · skip
    refine And.intro (Exists.intro _ md_o) (Exists.intro _ (Exists.intro _ (Exists.intro _ (Exists.intro _ (And.intro (F_X11_place D v f hv hf x1 ) (And.intro rfl (fun r9 A9 h9 => ?_)))))))
    obtain ⟨y2, rfl, rfl, by2⟩ := h9
    have ya_9 := PLN (by omega) by2.2
    refine And.intro (fun c3 => ?_) (fun c3 => ?_)
    · skip
      refine hC.1 1 35 _ _ rfl _ _ _ _ _ ?_
      have km1 : (-1 : Int32).toInt = -1 := rfl
      refine hC.1 2 36 _ _ rfl _ _ _ _ _ ?_
      exact ⟨rfl, fun e9 => absurd e9 (by decide), rfl, (-1 : Int32), v, f, rfl, rfl, hv, hf, rfl, rfl, rfl, rfl, rfl, rfl, rfl, by first | omega | (dsimp only; omega) | trivial, by first | (exact QST_i yf_9 ⟨fun _ => (by omega), fun _ => trivial⟩) | (exact Or.inl ⟨fun h9 => (by omega), rfl, rfl, rfl, rfl, rfl, rfl, rfl⟩)⟩
    · skip
      refine And.intro (Exists.intro _ md_o) (Exists.intro _ (Exists.intro _ (Exists.intro _ (Exists.intro _ (And.intro (F_X11_place D v f hv hf x2 ) (And.intro rfl (fun r9 A9 h9 => ?_)))))))
      obtain ⟨y4, rfl, rfl, by4⟩ := h9
      have yb_9 := PLN (by omega) by4.2
      refine And.intro (fun c5 => ?_) (fun c5 => ?_)
      · skip
        refine hC.1 1 35 _ _ rfl _ _ _ _ _ ?_
        have km1 : (-1 : Int32).toInt = -1 := rfl
        refine hC.1 2 36 _ _ rfl _ _ _ _ _ ?_
        exact ⟨rfl, fun e9 => absurd e9 (by decide), rfl, (-1 : Int32), v, f, rfl, rfl, hv, hf, rfl, rfl, rfl, rfl, rfl, rfl, rfl, by first | omega | (dsimp only; omega) | trivial, by first | (exact QST_i yf_9 ⟨fun _ => (by omega), fun _ => trivial⟩) | (exact Or.inl ⟨fun h9 => (by omega), rfl, rfl, rfl, rfl, rfl, rfl, rfl⟩)⟩
      · skip
        have km1 : (-1 : Int32).toInt = -1 := rfl
        refine And.intro (Exists.intro _ md_o) (Exists.intro _ (Exists.intro _ (Exists.intro _ (Exists.intro _ (And.intro (V_X11_asks D v f hv hf (-1 : Int32) x1 x2 (by omega)) (And.intro rfl (fun r9 A9 h9 => ?_)))))))
        obtain ⟨y6, v7, f7, rfl, rfl, hv7, hf7, hx7, hg7_0, hg7_1, hg7_12, hg7_13, hg7_14, hg7_15, by6⟩ := h9
        have hw7 : f7 2 = f 2 := hx7.trans rfl
        have hr7_0 : f7 0 = f 0 := hg7_0.trans rfl
        have hr7_1 : f7 1 = f 1 := hg7_1.trans rfl
        have hr7_12 : f7 12 = f 12 := hg7_12.trans rfl
        have hr7_13 : f7 13 = f 13 := hg7_13.trans rfl
        have hr7_14 : f7 14 = f 14 := hg7_14.trans rfl
        have hr7_15 : f7 15 = f 15 := hg7_15.trans rfl
        have hu8 := hv7
        unfold md_V at hu8
        have yf_9 := by6.2
        refine hC.1 2 36 _ _ rfl _ _ _ _ _ ?_
        exact ⟨rfl, fun e9 => absurd e9 (by decide), rfl, y6, v7, f7, rfl, rfl, hv7, hf7, hw7, hr7_0, hr7_1, hr7_12, hr7_13, hr7_14, hr7_15, by first | omega | (dsimp only; omega) | trivial, by first | (exact QST_i yf_9 ⟨fun _ => (by omega), fun _ => trivial⟩) | (exact Or.inl ⟨fun h9 => (by omega), rfl, rfl, rfl, rfl, rfl, rfl, rfl⟩)⟩

set_option maxRecDepth 100000 in
set_option maxHeartbeats 2000000 in
theorem V_X11_askOf (D : md_D h q) (v : Nat → Int32) (f : Nat → Nat → Int32) (hv : md_V v) (hf : md_F f) (x1 : Int32) (x2 : Int32) (x3 : Int32)  : pm_Mt l g 277 2 0 0 [.ref h, .int x1, .int x2, .int x3] (md A0 g h q v f) (md_Qw A0 g h q f (fun r v2 f2 => f2 0 = f 0 ∧ f2 1 = f 1 ∧ f2 12 = f 12 ∧ f2 13 = f 13 ∧ f2 14 = f 14 ∧ f2 15 = f 15 ∧ ((v2 0).toInt = (v 0).toInt ∧ (v2 1).toInt = (v 1).toInt ∧ (v2 2).toInt = (v 2).toInt ∧ (v2 3).toInt = (v 3).toInt ∧ (v2 4).toInt = (v 4).toInt ∧ (v2 5).toInt = (v 5).toInt) ∧ (QST ((v 6).toInt < 30 ∧ kno (v 4).toInt x1.toInt ∧ (0 ≤ x2.toInt ∧ 0 ≤ nextEq (rM f x1.toInt) x2 0 (rN f x1.toInt).toInt.toNat) ∧ (0 ≤ x3.toInt ∧ 0 ≤ nextEq (rM f x1.toInt) x3 0 (rN f x1.toInt).toInt.toNat)) x1 x2 x3 (v 6) (v2 6) r (f 7) (f 8) (f 9) (f 10) (f 11) (f2 7) (f2 8) (f2 9) (f2 10) (f2 11)))) := by
  refine mt_X11_askOf rfl (fun J hC => ?_)
  have hv9 := hv
  unfold md_V at hv9
  have rg_x1 := pm_rng x1
  have rg_x2 := pm_rng x2
  have rg_x3 := pm_rng x3
  have rb9 : 0 ≤ (rN f x1.toInt).toInt ∧ (rN f x1.toInt).toInt ≤ 160 := hf 14 _
  refine hC.1 0 0 _ _ rfl _ _ _ _ _ ?_
  refine Exists.intro _ (And.intro md_o ?_)
  have k30 : (30 : Int32).toInt = 30 := rfl
  refine And.intro (fun c1 => ?_) (fun c1 => ?_)
  · skip
    have dc1 : ((v 6)).toInt = ((30 : Int32) : Int32).toInt := congrArg Int32.toInt c1
    refine hC.1 1 43 _ _ rfl _ _ _ _ _ ?_
    have km1 : (-1 : Int32).toInt = -1 := rfl
    exact ⟨rfl, fun e9 => absurd e9 (by decide), rfl, (-1 : Int32), v, f, rfl, rfl, hv, hf, rfl, rfl, rfl, rfl, rfl, rfl, rfl, by first | omega | (dsimp only; omega) | trivial, by first | (exact QST_i yf_9 ⟨fun _ => ⟨by omega, by unfold kno; omega, by omega, by omega⟩, fun _ => trivial⟩) | (exact Or.inl ⟨fun h9 => (by have h8 := h9.2.1; have h7 := h9.2.2; unfold kno at h8; omega), rfl, rfl, rfl, rfl, rfl, rfl, rfl⟩)⟩
  · skip
    have dc1 := pm_neI c1
    refine And.intro (Exists.intro _ md_o) (Exists.intro _ (Exists.intro _ (Exists.intro _ (Exists.intro _ (And.intro (c_X11_isKnown D v f hv hf x1 ) (And.intro rfl (fun r9 A9 h9 => ?_)))))))
    rcases h9 with ⟨y2, rfl, rfl, ⟨rfl, by2⟩ | ⟨rfl, by2⟩⟩
    · skip
      have k1 : (1 : Int32).toInt = 1 := rfl
      refine And.intro (fun c9 => absurd c9 (by decide)) (fun _ => ?_)
      refine And.intro (fun c3 => ?_) (fun c3 => ?_)
      · skip
        refine hC.1 1 43 _ _ rfl _ _ _ _ _ ?_
        have km1 : (-1 : Int32).toInt = -1 := rfl
        exact ⟨rfl, fun e9 => absurd e9 (by decide), rfl, (-1 : Int32), v, f, rfl, rfl, hv, hf, rfl, rfl, rfl, rfl, rfl, rfl, rfl, by first | omega | (dsimp only; omega) | trivial, by first | (exact QST_i yf_9 ⟨fun _ => ⟨by omega, by unfold kno; omega, by omega, by omega⟩, fun _ => trivial⟩) | (exact Or.inl ⟨fun h9 => (by have h8 := h9.2.1; have h7 := h9.2.2; unfold kno at h8; omega), rfl, rfl, rfl, rfl, rfl, rfl, rfl⟩)⟩
      · skip
        refine And.intro (fun c4 => ?_) (fun c4 => ?_)
        · skip
          refine hC.1 1 43 _ _ rfl _ _ _ _ _ ?_
          have km1 : (-1 : Int32).toInt = -1 := rfl
          exact ⟨rfl, fun e9 => absurd e9 (by decide), rfl, (-1 : Int32), v, f, rfl, rfl, hv, hf, rfl, rfl, rfl, rfl, rfl, rfl, rfl, by first | omega | (dsimp only; omega) | trivial, by first | (exact QST_i yf_9 ⟨fun _ => ⟨by omega, by unfold kno; omega, by omega, by omega⟩, fun _ => trivial⟩) | (exact Or.inl ⟨fun h9 => (by have h8 := h9.2.1; have h7 := h9.2.2; unfold kno at h8; omega), rfl, rfl, rfl, rfl, rfl, rfl, rfl⟩)⟩
        · skip
          refine And.intro (Exists.intro _ md_o) (Exists.intro _ (Exists.intro _ (Exists.intro _ (Exists.intro _ (And.intro (F_X11_wasPlace D v f hv hf x1 x2 (by omega)) (And.intro rfl (fun r9 A9 h9 => ?_)))))))
          obtain ⟨y5, rfl, rfl, by5⟩ := h9
          have ya_9 := by5.2
          refine And.intro (fun c6 => ?_) (fun c6 => ?_)
          · skip
            refine hC.1 1 43 _ _ rfl _ _ _ _ _ ?_
            have km1 : (-1 : Int32).toInt = -1 := rfl
            exact ⟨rfl, fun e9 => absurd e9 (by decide), rfl, (-1 : Int32), v, f, rfl, rfl, hv, hf, rfl, rfl, rfl, rfl, rfl, rfl, rfl, by first | omega | (dsimp only; omega) | trivial, by first | (exact QST_i yf_9 ⟨fun _ => ⟨by omega, by unfold kno; omega, by omega, by omega⟩, fun _ => trivial⟩) | (exact Or.inl ⟨fun h9 => (by have h8 := h9.2.1; have h7 := h9.2.2; unfold kno at h8; omega), rfl, rfl, rfl, rfl, rfl, rfl, rfl⟩)⟩
          · skip
            refine And.intro (Exists.intro _ md_o) (Exists.intro _ (Exists.intro _ (Exists.intro _ (Exists.intro _ (And.intro (F_X11_wasPlace D v f hv hf x1 x3 (by omega)) (And.intro rfl (fun r9 A9 h9 => ?_)))))))
            obtain ⟨y7, rfl, rfl, by7⟩ := h9
            have yb_9 := by7.2
            refine And.intro (fun c8 => ?_) (fun c8 => ?_)
            · skip
              refine hC.1 2 45 _ _ rfl _ _ _ _ _ ?_
              refine And.intro (Exists.intro _ md_o) (Exists.intro _ (Exists.intro _ (Exists.intro _ (Exists.intro _ (And.intro (V_X11_asks D v f hv hf x1 x2 x3 (by omega)) (And.intro rfl (fun r9 A9 h9 => ?_)))))))
              obtain ⟨y9, v10, f10, rfl, rfl, hv10, hf10, hx10, hg10_0, hg10_1, hg10_12, hg10_13, hg10_14, hg10_15, by9⟩ := h9
              have hw10 : f10 2 = f 2 := hx10.trans rfl
              have hr10_0 : f10 0 = f 0 := hg10_0.trans rfl
              have hr10_1 : f10 1 = f 1 := hg10_1.trans rfl
              have hr10_12 : f10 12 = f 12 := hg10_12.trans rfl
              have hr10_13 : f10 13 = f 13 := hg10_13.trans rfl
              have hr10_14 : f10 14 = f 14 := hg10_14.trans rfl
              have hr10_15 : f10 15 = f 15 := hg10_15.trans rfl
              have hu11 := hv10
              unfold md_V at hu11
              have yf_9 := by9.2
              exact ⟨rfl, fun e9 => absurd e9 (by decide), rfl, y9, v10, f10, rfl, rfl, hv10, hf10, hw10, hr10_0, hr10_1, hr10_12, hr10_13, hr10_14, hr10_15, by first | omega | (dsimp only; omega) | trivial, by first | (exact QST_i yf_9 ⟨fun _ => ⟨by omega, by unfold kno; omega, by omega, by omega⟩, fun _ => trivial⟩) | (exact Or.inl ⟨fun h9 => (by have h8 := h9.2.1; have h7 := h9.2.2; unfold kno at h8; omega), rfl, rfl, rfl, rfl, rfl, rfl, rfl⟩)⟩
            · skip
              refine hC.1 1 43 _ _ rfl _ _ _ _ _ ?_
              have km1 : (-1 : Int32).toInt = -1 := rfl
              exact ⟨rfl, fun e9 => absurd e9 (by decide), rfl, (-1 : Int32), v, f, rfl, rfl, hv, hf, rfl, rfl, rfl, rfl, rfl, rfl, rfl, by first | omega | (dsimp only; omega) | trivial, by first | (exact QST_i yf_9 ⟨fun _ => ⟨by omega, by unfold kno; omega, by omega, by omega⟩, fun _ => trivial⟩) | (exact Or.inl ⟨fun h9 => (by have h8 := h9.2.1; have h7 := h9.2.2; unfold kno at h8; omega), rfl, rfl, rfl, rfl, rfl, rfl, rfl⟩)⟩
    · skip
      have k0 : (0 : Int32).toInt = 0 := rfl
      refine And.intro (fun _ => ?_) (fun c9 => absurd c9 (by decide))
      refine hC.1 1 43 _ _ rfl _ _ _ _ _ ?_
      have km1 : (-1 : Int32).toInt = -1 := rfl
      exact ⟨rfl, fun e9 => absurd e9 (by decide), rfl, (-1 : Int32), v, f, rfl, rfl, hv, hf, rfl, rfl, rfl, rfl, rfl, rfl, rfl, by first | omega | (dsimp only; omega) | trivial, by first | (exact QST_i yf_9 ⟨fun _ => ⟨by omega, by unfold kno; omega, by omega, by omega⟩, fun _ => trivial⟩) | (exact Or.inl ⟨fun h9 => (by have h8 := h9.2.1; have h7 := h9.2.2; unfold kno at h8; omega), rfl, rfl, rfl, rfl, rfl, rfl, rfl⟩)⟩

end
end
