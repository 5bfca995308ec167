section
section
variable {l : Launch} {g : pm_G} {A0 : pm_H} {K nn dn : Nat} {q : Nat → Nat} {w : Nat → Int32} {e : Nat → Nat → Int32} {v : Nat → Int32} {f : Nat → Nat → Int32}
set_option maxRecDepth 100000 in
set_option maxHeartbeats 2000000 in
theorem Z_X10_cut (hI : cw_I K nn dn q w e) (hs : cw_S v f) (x1 : Int32) (x2 : Int32) (p0 : (w 0).toInt < 100000) : pm_Mt l g 29 4 4 485 [.ref (q 0), .int x1, .int x2] (cw A0 g K nn dn q w e v f) (cw_Qb A0 g K nn q (fun r K2 nn2 dn2 w2 e2 => e2 15 = e 15 ∧ (∃ x : Int32, r = some (.int x) ∧ (((w2 0).toInt ≤ (w 0).toInt + 1 ∧ (w 0).toInt ≤ (w2 0).toInt ∧ (w2 3).toInt = (w 3).toInt) ∧ ((∀ L, rp (w nn) (e (nn + 1)) (e (nn + 2)) L → (nn : Int) = 40 + 4 * ((w 0).toInt % 41) → rp (w2 nn2) (e2 (nn2 + 1)) (e2 (nn2 + 2)) ((ed_cut L x1 x2).getD L) ∧ (w2 0).toInt = (w 0).toInt + edn (ed_cut L x1 x2) ∧ (w2 1).toInt = (w 1).toInt + edn (ed_cut L x1 x2) * (0) ∧ (nn2 : Int) = 40 + 4 * ((w2 0).toInt % 41) ∧ (bd (w nn) (e (nn + 1)) (e (nn + 3)) → bd (w2 nn2) (e2 (nn2 + 1)) (e2 (nn2 + 3)))) ∧ HCe K nn w e w2 e2 nn2 x))))) := by
  refine mt_X10_cut rfl (fun J hC => ?_)
  have ro_nn : cw_ro K nn := hI.2.1.2.1
  have ro_dn : cw_ro K dn := hI.2.1.2.2.1
  have hu1 := hI.2.1
  unfold cw_W at hu1
  replace hu1 := And.intro hu1.1 (And.intro (And.intro hu1.2.1.1 hu1.2.1.2.1) (And.intro (And.intro hu1.2.2.1.1 hu1.2.2.1.2.1) (And.intro hu1.2.2.2.1 (And.intro hu1.2.2.2.2.2.1 hu1.2.2.2.2.2.2))))
  have zs2 := cw_sz hI ro_nn
  have zs3 := cw_sz hI ro_dn
  have rg_x1 := pm_rng x1
  have rg_x2 := pm_rng x2
  refine hC.1 0 0 _ _ rfl _ _ _ _ _ ?_
  refine Exists.intro _ (And.intro (cw_o0 hI.1) ?_)
  refine Exists.intro _ (And.intro (cw_o1 hI.1) ?_)
  refine And.intro (Exists.intro _ (cw_ro_o hI.1 ro_nn)) (Exists.intro _ (Exists.intro _ (Exists.intro _ (Exists.intro _ (And.intro (c_X7_isSpan hI hs ro_nn x1 x2 ) (And.intro rfl (fun r9 A9 h9 => ?_)))))))
  rcases h9 with ⟨y4, rfl, rfl, ⟨rfl, by4⟩ | ⟨rfl, by4⟩⟩
  · skip
    have k1 : (1 : Int32).toInt = 1 := rfl
    refine And.intro (fun _ => ?_) (fun c9 => absurd c9 (by decide))
    refine hC.1 1 19 _ _ rfl _ _ _ _ _ ?_
    refine Exists.intro _ (And.intro (cw_o0 hI.1) ?_)
    refine And.intro (Exists.intro _ (cw_o1 hI.1)) (Exists.intro _ (Exists.intro _ (Exists.intro _ (Exists.intro _ (And.intro (F_X9_begin hI hs  (by omega)) (And.intro rfl (fun r9 A9 h9 => ?_)))))))
    obtain ⟨K7, dn7, q7, w7, e7, rfl, rfl, hI7, hX7, hk7, hw7, hy7, hdn7, hfm7, hz7⟩ := h9
    have hq7_0 : q 0 = q7 0 := (hX7.2.1 0 (by omega)).symm
    have hq7_nn : q nn = q7 nn := (hX7.2.1 nn (by omega)).symm
    rw [hq7_0, hq7_nn]
    have hw7_0 := congrArg Int32.toInt hw7.1
    have hw7_1 := congrArg Int32.toInt hw7.2.1
    have hw7_3 := congrArg Int32.toInt hw7.2.2.2
    have ro7 : cw_ro K7 dn7 := hI7.2.1.2.2.1
    have rn7 : cw_ro K7 nn := hI7.2.1.2.1
    have hx7 : e7 15 = e 15 := hy7.trans rfl
    have hu8 := hI7.2.1
    unfold cw_W at hu8
    replace hu8 := And.intro hu8.1 (And.intro (And.intro hu8.2.1.1 hu8.2.1.2.1) (And.intro (And.intro hu8.2.2.1.1 hu8.2.2.1.2.1) (And.intro hu8.2.2.2.1 (And.intro hu8.2.2.2.2.2.1 hu8.2.2.2.2.2.2))))
    have zs9 := cw_sz hI7 rn7
    have zs10 := cw_sz hI7 ro7
    have hz9 := hz7
    have hL7 : ∀ L, rp (w nn) (e (nn + 1)) (e (nn + 2)) L → (nn : Int) = 40 + 4 * ((w 0).toInt % 41) → nn ≠ dn7 ∧ rp (w7 nn) (e7 (nn + 1)) (e7 (nn + 2)) L := hL_b ro_nn ro7 hdn7 hfm7
    have hF7 : FRO K w e w7 e7 dn7 := hfm7
    refine Exists.intro _ (And.intro (cw_o0 hI7.1) ?_)
    have k0 : (0 : Int32).toInt = 0 := rfl
    intro m11 em_33
    try have e11 : m11.toInt = (x1).toInt - (1) := by rw [em_33]; exact pm_subc _ _ (1) rfl (by omega) (by omega)
    have hp_34 := hL7
    refine And.intro (Exists.intro _ (cw_o1 hI7.1)) (Exists.intro _ (Exists.intro _ (Exists.intro _ (Exists.intro _ (And.intro (F_X9_keep hI7 hs (0 : Int32) m11 ) (And.intro rfl (fun r9 A9 h9 => ?_)))))))
    rcases h9 with ⟨w13, e13, v13, f13, rfl, hI13, hs13, hy13, rfl, by12⟩
    have hx13 : e13 15 = e 15 := hy13.trans hx7
    have zs14 := cw_sz hI13 rn7
    have zs15 := cw_sz hI13 ro7
    have hb_34 := by12.2
    have hF13 : FRO K w e w13 e13 dn7 := FRO_s hF7 hb_34.1
    have hL13 : ∀ L, rp (w nn) (e (nn + 1)) (e (nn + 2)) L → (nn : Int) = 40 + 4 * ((w 0).toInt % 41) → nn ≠ dn7 ∧ rp (w13 nn) (e13 (nn + 1)) (e13 (nn + 2)) L := hL_k hL7 rn7 ro7 hb_34.1
    have sw13_0 : (w13 0).toInt = (w 0).toInt := by12.1.1.trans hw7_0
    have sw13_1 : (w13 1).toInt = (w 1).toInt := by12.1.2.1.trans hw7_1
    have sw13_3 : (w13 3).toInt = (w 3).toInt := by12.1.2.2.trans hw7_3
    clear by12
    refine Exists.intro _ (And.intro (cw_o0 hI13.1) ?_)
    intro m16 em_43
    try have e16 : m16.toInt = (x2).toInt + (1) := by rw [em_43]; exact pm_addc _ _ (1) rfl (by omega) (by omega)
    refine Exists.intro _ (And.intro (cw_ro_o hI13.1 rn7) ?_)
    have z17 := cw_sz hI13 rn7
    intro m18 em_49
    try have e18 : m18.toInt = ((w13 nn)).toInt - (1) := by rw [em_49]; exact pm_subc _ _ (1) rfl (by omega) (by omega)
    have hp_50 := hL13
    refine And.intro (Exists.intro _ (cw_o1 hI13.1)) (Exists.intro _ (Exists.intro _ (Exists.intro _ (Exists.intro _ (And.intro (F_X9_keep hI13 hs13 m16 m18 ) (And.intro rfl (fun r9 A9 h9 => ?_)))))))
    rcases h9 with ⟨w20, e20, v20, f20, rfl, hI20, hs20, hy20, rfl, by19⟩
    have hx20 : e20 15 = e 15 := hy20.trans hx13
    clear zs14 zs15
    have zs21 := cw_sz hI20 rn7
    have zs22 := cw_sz hI20 ro7
    have hb_50 := by19.2
    have hF20 : FRO K w e w20 e20 dn7 := FRO_s hF13 hb_50.1
    have hL20 : ∀ L, rp (w nn) (e (nn + 1)) (e (nn + 2)) L → (nn : Int) = 40 + 4 * ((w 0).toInt % 41) → nn ≠ dn7 ∧ rp (w20 nn) (e20 (nn + 1)) (e20 (nn + 2)) L := hL_k hL13 rn7 ro7 hb_50.1
    have sw20_0 : (w20 0).toInt = (w 0).toInt := by19.1.1.trans sw13_0
    have sw20_1 : (w20 1).toInt = (w 1).toInt := by19.1.2.1.trans sw13_1
    have sw20_3 : (w20 3).toInt = (w 3).toInt := by19.1.2.2.trans sw13_3
    clear by19 sw13_0 sw13_1 sw13_3
    refine Exists.intro _ (And.intro (cw_o0 hI20.1) ?_)
    have hp_57 := hL20
    refine And.intro (Exists.intro _ (cw_o1 hI20.1)) (Exists.intro _ (Exists.intro _ (Exists.intro _ (Exists.intro _ (And.intro (Z_X9_finish hI20 hs20  (by omega) (by omega)) (And.intro rfl (fun r9 A9 h9 => ?_)))))))
    rcases h9 with ⟨w24, e24, v24, f24, rfl, hI24, hs24, hy24, y23, rfl, by23⟩
    have hx24 : e24 15 = e 15 := hy24.trans hx20
    have hu25 := hI24.2.1.2.2.2.1
    have hu26 := hI24.2.1.2.2.2.2.1
    clear zs21 zs22
    have zs27 := cw_sz hI24 ro7
    have zs28 := cw_sz hI24 ro7
    have hb_57 := by23.2.1
    have ht_57 := by23.2.2
    have hF24 : FRO K w e w24 e24 dn7 := FRO_s hF20 hb_57.1
    have hc_9 : HCn K w e w24 e24 dn7 y23 := ⟨by omega, hF24, ht_57⟩
    have sw24_1 : (w24 1).toInt = (w 1).toInt := by23.1.1.trans sw20_1
    have sw24_3 : (w24 3).toInt = (w 3).toInt := by23.1.2.1.trans sw20_3
    have sp24 := by23.1.2.2
    clear by23 sw20_1 sw20_3
    exact ⟨rfl, fun e9 => absurd e9 (by decide), rfl, K7, dn7, dn7, q7, w24, e24, v24, f24, rfl, hI24, hs24, hX7, hx24, y23, rfl, by first | omega | (dsimp only; omega) | trivial, by refine ⟨?_, ?_⟩; (intro L hL hN; have hl := hL.1; rw [ed_cut, if_pos (by omega)]; have q1 := hp_34 L hL hN; have z1 := q1.2.1; have t1 := hb_34.2 L ([]) (0) (x1.toInt) q1.2 q1.1 (by omega) (by omega) (by omega) (by omega) (by omega) (by first | omega | (simp only [List.length_append, List.length_nil, List.length_cons, List.length_map, List.length_reverse, nw_len, dr_len]; omega)) (rp_0 hz9); have k1 := si_len (L := L) (a := 0) (b := x1.toInt) (by omega) (by omega) (by omega); rw [List.nil_append] at t1; have q2 := hp_50 L hL hN; have z2 := q2.2.1; have t2 := hb_50.2 L (_) (x2.toInt + 1) (L.length) q2.2 q2.1 (by omega) (by omega) (by omega) (by omega) (by omega) (by first | omega | (simp only [List.length_append, List.length_nil, List.length_cons, List.length_map, List.length_reverse, nw_len, dr_len]; omega)) t1; have k2 := si_len (L := L) (a := x2.toInt + 1) (b := L.length) (by omega) (by omega) (by omega); exact ⟨hb_57.2.1 _ t2, by show _ = _ + (1 : Int); omega, by show _ = _ + (1 : Int) * _; omega, by omega, fun _ => hb_57.2.2⟩); (first | (exact Or.inr hc_9) | (exact hc_9) | (exact Or.inl ⟨rfl, rfl, fun _ _ => ⟨rfl, rfl⟩⟩))⟩
  · skip
    have k0 : (0 : Int32).toInt = 0 := rfl
    refine And.intro (fun c9 => absurd c9 (by decide)) (fun _ => ?_)
    have km1 : (-1 : Int32).toInt = -1 := rfl
    exact ⟨rfl, fun e9 => absurd e9 (by decide), rfl, K, nn, dn, q, w, e, v, f, rfl, hI, hs, cw_X_r, rfl, (-1 : Int32), rfl, by first | omega | (dsimp only; omega) | trivial, by refine ⟨?_, ?_⟩; (intro L hL hN; have hl := hL.1; rw [ed_cut, if_neg (by omega)]; exact ⟨hL, by show _ = _ + (0 : Int); omega, by show _ = _ + (0 : Int) * _; omega, hN, fun h8 => h8⟩); (first | (exact Or.inr hc_9) | (exact hc_9) | (exact Or.inl ⟨rfl, rfl, fun _ _ => ⟨rfl, rfl⟩⟩))⟩

set_option maxRecDepth 100000 in
set_option maxHeartbeats 2000000 in
theorem Z_X10_insert (hI : cw_I K nn dn q w e) (hs : cw_S v f) (x1 : Int32) (x2 : Int32) (p0 : (w 0).toInt < 100000) : pm_Mt l g 25 4 4 485 [.ref (q 0), .int x1, .int x2] (cw A0 g K nn dn q w e v f) (cw_Qb A0 g K nn q (fun r K2 nn2 dn2 w2 e2 => e2 15 = e 15 ∧ (∃ x : Int32, r = some (.int x) ∧ (((w2 0).toInt ≤ (w 0).toInt + 1 ∧ (w 0).toInt ≤ (w2 0).toInt ∧ (w2 3).toInt = (w 3).toInt) ∧ ((∀ L, rp (w nn) (e (nn + 1)) (e (nn + 2)) L → (nn : Int) = 40 + 4 * ((w 0).toInt % 41) → rp (w2 nn2) (e2 (nn2 + 1)) (e2 (nn2 + 2)) ((ed_insert L (w 1) x1 x2).getD L) ∧ (w2 0).toInt = (w 0).toInt + edn (ed_insert L (w 1) x1 x2) ∧ (w2 1).toInt = (w 1).toInt + edn (ed_insert L (w 1) x1 x2) * (1) ∧ (nn2 : Int) = 40 + 4 * ((w2 0).toInt % 41) ∧ (bd (w nn) (e (nn + 1)) (e (nn + 3)) → bd (w2 nn2) (e2 (nn2 + 1)) (e2 (nn2 + 3)))) ∧ HCe K nn w e w2 e2 nn2 x))))) := by
  refine mt_X10_insert rfl (fun J hC => ?_)
  have ro_nn : cw_ro K nn := hI.2.1.2.1
  have ro_dn : cw_ro K dn := hI.2.1.2.2.1
  have hu1 := hI.2.1
  unfold cw_W at hu1
  replace hu1 := And.intro hu1.1 (And.intro (And.intro hu1.2.1.1 hu1.2.1.2.1) (And.intro (And.intro hu1.2.2.1.1 hu1.2.2.1.2.1) (And.intro hu1.2.2.2.1 (And.intro hu1.2.2.2.2.2.1 hu1.2.2.2.2.2.2))))
  have zs2 := cw_sz hI ro_nn
  have zs3 := cw_sz hI ro_dn
  have rg_x1 := pm_rng x1
  have rg_x2 := pm_rng x2
  refine hC.1 0 0 _ _ rfl _ _ _ _ _ ?_
  refine Exists.intro _ (And.intro (cw_o0 hI.1) ?_)
  refine Exists.intro _ (And.intro (cw_o1 hI.1) ?_)
  refine And.intro (Exists.intro _ (cw_ro_o hI.1 ro_nn)) (Exists.intro _ (Exists.intro _ (Exists.intro _ (Exists.intro _ (And.intro (c_X7_isGap hI hs ro_nn x1 ) (And.intro rfl (fun r9 A9 h9 => ?_)))))))
  rcases h9 with ⟨y4, rfl, rfl, ⟨rfl, by4⟩ | ⟨rfl, by4⟩⟩
  · skip
    have k1 : (1 : Int32).toInt = 1 := rfl
    refine And.intro (fun c9 => absurd c9 (by decide)) (fun _ => ?_)
    refine Exists.intro _ (Exists.intro _ (Exists.intro _ (Exists.intro _ (And.intro (c_X10_isColour (cw A0 g K nn dn q w e v f) x2 ) (And.intro rfl (fun r9 A9 h9 => ?_))))))
    rcases h9 with ⟨y6, rfl, rfl, ⟨rfl, by6⟩ | ⟨rfl, by6⟩⟩
    · skip
      refine And.intro (fun c9 => absurd c9 (by decide)) (fun _ => ?_)
      refine Exists.intro _ (And.intro (cw_o0 hI.1) ?_)
      refine And.intro (Exists.intro _ (cw_o1 hI.1)) (Exists.intro _ (Exists.intro _ (Exists.intro _ (Exists.intro _ (And.intro (c_X9_hasRoomFor hI hs (1 : Int32) (by omega)) (And.intro rfl (fun r9 A9 h9 => ?_)))))))
      rcases h9 with ⟨y8, rfl, rfl, ⟨rfl, by8⟩ | ⟨rfl, by8⟩⟩
      · skip
        refine And.intro (fun _ => ?_) (fun c9 => absurd c9 (by decide))
        refine hC.1 2 36 _ _ rfl _ _ _ _ _ ?_
        refine Exists.intro _ (And.intro (cw_o0 hI.1) ?_)
        refine And.intro (Exists.intro _ (cw_o1 hI.1)) (Exists.intro _ (Exists.intro _ (Exists.intro _ (Exists.intro _ (And.intro (F_X9_begin hI hs  (by omega)) (And.intro rfl (fun r9 A9 h9 => ?_)))))))
        obtain ⟨K11, dn11, q11, w11, e11, rfl, rfl, hI11, hX11, hk11, hw11, hy11, hdn11, hfm11, hz11⟩ := h9
        have hq11_0 : q 0 = q11 0 := (hX11.2.1 0 (by omega)).symm
        have hq11_nn : q nn = q11 nn := (hX11.2.1 nn (by omega)).symm
        rw [hq11_0, hq11_nn]
        have hw11_0 := congrArg Int32.toInt hw11.1
        have hw11_1 := congrArg Int32.toInt hw11.2.1
        have hw11_3 := congrArg Int32.toInt hw11.2.2.2
        have ro11 : cw_ro K11 dn11 := hI11.2.1.2.2.1
        have rn11 : cw_ro K11 nn := hI11.2.1.2.1
        have hx11 : e11 15 = e 15 := hy11.trans rfl
        have hu12 := hI11.2.1
        unfold cw_W at hu12
        replace hu12 := And.intro hu12.1 (And.intro (And.intro hu12.2.1.1 hu12.2.1.2.1) (And.intro (And.intro hu12.2.2.1.1 hu12.2.2.1.2.1) (And.intro hu12.2.2.2.1 (And.intro hu12.2.2.2.2.2.1 hu12.2.2.2.2.2.2))))
        have zs13 := cw_sz hI11 rn11
        have zs14 := cw_sz hI11 ro11
        have hz9 := hz11
        have hL11 : ∀ L, rp (w nn) (e (nn + 1)) (e (nn + 2)) L → (nn : Int) = 40 + 4 * ((w 0).toInt % 41) → nn ≠ dn11 ∧ rp (w11 nn) (e11 (nn + 1)) (e11 (nn + 2)) L := hL_b ro_nn ro11 hdn11 hfm11
        have hF11 : FRO K w e w11 e11 dn11 := hfm11
        refine Exists.intro _ (And.intro (cw_o0 hI11.1) ?_)
        have k0 : (0 : Int32).toInt = 0 := rfl
        intro m15 em_50
        try have e15 : m15.toInt = (x1).toInt - (1) := by rw [em_50]; exact pm_subc _ _ (1) rfl (by omega) (by omega)
        have hp_51 := hL11
        refine And.intro (Exists.intro _ (cw_o1 hI11.1)) (Exists.intro _ (Exists.intro _ (Exists.intro _ (Exists.intro _ (And.intro (F_X9_keep hI11 hs (0 : Int32) m15 ) (And.intro rfl (fun r9 A9 h9 => ?_)))))))
        rcases h9 with ⟨w17, e17, v17, f17, rfl, hI17, hs17, hy17, rfl, by16⟩
        have hx17 : e17 15 = e 15 := hy17.trans hx11
        have zs18 := cw_sz hI17 rn11
        have zs19 := cw_sz hI17 ro11
        have hb_51 := by16.2
        have hF17 : FRO K w e w17 e17 dn11 := FRO_s hF11 hb_51.1
        have hL17 : ∀ L, rp (w nn) (e (nn + 1)) (e (nn + 2)) L → (nn : Int) = 40 + 4 * ((w 0).toInt % 41) → nn ≠ dn11 ∧ rp (w17 nn) (e17 (nn + 1)) (e17 (nn + 2)) L := hL_k hL11 rn11 ro11 hb_51.1
        have sw17_0 : (w17 0).toInt = (w 0).toInt := by16.1.1.trans hw11_0
        have sw17_1 : (w17 1).toInt = (w 1).toInt := by16.1.2.1.trans hw11_1
        have sw17_3 : (w17 3).toInt = (w 3).toInt := by16.1.2.2.trans hw11_3
        clear by16
        refine Exists.intro _ (And.intro (cw_o0 hI17.1) ?_)
        have wn9 : w17 1 = w 1 := pm_eqI (by omega)
        have hp_59 := hL17
        refine And.intro (Exists.intro _ (cw_o1 hI17.1)) (Exists.intro _ (Exists.intro _ (Exists.intro _ (Exists.intro _ (And.intro (F_X9_add hI17 hs17 x2 (by omega) (by omega)) (And.intro rfl (fun r9 A9 h9 => ?_)))))))
        rcases h9 with ⟨w21, e21, v21, f21, rfl, hI21, hs21, hy21, rfl, by20⟩
        have hx21 : e21 15 = e 15 := hy21.trans hx17
        have hu22 := hI21.2.1.2.2.2.2.2.1
        clear zs18 zs19
        have zs23 := cw_sz hI21 rn11
        have zs24 := cw_sz hI21 ro11
        have hb_59 := by20.2
        have hF21 : FRO K w e w21 e21 dn11 := FRO_s hF17 hb_59.1
        have hL21 : ∀ L, rp (w nn) (e (nn + 1)) (e (nn + 2)) L → (nn : Int) = 40 + 4 * ((w 0).toInt % 41) → nn ≠ dn11 ∧ rp (w21 nn) (e21 (nn + 1)) (e21 (nn + 2)) L := hL_k hL17 rn11 ro11 hb_59.1
        have sw21_0 : (w21 0).toInt = (w 0).toInt := by20.1.1.trans sw17_0
        have sw21_3 : (w21 3).toInt = (w 3).toInt := by20.1.2.1.trans sw17_3
        have sp21 := by20.1.2.2
        clear by20 sw17_0 sw17_3
        refine Exists.intro _ (And.intro (cw_o0 hI21.1) ?_)
        refine Exists.intro _ (And.intro (cw_ro_o hI21.1 rn11) ?_)
        have z25 := cw_sz hI21 rn11
        intro m26 em_72
        try have e26 : m26.toInt = ((w21 nn)).toInt - (1) := by rw [em_72]; exact pm_subc _ _ (1) rfl (by omega) (by omega)
        have hp_73 := hL21
        refine And.intro (Exists.intro _ (cw_o1 hI21.1)) (Exists.intro _ (Exists.intro _ (Exists.intro _ (Exists.intro _ (And.intro (F_X9_keep hI21 hs21 x1 m26 ) (And.intro rfl (fun r9 A9 h9 => ?_)))))))
        rcases h9 with ⟨w28, e28, v28, f28, rfl, hI28, hs28, hy28, rfl, by27⟩
        have hx28 : e28 15 = e 15 := hy28.trans hx21
        clear zs23 zs24
        have zs29 := cw_sz hI28 rn11
        have zs30 := cw_sz hI28 ro11
        have hb_73 := by27.2
        have hF28 : FRO K w e w28 e28 dn11 := FRO_s hF21 hb_73.1
        have hL28 : ∀ L, rp (w nn) (e (nn + 1)) (e (nn + 2)) L → (nn : Int) = 40 + 4 * ((w 0).toInt % 41) → nn ≠ dn11 ∧ rp (w28 nn) (e28 (nn + 1)) (e28 (nn + 2)) L := hL_k hL21 rn11 ro11 hb_73.1
        have sw28_0 : (w28 0).toInt = (w 0).toInt := by27.1.1.trans sw21_0
        have sw28_1 : (w28 1).toInt = (w21 1).toInt := by27.1.2.1
        have sw28_3 : (w28 3).toInt = (w 3).toInt := by27.1.2.2.trans sw21_3
        clear by27 sw21_0 sw21_3
        refine Exists.intro _ (And.intro (cw_o0 hI28.1) ?_)
        have hp_80 := hL28
        refine And.intro (Exists.intro _ (cw_o1 hI28.1)) (Exists.intro _ (Exists.intro _ (Exists.intro _ (Exists.intro _ (And.intro (Z_X9_finish hI28 hs28  (by omega) (by omega)) (And.intro rfl (fun r9 A9 h9 => ?_)))))))
        rcases h9 with ⟨w32, e32, v32, f32, rfl, hI32, hs32, hy32, y31, rfl, by31⟩
        have hx32 : e32 15 = e 15 := hy32.trans hx28
        have hu33 := hI32.2.1.2.2.2.1
        have hu34 := hI32.2.1.2.2.2.2.1
        clear zs29 zs30
        have zs35 := cw_sz hI32 ro11
        have zs36 := cw_sz hI32 ro11
        have hb_80 := by31.2.1
        have ht_80 := by31.2.2
        have hF32 : FRO K w e w32 e32 dn11 := FRO_s hF28 hb_80.1
        have hc_9 : HCn K w e w32 e32 dn11 y31 := ⟨by omega, hF32, ht_80⟩
        have sw32_1 : (w32 1).toInt = (w21 1).toInt := by31.1.1.trans sw28_1
        have sw32_3 : (w32 3).toInt = (w 3).toInt := by31.1.2.1.trans sw28_3
        have sp32 := by31.1.2.2
        clear by31 sw28_1 sw28_3
        exact ⟨rfl, fun e9 => absurd e9 (by decide), rfl, K11, dn11, dn11, q11, w32, e32, v32, f32, rfl, hI32, hs32, hX11, hx32, y31, rfl, by first | omega | (dsimp only; omega) | trivial, by refine ⟨?_, ?_⟩; (intro L hL hN; have hl := hL.1; rw [ed_insert, if_pos (by omega)]; have q1 := hp_51 L hL hN; have z1 := q1.2.1; have t1 := hb_51.2 L ([]) (0) (x1.toInt) q1.2 q1.1 (by omega) (by omega) (by omega) (by omega) (by omega) (by first | omega | (simp only [List.length_append, List.length_nil, List.length_cons, List.length_map, List.length_reverse, nw_len, dr_len]; omega)) (rp_0 hz9); have k1 := si_len (L := L) (a := 0) (b := x1.toInt) (by omega) (by omega) (by omega); rw [List.nil_append] at t1; have t2 := hb_59.2 _ t1 (by first | omega | (simp only [List.length_append, List.length_nil, List.length_cons, List.length_map, List.length_reverse, nw_len, dr_len]; omega)); rw [wn9] at t2; have q3 := hp_73 L hL hN; have z3 := q3.2.1; have t3 := hb_73.2 L (_) (x1.toInt) (L.length) q3.2 q3.1 (by omega) (by omega) (by omega) (by omega) (by omega) (by first | omega | (simp only [List.length_append, List.length_nil, List.length_cons, List.length_map, List.length_reverse, nw_len, dr_len]; omega)) t2; have k3 := si_len (L := L) (a := x1.toInt) (b := L.length) (by omega) (by omega) (by omega); exact ⟨hb_80.2.1 _ t3, by show _ = _ + (1 : Int); omega, by show _ = _ + (1 : Int) * _; omega, by omega, fun _ => hb_80.2.2⟩); (first | (exact Or.inr hc_9) | (exact hc_9) | (exact Or.inl ⟨rfl, rfl, fun _ _ => ⟨rfl, rfl⟩⟩))⟩
      · skip
        have k0 : (0 : Int32).toInt = 0 := rfl
        refine And.intro (fun c9 => absurd c9 (by decide)) (fun _ => ?_)
        refine hC.1 1 34 _ _ rfl _ _ _ _ _ ?_
        have km1 : (-1 : Int32).toInt = -1 := rfl
        exact ⟨rfl, fun e9 => absurd e9 (by decide), rfl, K, nn, dn, q, w, e, v, f, rfl, hI, hs, cw_X_r, rfl, (-1 : Int32), rfl, by first | omega | (dsimp only; omega) | trivial, by refine ⟨?_, ?_⟩; (intro L hL hN; have hl := hL.1; rw [ed_insert, if_neg (by omega)]; exact ⟨hL, by show _ = _ + (0 : Int); omega, by show _ = _ + (0 : Int) * _; omega, hN, fun h8 => h8⟩); (first | (exact Or.inr hc_9) | (exact hc_9) | (exact Or.inl ⟨rfl, rfl, fun _ _ => ⟨rfl, rfl⟩⟩))⟩
    · skip
      have k0 : (0 : Int32).toInt = 0 := rfl
      refine And.intro (fun _ => ?_) (fun c9 => absurd c9 (by decide))
      refine hC.1 1 34 _ _ rfl _ _ _ _ _ ?_
      have km1 : (-1 : Int32).toInt = -1 := rfl
      exact ⟨rfl, fun e9 => absurd e9 (by decide), rfl, K, nn, dn, q, w, e, v, f, rfl, hI, hs, cw_X_r, rfl, (-1 : Int32), rfl, by first | omega | (dsimp only; omega) | trivial, by refine ⟨?_, ?_⟩; (intro L hL hN; have hl := hL.1; rw [ed_insert, if_neg (by omega)]; exact ⟨hL, by show _ = _ + (0 : Int); omega, by show _ = _ + (0 : Int) * _; omega, hN, fun h8 => h8⟩); (first | (exact Or.inr hc_9) | (exact hc_9) | (exact Or.inl ⟨rfl, rfl, fun _ _ => ⟨rfl, rfl⟩⟩))⟩
  · skip
    have k0 : (0 : Int32).toInt = 0 := rfl
    refine And.intro (fun _ => ?_) (fun c9 => absurd c9 (by decide))
    refine hC.1 1 34 _ _ rfl _ _ _ _ _ ?_
    have km1 : (-1 : Int32).toInt = -1 := rfl
    exact ⟨rfl, fun e9 => absurd e9 (by decide), rfl, K, nn, dn, q, w, e, v, f, rfl, hI, hs, cw_X_r, rfl, (-1 : Int32), rfl, by first | omega | (dsimp only; omega) | trivial, by refine ⟨?_, ?_⟩; (intro L hL hN; have hl := hL.1; rw [ed_insert, if_neg (by omega)]; exact ⟨hL, by show _ = _ + (0 : Int); omega, by show _ = _ + (0 : Int) * _; omega, hN, fun h8 => h8⟩); (first | (exact Or.inr hc_9) | (exact hc_9) | (exact Or.inl ⟨rfl, rfl, fun _ _ => ⟨rfl, rfl⟩⟩))⟩

end
end
section
section
variable {l : Launch} {g : pm_G} {A0 : pm_H} {K nn dn : Nat} {q : Nat → Nat} {w : Nat → Int32} {e : Nat → Nat → Int32} {v : Nat → Int32} {f : Nat → Nat → Int32}
set_option maxRecDepth 100000 in
set_option maxHeartbeats 2000000 in
theorem Z_X10_shift (hI : cw_I K nn dn q w e) (hs : cw_S v f) (x1 : Int32) (x2 : Int32) (x3 : Int32) (p0 : (w 0).toInt < 100000) : pm_Mt l g 31 4 4 485 [.ref (q 0), .int x1, .int x2, .int x3] (cw A0 g K nn dn q w e v f) (cw_Qb A0 g K nn q (fun r K2 nn2 dn2 w2 e2 => e2 15 = e 15 ∧ (∃ x : Int32, r = some (.int x) ∧ (((w2 0).toInt ≤ (w 0).toInt + 1 ∧ (w 0).toInt ≤ (w2 0).toInt ∧ (w2 3).toInt = (w 3).toInt) ∧ ((∀ L, rp (w nn) (e (nn + 1)) (e (nn + 2)) L → (nn : Int) = 40 + 4 * ((w 0).toInt % 41) → rp (w2 nn2) (e2 (nn2 + 1)) (e2 (nn2 + 2)) ((ed_shift L x1 x2 x3).getD L) ∧ (w2 0).toInt = (w 0).toInt + edn (ed_shift L x1 x2 x3) ∧ (w2 1).toInt = (w 1).toInt + edn (ed_shift L x1 x2 x3) * (0) ∧ (nn2 : Int) = 40 + 4 * ((w2 0).toInt % 41) ∧ (bd (w nn) (e (nn + 1)) (e (nn + 3)) → bd (w2 nn2) (e2 (nn2 + 1)) (e2 (nn2 + 3)))) ∧ HCe K nn w e w2 e2 nn2 x))))) := by
  refine mt_X10_shift rfl (fun J hC => ?_)
  have ro_nn : cw_ro K nn := hI.2.1.2.1
  have ro_dn : cw_ro K dn := hI.2.1.2.2.1
  have hu1 := hI.2.1
  unfold cw_W at hu1
  replace hu1 := And.intro hu1.1 (And.intro (And.intro hu1.2.1.1 hu1.2.1.2.1) (And.intro (And.intro hu1.2.2.1.1 hu1.2.2.1.2.1) (And.intro hu1.2.2.2.1 (And.intro hu1.2.2.2.2.2.1 hu1.2.2.2.2.2.2))))
  have zs2 := cw_sz hI ro_nn
  have zs3 := cw_sz hI ro_dn
  have rg_x1 := pm_rng x1
  have rg_x2 := pm_rng x2
  have rg_x3 := pm_rng x3
  refine hC.1 0 0 _ _ rfl _ _ _ _ _ ?_
  refine Exists.intro _ (And.intro (cw_o0 hI.1) ?_)
  refine Exists.intro _ (And.intro (cw_o1 hI.1) ?_)
  refine And.intro (Exists.intro _ (cw_ro_o hI.1 ro_nn)) (Exists.intro _ (Exists.intro _ (Exists.intro _ (Exists.intro _ (And.intro (c_X7_isSpan hI hs ro_nn x1 x2 ) (And.intro rfl (fun r9 A9 h9 => ?_)))))))
  rcases h9 with ⟨y4, rfl, rfl, ⟨rfl, by4⟩ | ⟨rfl, by4⟩⟩
  · skip
    have k1 : (1 : Int32).toInt = 1 := rfl
    refine And.intro (fun c9 => absurd c9 (by decide)) (fun _ => ?_)
    refine And.intro (fun c6 => ?_) (fun c6 => ?_)
    · skip
      refine hC.1 1 32 _ _ rfl _ _ _ _ _ ?_
      have km1 : (-1 : Int32).toInt = -1 := rfl
      exact ⟨rfl, fun e9 => absurd e9 (by decide), rfl, K, nn, dn, q, w, e, v, f, rfl, hI, hs, cw_X_r, rfl, (-1 : Int32), rfl, by first | omega | (dsimp only; omega) | trivial, by refine ⟨?_, ?_⟩; (intro L hL hN; have hl := hL.1; rw [ed_shift, if_neg (by omega)]; exact ⟨hL, by show _ = _ + (0 : Int); omega, by show _ = _ + (0 : Int) * _; omega, hN, fun h8 => h8⟩); (first | (exact Or.inr hc_9) | (exact hc_9) | (exact Or.inl ⟨rfl, rfl, fun _ _ => ⟨rfl, rfl⟩⟩))⟩
    · skip
      intro m7 em_26
      try have e7 : m7.toInt = (x2).toInt - (x1).toInt := by rw [em_26]; exact pm_sub _ _ (by omega) (by omega)
      intro m8 em_28
      try have e8 : m8.toInt = (m7).toInt + (1) := by rw [em_28]; exact pm_addc _ _ (1) rfl (by omega) (by omega)
      refine And.intro (fun c9 => ?_) (fun c9 => ?_)
      · skip
        refine hC.1 2 34 _ _ rfl _ _ _ _ _ ?_
        refine Exists.intro _ (And.intro (cw_o0 hI.1) ?_)
        refine And.intro (Exists.intro _ (cw_o1 hI.1)) (Exists.intro _ (Exists.intro _ (Exists.intro _ (Exists.intro _ (And.intro (F_X9_begin hI hs  (by omega)) (And.intro rfl (fun r9 A9 h9 => ?_)))))))
        obtain ⟨K11, dn11, q11, w11, e11, rfl, rfl, hI11, hX11, hk11, hw11, hy11, hdn11, hfm11, hz11⟩ := h9
        have hq11_0 : q 0 = q11 0 := (hX11.2.1 0 (by omega)).symm
        have hq11_nn : q nn = q11 nn := (hX11.2.1 nn (by omega)).symm
        rw [hq11_0, hq11_nn]
        have hw11_0 := congrArg Int32.toInt hw11.1
        have hw11_1 := congrArg Int32.toInt hw11.2.1
        have hw11_3 := congrArg Int32.toInt hw11.2.2.2
        have ro11 : cw_ro K11 dn11 := hI11.2.1.2.2.1
        have rn11 : cw_ro K11 nn := hI11.2.1.2.1
        have hx11 : e11 15 = e 15 := hy11.trans rfl
        have hu12 := hI11.2.1
        unfold cw_W at hu12
        replace hu12 := And.intro hu12.1 (And.intro (And.intro hu12.2.1.1 hu12.2.1.2.1) (And.intro (And.intro hu12.2.2.1.1 hu12.2.2.1.2.1) (And.intro hu12.2.2.2.1 (And.intro hu12.2.2.2.2.2.1 hu12.2.2.2.2.2.2))))
        have zs13 := cw_sz hI11 rn11
        have zs14 := cw_sz hI11 ro11
        have hz9 := hz11
        have hL11 : ∀ L, rp (w nn) (e (nn + 1)) (e (nn + 2)) L → (nn : Int) = 40 + 4 * ((w 0).toInt % 41) → nn ≠ dn11 ∧ rp (w11 nn) (e11 (nn + 1)) (e11 (nn + 2)) L := hL_b ro_nn ro11 hdn11 hfm11
        have hF11 : FRO K w e w11 e11 dn11 := hfm11
        refine Exists.intro _ (And.intro (cw_o0 hI11.1) ?_)
        have k0 : (0 : Int32).toInt = 0 := rfl
        intro m15 em_48
        try have e15 : m15.toInt = (x1).toInt - (1) := by rw [em_48]; exact pm_subc _ _ (1) rfl (by omega) (by omega)
        have hp_49 := hL11
        refine And.intro (Exists.intro _ (cw_o1 hI11.1)) (Exists.intro _ (Exists.intro _ (Exists.intro _ (Exists.intro _ (And.intro (F_X9_keep hI11 hs (0 : Int32) m15 ) (And.intro rfl (fun r9 A9 h9 => ?_)))))))
        rcases h9 with ⟨w17, e17, v17, f17, rfl, hI17, hs17, hy17, rfl, by16⟩
        have hx17 : e17 15 = e 15 := hy17.trans hx11
        have zs18 := cw_sz hI17 rn11
        have zs19 := cw_sz hI17 ro11
        have hb_49 := by16.2
        have hF17 : FRO K w e w17 e17 dn11 := FRO_s hF11 hb_49.1
        have hL17 : ∀ L, rp (w nn) (e (nn + 1)) (e (nn + 2)) L → (nn : Int) = 40 + 4 * ((w 0).toInt % 41) → nn ≠ dn11 ∧ rp (w17 nn) (e17 (nn + 1)) (e17 (nn + 2)) L := hL_k hL11 rn11 ro11 hb_49.1
        have sw17_0 : (w17 0).toInt = (w 0).toInt := by16.1.1.trans hw11_0
        have sw17_1 : (w17 1).toInt = (w 1).toInt := by16.1.2.1.trans hw11_1
        have sw17_3 : (w17 3).toInt = (w 3).toInt := by16.1.2.2.trans hw11_3
        clear by16
        refine Exists.intro _ (And.intro (cw_o0 hI17.1) ?_)
        intro m20 em_58
        try have e20 : m20.toInt = (x1).toInt + (x3).toInt := by rw [em_58]; exact pm_add _ _ (by omega) (by omega)
        have hp_60 := hL17
        refine And.intro (Exists.intro _ (cw_o1 hI17.1)) (Exists.intro _ (Exists.intro _ (Exists.intro _ (Exists.intro _ (And.intro (F_X9_keep hI17 hs17 m20 x2 ) (And.intro rfl (fun r9 A9 h9 => ?_)))))))
        rcases h9 with ⟨w22, e22, v22, f22, rfl, hI22, hs22, hy22, rfl, by21⟩
        have hx22 : e22 15 = e 15 := hy22.trans hx17
        clear zs18 zs19
        have zs23 := cw_sz hI22 rn11
        have zs24 := cw_sz hI22 ro11
        have hb_60 := by21.2
        have hF22 : FRO K w e w22 e22 dn11 := FRO_s hF17 hb_60.1
        have hL22 : ∀ L, rp (w nn) (e (nn + 1)) (e (nn + 2)) L → (nn : Int) = 40 + 4 * ((w 0).toInt % 41) → nn ≠ dn11 ∧ rp (w22 nn) (e22 (nn + 1)) (e22 (nn + 2)) L := hL_k hL17 rn11 ro11 hb_60.1
        have sw22_0 : (w22 0).toInt = (w 0).toInt := by21.1.1.trans sw17_0
        have sw22_1 : (w22 1).toInt = (w 1).toInt := by21.1.2.1.trans sw17_1
        have sw22_3 : (w22 3).toInt = (w 3).toInt := by21.1.2.2.trans sw17_3
        clear by21 sw17_0 sw17_1 sw17_3
        refine Exists.intro _ (And.intro (cw_o0 hI22.1) ?_)
        intro m25 em_70
        try have e25 : m25.toInt = (x1).toInt + (x3).toInt := by rw [em_70]; exact pm_add _ _ (by omega) (by omega)
        intro m26 em_72
        try have e26 : m26.toInt = (m25).toInt - (1) := by rw [em_72]; exact pm_subc _ _ (1) rfl (by omega) (by omega)
        have hp_73 := hL22
        refine And.intro (Exists.intro _ (cw_o1 hI22.1)) (Exists.intro _ (Exists.intro _ (Exists.intro _ (Exists.intro _ (And.intro (F_X9_keep hI22 hs22 x1 m26 ) (And.intro rfl (fun r9 A9 h9 => ?_)))))))
        rcases h9 with ⟨w28, e28, v28, f28, rfl, hI28, hs28, hy28, rfl, by27⟩
        have hx28 : e28 15 = e 15 := hy28.trans hx22
        clear zs23 zs24
        have zs29 := cw_sz hI28 rn11
        have zs30 := cw_sz hI28 ro11
        have hb_73 := by27.2
        have hF28 : FRO K w e w28 e28 dn11 := FRO_s hF22 hb_73.1
        have hL28 : ∀ L, rp (w nn) (e (nn + 1)) (e (nn + 2)) L → (nn : Int) = 40 + 4 * ((w 0).toInt % 41) → nn ≠ dn11 ∧ rp (w28 nn) (e28 (nn + 1)) (e28 (nn + 2)) L := hL_k hL22 rn11 ro11 hb_73.1
        have sw28_0 : (w28 0).toInt = (w 0).toInt := by27.1.1.trans sw22_0
        have sw28_1 : (w28 1).toInt = (w 1).toInt := by27.1.2.1.trans sw22_1
        have sw28_3 : (w28 3).toInt = (w 3).toInt := by27.1.2.2.trans sw22_3
        clear by27 sw22_0 sw22_1 sw22_3
        refine Exists.intro _ (And.intro (cw_o0 hI28.1) ?_)
        intro m31 em_82
        try have e31 : m31.toInt = (x2).toInt + (1) := by rw [em_82]; exact pm_addc _ _ (1) rfl (by omega) (by omega)
        refine Exists.intro _ (And.intro (cw_ro_o hI28.1 rn11) ?_)
        have z32 := cw_sz hI28 rn11
        intro m33 em_89
        try have e33 : m33.toInt = ((w28 nn)).toInt - (1) := by rw [em_89]; exact pm_subc _ _ (1) rfl (by omega) (by omega)
        have hp_90 := hL28
        refine And.intro (Exists.intro _ (cw_o1 hI28.1)) (Exists.intro _ (Exists.intro _ (Exists.intro _ (Exists.intro _ (And.intro (F_X9_keep hI28 hs28 m31 m33 ) (And.intro rfl (fun r9 A9 h9 => ?_)))))))
        rcases h9 with ⟨w35, e35, v35, f35, rfl, hI35, hs35, hy35, rfl, by34⟩
        have hx35 : e35 15 = e 15 := hy35.trans hx28
        clear zs29 zs30
        have zs36 := cw_sz hI35 rn11
        have zs37 := cw_sz hI35 ro11
        have hb_90 := by34.2
        have hF35 : FRO K w e w35 e35 dn11 := FRO_s hF28 hb_90.1
        have hL35 : ∀ L, rp (w nn) (e (nn + 1)) (e (nn + 2)) L → (nn : Int) = 40 + 4 * ((w 0).toInt % 41) → nn ≠ dn11 ∧ rp (w35 nn) (e35 (nn + 1)) (e35 (nn + 2)) L := hL_k hL28 rn11 ro11 hb_90.1
        have sw35_0 : (w35 0).toInt = (w 0).toInt := by34.1.1.trans sw28_0
        have sw35_1 : (w35 1).toInt = (w 1).toInt := by34.1.2.1.trans sw28_1
        have sw35_3 : (w35 3).toInt = (w 3).toInt := by34.1.2.2.trans sw28_3
        clear by34 sw28_0 sw28_1 sw28_3
        refine Exists.intro _ (And.intro (cw_o0 hI35.1) ?_)
        have hp_97 := hL35
        refine And.intro (Exists.intro _ (cw_o1 hI35.1)) (Exists.intro _ (Exists.intro _ (Exists.intro _ (Exists.intro _ (And.intro (Z_X9_finish hI35 hs35  (by omega) (by omega)) (And.intro rfl (fun r9 A9 h9 => ?_)))))))
        rcases h9 with ⟨w39, e39, v39, f39, rfl, hI39, hs39, hy39, y38, rfl, by38⟩
        have hx39 : e39 15 = e 15 := hy39.trans hx35
        have hu40 := hI39.2.1.2.2.2.1
        have hu41 := hI39.2.1.2.2.2.2.1
        clear zs36 zs37
        have zs42 := cw_sz hI39 ro11
        have zs43 := cw_sz hI39 ro11
        have hb_97 := by38.2.1
        have ht_97 := by38.2.2
        have hF39 : FRO K w e w39 e39 dn11 := FRO_s hF35 hb_97.1
        have hc_9 : HCn K w e w39 e39 dn11 y38 := ⟨by omega, hF39, ht_97⟩
        have sw39_1 : (w39 1).toInt = (w 1).toInt := by38.1.1.trans sw35_1
        have sw39_3 : (w39 3).toInt = (w 3).toInt := by38.1.2.1.trans sw35_3
        have sp39 := by38.1.2.2
        clear by38 sw35_1 sw35_3
        exact ⟨rfl, fun e9 => absurd e9 (by decide), rfl, K11, dn11, dn11, q11, w39, e39, v39, f39, rfl, hI39, hs39, hX11, hx39, y38, rfl, by first | omega | (dsimp only; omega) | trivial, by refine ⟨?_, ?_⟩; (intro L hL hN; have hl := hL.1; rw [ed_shift, if_pos (by omega)]; have q1 := hp_49 L hL hN; have z1 := q1.2.1; have t1 := hb_49.2 L ([]) (0) (x1.toInt) q1.2 q1.1 (by omega) (by omega) (by omega) (by omega) (by omega) (by first | omega | (simp only [List.length_append, List.length_nil, List.length_cons, List.length_map, List.length_reverse, nw_len, dr_len]; omega)) (rp_0 hz9); have k1 := si_len (L := L) (a := 0) (b := x1.toInt) (by omega) (by omega) (by omega); rw [List.nil_append] at t1; have q2 := hp_60 L hL hN; have z2 := q2.2.1; have t2 := hb_60.2 L (_) (x1.toInt + x3.toInt) (x2.toInt + 1) q2.2 q2.1 (by omega) (by omega) (by omega) (by omega) (by omega) (by first | omega | (simp only [List.length_append, List.length_nil, List.length_cons, List.length_map, List.length_reverse, nw_len, dr_len]; omega)) t1; have k2 := si_len (L := L) (a := x1.toInt + x3.toInt) (b := x2.toInt + 1) (by omega) (by omega) (by omega); have q3 := hp_73 L hL hN; have z3 := q3.2.1; have t3 := hb_73.2 L (_) (x1.toInt) (x1.toInt + x3.toInt) q3.2 q3.1 (by omega) (by omega) (by omega) (by omega) (by omega) (by first | omega | (simp only [List.length_append, List.length_nil, List.length_cons, List.length_map, List.length_reverse, nw_len, dr_len]; omega)) t2; have k3 := si_len (L := L) (a := x1.toInt) (b := x1.toInt + x3.toInt) (by omega) (by omega) (by omega); have q4 := hp_90 L hL hN; have z4 := q4.2.1; have t4 := hb_90.2 L (_) (x2.toInt + 1) (L.length) q4.2 q4.1 (by omega) (by omega) (by omega) (by omega) (by omega) (by first | omega | (simp only [List.length_append, List.length_nil, List.length_cons, List.length_map, List.length_reverse, nw_len, dr_len]; omega)) t3; have k4 := si_len (L := L) (a := x2.toInt + 1) (b := L.length) (by omega) (by omega) (by omega); exact ⟨hb_97.2.1 _ t4, by show _ = _ + (1 : Int); omega, by show _ = _ + (1 : Int) * _; omega, by omega, fun _ => hb_97.2.2⟩); (first | (exact Or.inr hc_9) | (exact hc_9) | (exact Or.inl ⟨rfl, rfl, fun _ _ => ⟨rfl, rfl⟩⟩))⟩
      · skip
        refine hC.1 1 32 _ _ rfl _ _ _ _ _ ?_
        have km1 : (-1 : Int32).toInt = -1 := rfl
        exact ⟨rfl, fun e9 => absurd e9 (by decide), rfl, K, nn, dn, q, w, e, v, f, rfl, hI, hs, cw_X_r, rfl, (-1 : Int32), rfl, by first | omega | (dsimp only; omega) | trivial, by refine ⟨?_, ?_⟩; (intro L hL hN; have hl := hL.1; rw [ed_shift, if_neg (by omega)]; exact ⟨hL, by show _ = _ + (0 : Int); omega, by show _ = _ + (0 : Int) * _; omega, hN, fun h8 => h8⟩); (first | (exact Or.inr hc_9) | (exact hc_9) | (exact Or.inl ⟨rfl, rfl, fun _ _ => ⟨rfl, rfl⟩⟩))⟩
  · skip
    have k0 : (0 : Int32).toInt = 0 := rfl
    refine And.intro (fun _ => ?_) (fun c9 => absurd c9 (by decide))
    refine hC.1 1 32 _ _ rfl _ _ _ _ _ ?_
    have km1 : (-1 : Int32).toInt = -1 := rfl
    exact ⟨rfl, fun e9 => absurd e9 (by decide), rfl, K, nn, dn, q, w, e, v, f, rfl, hI, hs, cw_X_r, rfl, (-1 : Int32), rfl, by first | omega | (dsimp only; omega) | trivial, by refine ⟨?_, ?_⟩; (intro L hL hN; have hl := hL.1; rw [ed_shift, if_neg (by omega)]; exact ⟨hL, by show _ = _ + (0 : Int); omega, by show _ = _ + (0 : Int) * _; omega, hN, fun h8 => h8⟩); (first | (exact Or.inr hc_9) | (exact hc_9) | (exact Or.inl ⟨rfl, rfl, fun _ _ => ⟨rfl, rfl⟩⟩))⟩

set_option maxRecDepth 100000 in
set_option maxHeartbeats 2000000 in
theorem Z_X10_swapInOrder (hI : cw_I K nn dn q w e) (hs : cw_S v f) (x1 : Int32) (x2 : Int32) (x3 : Int32) (x4 : Int32) (p0 : (w 0).toInt < 100000) (p1 : 0 ≤ x1.toInt ∧ x1.toInt ≤ x2.toInt ∧ x2.toInt < x3.toInt ∧ x3.toInt ≤ x4.toInt ∧ x4.toInt < 160) : pm_Mt l g 35 4 4 485 [.ref (q 0), .int x1, .int x2, .int x3, .int x4] (cw A0 g K nn dn q w e v f) (cw_Qb A0 g K nn q (fun r K2 nn2 dn2 w2 e2 => e2 15 = e 15 ∧ (∃ x : Int32, r = some (.int x) ∧ (((w2 0).toInt ≤ (w 0).toInt + 1 ∧ (w 0).toInt ≤ (w2 0).toInt ∧ (w2 3).toInt = (w 3).toInt) ∧ ((∀ L, rp (w nn) (e (nn + 1)) (e (nn + 2)) L → (nn : Int) = 40 + 4 * ((w 0).toInt % 41) → x4.toInt < (L.length : Int) → rp (w2 nn2) (e2 (nn2 + 1)) (e2 (nn2 + 2)) (sw_l L x1.toInt x2.toInt x3.toInt x4.toInt) ∧ (w2 0).toInt = (w 0).toInt + 1 ∧ (w2 1).toInt = (w 1).toInt ∧ (nn2 : Int) = 40 + 4 * ((w2 0).toInt % 41) ∧ (bd (w nn) (e (nn + 1)) (e (nn + 3)) → bd (w2 nn2) (e2 (nn2 + 1)) (e2 (nn2 + 3)))) ∧ HCn K w e w2 e2 nn2 x))))) := by
  refine mt_X10_swapInOrder rfl (fun J hC => ?_)
  have ro_nn : cw_ro K nn := hI.2.1.2.1
  have ro_dn : cw_ro K dn := hI.2.1.2.2.1
  have hu1 := hI.2.1
  unfold cw_W at hu1
  replace hu1 := And.intro hu1.1 (And.intro (And.intro hu1.2.1.1 hu1.2.1.2.1) (And.intro (And.intro hu1.2.2.1.1 hu1.2.2.1.2.1) (And.intro hu1.2.2.2.1 (And.intro hu1.2.2.2.2.2.1 hu1.2.2.2.2.2.2))))
  have zs2 := cw_sz hI ro_nn
  have zs3 := cw_sz hI ro_dn
  have rg_x1 := pm_rng x1
  have rg_x2 := pm_rng x2
  have rg_x3 := pm_rng x3
  have rg_x4 := pm_rng x4
  refine hC.1 0 0 _ _ rfl _ _ _ _ _ ?_
  refine Exists.intro _ (And.intro (cw_o0 hI.1) ?_)
  refine And.intro (Exists.intro _ (cw_o1 hI.1)) (Exists.intro _ (Exists.intro _ (Exists.intro _ (Exists.intro _ (And.intro (F_X9_begin hI hs  (by omega)) (And.intro rfl (fun r9 A9 h9 => ?_)))))))
  obtain ⟨K5, dn5, q5, w5, e5, rfl, rfl, hI5, hX5, hk5, hw5, hy5, hdn5, hfm5, hz5⟩ := h9
  have hq5_0 : q 0 = q5 0 := (hX5.2.1 0 (by omega)).symm
  rw [hq5_0]
  have hw5_0 := congrArg Int32.toInt hw5.1
  have hw5_1 := congrArg Int32.toInt hw5.2.1
  have hw5_3 := congrArg Int32.toInt hw5.2.2.2
  have ro5 : cw_ro K5 dn5 := hI5.2.1.2.2.1
  have rn5 : cw_ro K5 nn := hI5.2.1.2.1
  have hx5 : e5 15 = e 15 := hy5.trans rfl
  have hu6 := hI5.2.1
  unfold cw_W at hu6
  replace hu6 := And.intro hu6.1 (And.intro (And.intro hu6.2.1.1 hu6.2.1.2.1) (And.intro (And.intro hu6.2.2.1.1 hu6.2.2.1.2.1) (And.intro hu6.2.2.2.1 (And.intro hu6.2.2.2.2.2.1 hu6.2.2.2.2.2.2))))
  have zs7 := cw_sz hI5 rn5
  have zs8 := cw_sz hI5 ro5
  have hz9 := hz5
  have hL5 : ∀ L, rp (w nn) (e (nn + 1)) (e (nn + 2)) L → (nn : Int) = 40 + 4 * ((w 0).toInt % 41) → nn ≠ dn5 ∧ rp (w5 nn) (e5 (nn + 1)) (e5 (nn + 2)) L := hL_b ro_nn ro5 hdn5 hfm5
  have hF5 : FRO K w e w5 e5 dn5 := hfm5
  refine Exists.intro _ (And.intro (cw_o0 hI5.1) ?_)
  have k0 : (0 : Int32).toInt = 0 := rfl
  have k1 : (1 : Int32).toInt = 1 := rfl
  intro m9 em_14
  try have e9 : m9.toInt = (x1).toInt - (1) := by rw [em_14]; exact pm_subc _ _ (1) rfl (by omega) (by omega)
  have hp_15 := hL5
  refine And.intro (Exists.intro _ (cw_o1 hI5.1)) (Exists.intro _ (Exists.intro _ (Exists.intro _ (Exists.intro _ (And.intro (F_X9_keep hI5 hs (0 : Int32) m9 ) (And.intro rfl (fun r9 A9 h9 => ?_)))))))
  rcases h9 with ⟨w11, e11, v11, f11, rfl, hI11, hs11, hy11, rfl, by10⟩
  have hx11 : e11 15 = e 15 := hy11.trans hx5
  have zs12 := cw_sz hI11 rn5
  have zs13 := cw_sz hI11 ro5
  have hb_15 := by10.2
  have hF11 : FRO K w e w11 e11 dn5 := FRO_s hF5 hb_15.1
  have hL11 : ∀ L, rp (w nn) (e (nn + 1)) (e (nn + 2)) L → (nn : Int) = 40 + 4 * ((w 0).toInt % 41) → nn ≠ dn5 ∧ rp (w11 nn) (e11 (nn + 1)) (e11 (nn + 2)) L := hL_k hL5 rn5 ro5 hb_15.1
  have sw11_0 : (w11 0).toInt = (w 0).toInt := by10.1.1.trans hw5_0
  have sw11_1 : (w11 1).toInt = (w 1).toInt := by10.1.2.1.trans hw5_1
  have sw11_3 : (w11 3).toInt = (w 3).toInt := by10.1.2.2.trans hw5_3
  clear by10
  refine Exists.intro _ (And.intro (cw_o0 hI11.1) ?_)
  have hp_25 := hL11
  refine And.intro (Exists.intro _ (cw_o1 hI11.1)) (Exists.intro _ (Exists.intro _ (Exists.intro _ (Exists.intro _ (And.intro (F_X9_keep hI11 hs11 x3 x4 ) (And.intro rfl (fun r9 A9 h9 => ?_)))))))
  rcases h9 with ⟨w15, e15, v15, f15, rfl, hI15, hs15, hy15, rfl, by14⟩
  have hx15 : e15 15 = e 15 := hy15.trans hx11
  clear zs12 zs13
  have zs16 := cw_sz hI15 rn5
  have zs17 := cw_sz hI15 ro5
  have hb_25 := by14.2
  have hF15 : FRO K w e w15 e15 dn5 := FRO_s hF11 hb_25.1
  have hL15 : ∀ L, rp (w nn) (e (nn + 1)) (e (nn + 2)) L → (nn : Int) = 40 + 4 * ((w 0).toInt % 41) → nn ≠ dn5 ∧ rp (w15 nn) (e15 (nn + 1)) (e15 (nn + 2)) L := hL_k hL11 rn5 ro5 hb_25.1
  have sw15_0 : (w15 0).toInt = (w 0).toInt := by14.1.1.trans sw11_0
  have sw15_1 : (w15 1).toInt = (w 1).toInt := by14.1.2.1.trans sw11_1
  have sw15_3 : (w15 3).toInt = (w 3).toInt := by14.1.2.2.trans sw11_3
  clear by14 sw11_0 sw11_1 sw11_3
  refine Exists.intro _ (And.intro (cw_o0 hI15.1) ?_)
  intro m18 em_34
  try have e18 : m18.toInt = (x2).toInt + (1) := by rw [em_34]; exact pm_addc _ _ (1) rfl (by omega) (by omega)
  intro m19 em_37
  try have e19 : m19.toInt = (x3).toInt - (1) := by rw [em_37]; exact pm_subc _ _ (1) rfl (by omega) (by omega)
  have hp_38 := hL15
  refine And.intro (Exists.intro _ (cw_o1 hI15.1)) (Exists.intro _ (Exists.intro _ (Exists.intro _ (Exists.intro _ (And.intro (F_X9_keep hI15 hs15 m18 m19 ) (And.intro rfl (fun r9 A9 h9 => ?_)))))))
  rcases h9 with ⟨w21, e21, v21, f21, rfl, hI21, hs21, hy21, rfl, by20⟩
  have hx21 : e21 15 = e 15 := hy21.trans hx15
  clear zs16 zs17
  have zs22 := cw_sz hI21 rn5
  have zs23 := cw_sz hI21 ro5
  have hb_38 := by20.2
  have hF21 : FRO K w e w21 e21 dn5 := FRO_s hF15 hb_38.1
  have hL21 : ∀ L, rp (w nn) (e (nn + 1)) (e (nn + 2)) L → (nn : Int) = 40 + 4 * ((w 0).toInt % 41) → nn ≠ dn5 ∧ rp (w21 nn) (e21 (nn + 1)) (e21 (nn + 2)) L := hL_k hL15 rn5 ro5 hb_38.1
  have sw21_0 : (w21 0).toInt = (w 0).toInt := by20.1.1.trans sw15_0
  have sw21_1 : (w21 1).toInt = (w 1).toInt := by20.1.2.1.trans sw15_1
  have sw21_3 : (w21 3).toInt = (w 3).toInt := by20.1.2.2.trans sw15_3
  clear by20 sw15_0 sw15_1 sw15_3
  refine Exists.intro _ (And.intro (cw_o0 hI21.1) ?_)
  have hp_47 := hL21
  refine And.intro (Exists.intro _ (cw_o1 hI21.1)) (Exists.intro _ (Exists.intro _ (Exists.intro _ (Exists.intro _ (And.intro (F_X9_keep hI21 hs21 x1 x2 ) (And.intro rfl (fun r9 A9 h9 => ?_)))))))
  rcases h9 with ⟨w25, e25, v25, f25, rfl, hI25, hs25, hy25, rfl, by24⟩
  have hx25 : e25 15 = e 15 := hy25.trans hx21
  clear zs22 zs23
  have zs26 := cw_sz hI25 rn5
  have zs27 := cw_sz hI25 ro5
  have hb_47 := by24.2
  have hF25 : FRO K w e w25 e25 dn5 := FRO_s hF21 hb_47.1
  have hL25 : ∀ L, rp (w nn) (e (nn + 1)) (e (nn + 2)) L → (nn : Int) = 40 + 4 * ((w 0).toInt % 41) → nn ≠ dn5 ∧ rp (w25 nn) (e25 (nn + 1)) (e25 (nn + 2)) L := hL_k hL21 rn5 ro5 hb_47.1
  have sw25_0 : (w25 0).toInt = (w 0).toInt := by24.1.1.trans sw21_0
  have sw25_1 : (w25 1).toInt = (w 1).toInt := by24.1.2.1.trans sw21_1
  have sw25_3 : (w25 3).toInt = (w 3).toInt := by24.1.2.2.trans sw21_3
  clear by24 sw21_0 sw21_1 sw21_3
  refine Exists.intro _ (And.intro (cw_o0 hI25.1) ?_)
  intro m28 em_57
  try have e28 : m28.toInt = (x4).toInt + (1) := by rw [em_57]; exact pm_addc _ _ (1) rfl (by omega) (by omega)
  refine Exists.intro _ (And.intro (cw_o0 hI25.1) ?_)
  refine Exists.intro _ (And.intro (cw_o1 hI25.1) ?_)
  refine Exists.intro _ (And.intro (cw_ro_o hI25.1 rn5) ?_)
  have z29 := cw_sz hI25 rn5
  intro m30 em_69
  try have e30 : m30.toInt = ((w25 nn)).toInt - (1) := by rw [em_69]; exact pm_subc _ _ (1) rfl (by omega) (by omega)
  have hp_70 := hL25
  refine And.intro (Exists.intro _ (cw_o1 hI25.1)) (Exists.intro _ (Exists.intro _ (Exists.intro _ (Exists.intro _ (And.intro (F_X9_keep hI25 hs25 m28 m30 ) (And.intro rfl (fun r9 A9 h9 => ?_)))))))
  rcases h9 with ⟨w32, e32, v32, f32, rfl, hI32, hs32, hy32, rfl, by31⟩
  have hx32 : e32 15 = e 15 := hy32.trans hx25
  clear zs26 zs27
  have zs33 := cw_sz hI32 rn5
  have zs34 := cw_sz hI32 ro5
  have hb_70 := by31.2
  have hF32 : FRO K w e w32 e32 dn5 := FRO_s hF25 hb_70.1
  have hL32 : ∀ L, rp (w nn) (e (nn + 1)) (e (nn + 2)) L → (nn : Int) = 40 + 4 * ((w 0).toInt % 41) → nn ≠ dn5 ∧ rp (w32 nn) (e32 (nn + 1)) (e32 (nn + 2)) L := hL_k hL25 rn5 ro5 hb_70.1
  have sw32_0 : (w32 0).toInt = (w 0).toInt := by31.1.1.trans sw25_0
  have sw32_1 : (w32 1).toInt = (w 1).toInt := by31.1.2.1.trans sw25_1
  have sw32_3 : (w32 3).toInt = (w 3).toInt := by31.1.2.2.trans sw25_3
  clear by31 sw25_0 sw25_1 sw25_3
  refine Exists.intro _ (And.intro (cw_o0 hI32.1) ?_)
  have hp_77 := hL32
  refine And.intro (Exists.intro _ (cw_o1 hI32.1)) (Exists.intro _ (Exists.intro _ (Exists.intro _ (Exists.intro _ (And.intro (Z_X9_finish hI32 hs32  (by omega) (by omega)) (And.intro rfl (fun r9 A9 h9 => ?_)))))))
  rcases h9 with ⟨w36, e36, v36, f36, rfl, hI36, hs36, hy36, y35, rfl, by35⟩
  have hx36 : e36 15 = e 15 := hy36.trans hx32
  have hu37 := hI36.2.1.2.2.2.1
  have hu38 := hI36.2.1.2.2.2.2.1
  clear zs33 zs34
  have zs39 := cw_sz hI36 ro5
  have zs40 := cw_sz hI36 ro5
  have hb_77 := by35.2.1
  have ht_77 := by35.2.2
  have hF36 : FRO K w e w36 e36 dn5 := FRO_s hF32 hb_77.1
  have hc_9 : HCn K w e w36 e36 dn5 y35 := ⟨by omega, hF36, ht_77⟩
  have sw36_1 : (w36 1).toInt = (w 1).toInt := by35.1.1.trans sw32_1
  have sw36_3 : (w36 3).toInt = (w 3).toInt := by35.1.2.1.trans sw32_3
  have sp36 := by35.1.2.2
  clear by35 sw32_1 sw32_3
  exact ⟨rfl, fun e9 => absurd e9 (by decide), rfl, K5, dn5, dn5, q5, w36, e36, v36, f36, rfl, hI36, hs36, hX5, hx36, y35, rfl, by first | omega | (dsimp only; omega) | trivial, by refine ⟨?_, ?_⟩; (intro L hL hN h4; have hl := hL.1; unfold sw_l; have q1 := hp_15 L hL hN; have z1 := q1.2.1; have t1 := hb_15.2 L ([]) (0) (x1.toInt) q1.2 q1.1 (by omega) (by omega) (by omega) (by omega) (by omega) (by first | omega | (simp only [List.length_append, List.length_nil, List.length_cons, List.length_map, List.length_reverse, nw_len, dr_len]; omega)) (rp_0 hz9); have k1 := si_len (L := L) (a := 0) (b := x1.toInt) (by omega) (by omega) (by omega); rw [List.nil_append] at t1; have q2 := hp_25 L hL hN; have z2 := q2.2.1; have t2 := hb_25.2 L (_) (x3.toInt) (x4.toInt + 1) q2.2 q2.1 (by omega) (by omega) (by omega) (by omega) (by omega) (by first | omega | (simp only [List.length_append, List.length_nil, List.length_cons, List.length_map, List.length_reverse, nw_len, dr_len]; omega)) t1; have k2 := si_len (L := L) (a := x3.toInt) (b := x4.toInt + 1) (by omega) (by omega) (by omega); have q3 := hp_38 L hL hN; have z3 := q3.2.1; have t3 := hb_38.2 L (_) (x2.toInt + 1) (x3.toInt) q3.2 q3.1 (by omega) (by omega) (by omega) (by omega) (by omega) (by first | omega | (simp only [List.length_append, List.length_nil, List.length_cons, List.length_map, List.length_reverse, nw_len, dr_len]; omega)) t2; have k3 := si_len (L := L) (a := x2.toInt + 1) (b := x3.toInt) (by omega) (by omega) (by omega); have q4 := hp_47 L hL hN; have z4 := q4.2.1; have t4 := hb_47.2 L (_) (x1.toInt) (x2.toInt + 1) q4.2 q4.1 (by omega) (by omega) (by omega) (by omega) (by omega) (by first | omega | (simp only [List.length_append, List.length_nil, List.length_cons, List.length_map, List.length_reverse, nw_len, dr_len]; omega)) t3; have k4 := si_len (L := L) (a := x1.toInt) (b := x2.toInt + 1) (by omega) (by omega) (by omega); have q5 := hp_70 L hL hN; have z5 := q5.2.1; have t5 := hb_70.2 L (_) (x4.toInt + 1) (L.length) q5.2 q5.1 (by omega) (by omega) (by omega) (by omega) (by omega) (by first | omega | (simp only [List.length_append, List.length_nil, List.length_cons, List.length_map, List.length_reverse, nw_len, dr_len]; omega)) t4; have k5 := si_len (L := L) (a := x4.toInt + 1) (b := L.length) (by omega) (by omega) (by omega); exact ⟨hb_77.2.1 _ t5, by omega, by omega, by omega, fun _ => hb_77.2.2⟩); (exact hc_9)⟩

set_option maxRecDepth 100000 in
set_option maxHeartbeats 2000000 in
theorem Z_X10_swap (hI : cw_I K nn dn q w e) (hs : cw_S v f) (x1 : Int32) (x2 : Int32) (x3 : Int32) (x4 : Int32) (p0 : (w 0).toInt < 100000) : pm_Mt l g 34 5 4 485 [.ref (q 0), .int x1, .int x2, .int x3, .int x4] (cw A0 g K nn dn q w e v f) (cw_Qb A0 g K nn q (fun r K2 nn2 dn2 w2 e2 => e2 15 = e 15 ∧ (∃ x : Int32, r = some (.int x) ∧ (((w2 0).toInt ≤ (w 0).toInt + 1 ∧ (w 0).toInt ≤ (w2 0).toInt ∧ (w2 3).toInt = (w 3).toInt) ∧ ((∀ L, rp (w nn) (e (nn + 1)) (e (nn + 2)) L → (nn : Int) = 40 + 4 * ((w 0).toInt % 41) → rp (w2 nn2) (e2 (nn2 + 1)) (e2 (nn2 + 2)) ((ed_swap L x1 x2 x3 x4).getD L) ∧ (w2 0).toInt = (w 0).toInt + edn (ed_swap L x1 x2 x3 x4) ∧ (w2 1).toInt = (w 1).toInt + edn (ed_swap L x1 x2 x3 x4) * (0) ∧ (nn2 : Int) = 40 + 4 * ((w2 0).toInt % 41) ∧ (bd (w nn) (e (nn + 1)) (e (nn + 3)) → bd (w2 nn2) (e2 (nn2 + 1)) (e2 (nn2 + 3)))) ∧ HCe K nn w e w2 e2 nn2 x))))) := by
  refine mt_X10_swap rfl (fun J hC => ?_)
  have ro_nn : cw_ro K nn := hI.2.1.2.1
  have ro_dn : cw_ro K dn := hI.2.1.2.2.1
  have hu1 := hI.2.1
  unfold cw_W at hu1
  replace hu1 := And.intro hu1.1 (And.intro (And.intro hu1.2.1.1 hu1.2.1.2.1) (And.intro (And.intro hu1.2.2.1.1 hu1.2.2.1.2.1) (And.intro hu1.2.2.2.1 (And.intro hu1.2.2.2.2.2.1 hu1.2.2.2.2.2.2))))
  have zs2 := cw_sz hI ro_nn
  have zs3 := cw_sz hI ro_dn
  have rg_x1 := pm_rng x1
  have rg_x2 := pm_rng x2
  have rg_x3 := pm_rng x3
  have rg_x4 := pm_rng x4
  refine hC.1 0 0 _ _ rfl _ _ _ _ _ ?_
  refine Exists.intro _ (And.intro (cw_o0 hI.1) ?_)
  refine Exists.intro _ (And.intro (cw_o1 hI.1) ?_)
  refine And.intro (Exists.intro _ (cw_ro_o hI.1 ro_nn)) (Exists.intro _ (Exists.intro _ (Exists.intro _ (Exists.intro _ (And.intro (c_X7_isSpan hI hs ro_nn x1 x2 ) (And.intro rfl (fun r9 A9 h9 => ?_)))))))
  rcases h9 with ⟨y4, rfl, rfl, ⟨rfl, by4⟩ | ⟨rfl, by4⟩⟩
  · skip
    have k1 : (1 : Int32).toInt = 1 := rfl
    refine And.intro (fun c9 => absurd c9 (by decide)) (fun _ => ?_)
    refine And.intro (Exists.intro _ (cw_ro_o hI.1 ro_nn)) (Exists.intro _ (Exists.intro _ (Exists.intro _ (Exists.intro _ (And.intro (c_X7_isSpan hI hs ro_nn x3 x4 ) (And.intro rfl (fun r9 A9 h9 => ?_)))))))
    rcases h9 with ⟨y6, rfl, rfl, ⟨rfl, by6⟩ | ⟨rfl, by6⟩⟩
    · skip
      refine And.intro (fun _ => ?_) (fun c9 => absurd c9 (by decide))
      refine hC.1 2 32 _ _ rfl _ _ _ _ _ ?_
      refine And.intro (fun c8 => ?_) (fun c8 => ?_)
      · skip
        refine hC.1 3 47 _ _ rfl _ _ _ _ _ ?_
        refine And.intro (fun c9 => ?_) (fun c9 => ?_)
        · skip
          refine hC.1 4 65 _ _ rfl _ _ _ _ _ ?_
          have km1 : (-1 : Int32).toInt = -1 := rfl
          refine hC.1 5 66 _ _ rfl _ _ _ _ _ ?_
          exact ⟨rfl, fun e9 => absurd e9 (by decide), rfl, K, nn, dn, q, w, e, v, f, rfl, hI, hs, cw_X_r, rfl, (-1 : Int32), rfl, by first | omega | (dsimp only; omega) | trivial, by refine ⟨?_, ?_⟩; (first | (intro L hL hN; have hl := hL.1; rw [ed_swap, if_pos (by omega), if_neg (by omega)]; have t1 := hb_59 L hL hN (by omega); exact ⟨t1.1, by show _ = _ + (1 : Int); omega, by show _ = _ + (1 : Int) * _; omega, t1.2.2.2.1, t1.2.2.2.2⟩) | (intro L hL hN; have hl := hL.1; rw [ed_swap, if_neg (by omega)]; exact ⟨hL, by show _ = _ + (0 : Int); omega, by show _ = _ + (0 : Int) * _; omega, hN, fun h8 => h8⟩)); (first | (exact Or.inr hc_9) | (exact hc_9) | (exact Or.inl ⟨rfl, rfl, fun _ _ => ⟨rfl, rfl⟩⟩))⟩
        · skip
          refine And.intro (Exists.intro _ (cw_o0 hI.1)) (Exists.intro _ (Exists.intro _ (Exists.intro _ (Exists.intro _ (And.intro (Z_X10_swapInOrder hI hs x3 x4 x1 x2 (by omega) (by omega)) (And.intro rfl (fun r9 A9 h9 => ?_)))))))
          obtain ⟨K11, nn11, dn11, q11, w11, e11, v11, f11, rfl, hI11, hs11, hX11, hy11, y10, rfl, by10⟩ := h9
          have hq11_0 : q 0 = q11 0 := (hX11.2.1 0 (by omega)).symm
          have hq11_nn : q nn = q11 nn := (hX11.2.1 nn (by omega)).symm
          rw [hq11_0, hq11_nn]
          have hx11 : e11 15 = e 15 := hy11.trans rfl
          have hu12 := hI11.2.1
          unfold cw_W at hu12
          replace hu12 := And.intro hu12.1 (And.intro (And.intro hu12.2.1.1 hu12.2.1.2.1) (And.intro (And.intro hu12.2.2.1.1 hu12.2.2.1.2.1) (And.intro hu12.2.2.2.1 (And.intro hu12.2.2.2.2.2.1 hu12.2.2.2.2.2.2))))
          have hb_59 := by10.2.1
          have ht_59 := by10.2.2
          have hc_9 := ht_59
          refine hC.1 5 66 _ _ rfl _ _ _ _ _ ?_
          exact ⟨rfl, fun e9 => absurd e9 (by decide), rfl, K11, nn11, dn11, q11, w11, e11, v11, f11, rfl, hI11, hs11, hX11, hx11, y10, rfl, by first | omega | (dsimp only; omega) | trivial, by refine ⟨?_, ?_⟩; (first | (intro L hL hN; have hl := hL.1; rw [ed_swap, if_pos (by omega), if_neg (by omega)]; have t1 := hb_59 L hL hN (by omega); exact ⟨t1.1, by show _ = _ + (1 : Int); omega, by show _ = _ + (1 : Int) * _; omega, t1.2.2.2.1, t1.2.2.2.2⟩) | (intro L hL hN; have hl := hL.1; rw [ed_swap, if_neg (by omega)]; exact ⟨hL, by show _ = _ + (0 : Int); omega, by show _ = _ + (0 : Int) * _; omega, hN, fun h8 => h8⟩)); (first | (exact Or.inr hc_9) | (exact hc_9) | (exact Or.inl ⟨rfl, rfl, fun _ _ => ⟨rfl, rfl⟩⟩))⟩
      · skip
        refine And.intro (Exists.intro _ (cw_o0 hI.1)) (Exists.intro _ (Exists.intro _ (Exists.intro _ (Exists.intro _ (And.intro (Z_X10_swapInOrder hI hs x1 x2 x3 x4 (by omega) (by omega)) (And.intro rfl (fun r9 A9 h9 => ?_)))))))
        obtain ⟨K14, nn14, dn14, q14, w14, e14, v14, f14, rfl, hI14, hs14, hX14, hy14, y13, rfl, by13⟩ := h9
        have hq14_0 : q 0 = q14 0 := (hX14.2.1 0 (by omega)).symm
        have hq14_nn : q nn = q14 nn := (hX14.2.1 nn (by omega)).symm
        rw [hq14_0, hq14_nn]
        have hx14 : e14 15 = e 15 := hy14.trans rfl
        have hu15 := hI14.2.1
        unfold cw_W at hu15
        replace hu15 := And.intro hu15.1 (And.intro (And.intro hu15.2.1.1 hu15.2.1.2.1) (And.intro (And.intro hu15.2.2.1.1 hu15.2.2.1.2.1) (And.intro hu15.2.2.2.1 (And.intro hu15.2.2.2.2.2.1 hu15.2.2.2.2.2.2))))
        have hb_43 := by13.2.1
        have ht_43 := by13.2.2
        have hc_9 := ht_43
        exact ⟨rfl, fun e9 => absurd e9 (by decide), rfl, K14, nn14, dn14, q14, w14, e14, v14, f14, rfl, hI14, hs14, hX14, hx14, y13, rfl, by first | omega | (dsimp only; omega) | trivial, by refine ⟨?_, ?_⟩; (intro L hL hN; have hl := hL.1; rw [ed_swap, if_pos (by omega), if_pos (by omega)]; have t1 := hb_43 L hL hN (by omega); exact ⟨t1.1, by show _ = _ + (1 : Int); omega, by show _ = _ + (1 : Int) * _; omega, t1.2.2.2.1, t1.2.2.2.2⟩); (first | (exact Or.inr hc_9) | (exact hc_9) | (exact Or.inl ⟨rfl, rfl, fun _ _ => ⟨rfl, rfl⟩⟩))⟩
    · skip
      have k0 : (0 : Int32).toInt = 0 := rfl
      refine And.intro (fun c9 => absurd c9 (by decide)) (fun _ => ?_)
      refine hC.1 1 30 _ _ rfl _ _ _ _ _ ?_
      have km1 : (-1 : Int32).toInt = -1 := rfl
      exact ⟨rfl, fun e9 => absurd e9 (by decide), rfl, K, nn, dn, q, w, e, v, f, rfl, hI, hs, cw_X_r, rfl, (-1 : Int32), rfl, by first | omega | (dsimp only; omega) | trivial, by refine ⟨?_, ?_⟩; (intro L hL hN; have hl := hL.1; rw [ed_swap, if_neg (by omega)]; exact ⟨hL, by show _ = _ + (0 : Int); omega, by show _ = _ + (0 : Int) * _; omega, hN, fun h8 => h8⟩); (first | (exact Or.inr hc_9) | (exact hc_9) | (exact Or.inl ⟨rfl, rfl, fun _ _ => ⟨rfl, rfl⟩⟩))⟩
  · skip
    have k0 : (0 : Int32).toInt = 0 := rfl
    refine And.intro (fun _ => ?_) (fun c9 => absurd c9 (by decide))
    refine hC.1 1 30 _ _ rfl _ _ _ _ _ ?_
    have km1 : (-1 : Int32).toInt = -1 := rfl
    exact ⟨rfl, fun e9 => absurd e9 (by decide), rfl, K, nn, dn, q, w, e, v, f, rfl, hI, hs, cw_X_r, rfl, (-1 : Int32), rfl, by first | omega | (dsimp only; omega) | trivial, by refine ⟨?_, ?_⟩; (intro L hL hN; have hl := hL.1; rw [ed_swap, if_neg (by omega)]; exact ⟨hL, by show _ = _ + (0 : Int); omega, by show _ = _ + (0 : Int) * _; omega, hN, fun h8 => h8⟩); (first | (exact Or.inr hc_9) | (exact hc_9) | (exact Or.inl ⟨rfl, rfl, fun _ _ => ⟨rfl, rfl⟩⟩))⟩

end
end
section
section
variable {l : Launch} {g : pm_G} {A0 : pm_H} {K nn dn : Nat} {q : Nat → Nat} {w : Nat → Int32} {e : Nat → Nat → Int32} {v : Nat → Int32} {f : Nat → Nat → Int32}
set_option maxRecDepth 100000 in
set_option maxHeartbeats 2000000 in
theorem Z_X10_paint (hI : cw_I K nn dn q w e) (hs : cw_S v f) (x1 : Int32) (x2 : Int32) (x3 : Int32) (p0 : (w 0).toInt < 100000) : pm_Mt l g 13 4 4 485 [.ref (q 0), .int x1, .int x2, .int x3] (cw A0 g K nn dn q w e v f) (cw_Qb A0 g K nn q (fun r K2 nn2 dn2 w2 e2 => e2 15 = e 15 ∧ (∃ x : Int32, r = some (.int x) ∧ (((w2 0).toInt ≤ (w 0).toInt + 1 ∧ (w 0).toInt ≤ (w2 0).toInt ∧ (w2 3).toInt = (w 3).toInt) ∧ ((∀ L, rp (w nn) (e (nn + 1)) (e (nn + 2)) L → (nn : Int) = 40 + 4 * ((w 0).toInt % 41) → rp (w2 nn2) (e2 (nn2 + 1)) (e2 (nn2 + 2)) ((ed_paint L x1 x2 x3).getD L) ∧ (w2 0).toInt = (w 0).toInt + edn (ed_paint L x1 x2 x3) ∧ (w2 1).toInt = (w 1).toInt + edn (ed_paint L x1 x2 x3) * (0) ∧ (nn2 : Int) = 40 + 4 * ((w2 0).toInt % 41) ∧ (bd (w nn) (e (nn + 1)) (e (nn + 3)) → bd (w2 nn2) (e2 (nn2 + 1)) (e2 (nn2 + 3)))) ∧ HCe K nn w e w2 e2 nn2 x))))) := by
  refine mt_X10_paint rfl (fun J hC => ?_)
  have ro_nn : cw_ro K nn := hI.2.1.2.1
  have ro_dn : cw_ro K dn := hI.2.1.2.2.1
  have hu1 := hI.2.1
  unfold cw_W at hu1
  replace hu1 := And.intro hu1.1 (And.intro (And.intro hu1.2.1.1 hu1.2.1.2.1) (And.intro (And.intro hu1.2.2.1.1 hu1.2.2.1.2.1) (And.intro hu1.2.2.2.1 (And.intro hu1.2.2.2.2.2.1 hu1.2.2.2.2.2.2))))
  have zs2 := cw_sz hI ro_nn
  have zs3 := cw_sz hI ro_dn
  have rg_x1 := pm_rng x1
  have rg_x2 := pm_rng x2
  have rg_x3 := pm_rng x3
  refine hC.1 0 0 _ _ rfl _ _ _ _ _ ?_
  refine Exists.intro _ (And.intro (cw_o0 hI.1) ?_)
  refine Exists.intro _ (And.intro (cw_o1 hI.1) ?_)
  refine And.intro (Exists.intro _ (cw_ro_o hI.1 ro_nn)) (Exists.intro _ (Exists.intro _ (Exists.intro _ (Exists.intro _ (And.intro (c_X7_isSpan hI hs ro_nn x1 x2 ) (And.intro rfl (fun r9 A9 h9 => ?_)))))))
  rcases h9 with ⟨y4, rfl, rfl, ⟨rfl, by4⟩ | ⟨rfl, by4⟩⟩
  · skip
    have k1 : (1 : Int32).toInt = 1 := rfl
    refine And.intro (fun c9 => absurd c9 (by decide)) (fun _ => ?_)
    refine Exists.intro _ (Exists.intro _ (Exists.intro _ (Exists.intro _ (And.intro (c_X10_isColour (cw A0 g K nn dn q w e v f) x3 ) (And.intro rfl (fun r9 A9 h9 => ?_))))))
    rcases h9 with ⟨y6, rfl, rfl, ⟨rfl, by6⟩ | ⟨rfl, by6⟩⟩
    · skip
      refine And.intro (fun _ => ?_) (fun c9 => absurd c9 (by decide))
      refine hC.1 2 28 _ _ rfl _ _ _ _ _ ?_
      refine Exists.intro _ (And.intro (cw_o0 hI.1) ?_)
      refine And.intro (Exists.intro _ (cw_o1 hI.1)) (Exists.intro _ (Exists.intro _ (Exists.intro _ (Exists.intro _ (And.intro (F_X9_begin hI hs  (by omega)) (And.intro rfl (fun r9 A9 h9 => ?_)))))))
      obtain ⟨K9, dn9, q9, w9, e9, rfl, rfl, hI9, hX9, hk9, hw9, hy9, hdn9, hfm9, hz9⟩ := h9
      have hq9_0 : q 0 = q9 0 := (hX9.2.1 0 (by omega)).symm
      have hq9_nn : q nn = q9 nn := (hX9.2.1 nn (by omega)).symm
      rw [hq9_0, hq9_nn]
      have hw9_0 := congrArg Int32.toInt hw9.1
      have hw9_1 := congrArg Int32.toInt hw9.2.1
      have hw9_3 := congrArg Int32.toInt hw9.2.2.2
      have ro9 : cw_ro K9 dn9 := hI9.2.1.2.2.1
      have rn9 : cw_ro K9 nn := hI9.2.1.2.1
      have hx9 : e9 15 = e 15 := hy9.trans rfl
      have hu10 := hI9.2.1
      unfold cw_W at hu10
      replace hu10 := And.intro hu10.1 (And.intro (And.intro hu10.2.1.1 hu10.2.1.2.1) (And.intro (And.intro hu10.2.2.1.1 hu10.2.2.1.2.1) (And.intro hu10.2.2.2.1 (And.intro hu10.2.2.2.2.2.1 hu10.2.2.2.2.2.2))))
      have zs11 := cw_sz hI9 rn9
      have zs12 := cw_sz hI9 ro9
      have hz9 := hz9
      have hL9 : ∀ L, rp (w nn) (e (nn + 1)) (e (nn + 2)) L → (nn : Int) = 40 + 4 * ((w 0).toInt % 41) → nn ≠ dn9 ∧ rp (w9 nn) (e9 (nn + 1)) (e9 (nn + 2)) L := hL_b ro_nn ro9 hdn9 hfm9
      have hF9 : FRO K w e w9 e9 dn9 := hfm9
      refine Exists.intro _ (And.intro (cw_o0 hI9.1) ?_)
      have k0 : (0 : Int32).toInt = 0 := rfl
      intro m13 em_42
      try have e13 : m13.toInt = (x1).toInt - (1) := by rw [em_42]; exact pm_subc _ _ (1) rfl (by omega) (by omega)
      have hp_43 := hL9
      refine And.intro (Exists.intro _ (cw_o1 hI9.1)) (Exists.intro _ (Exists.intro _ (Exists.intro _ (Exists.intro _ (And.intro (F_X9_keep hI9 hs (0 : Int32) m13 ) (And.intro rfl (fun r9 A9 h9 => ?_)))))))
      rcases h9 with ⟨w15, e15, v15, f15, rfl, hI15, hs15, hy15, rfl, by14⟩
      have hx15 : e15 15 = e 15 := hy15.trans hx9
      have zs16 := cw_sz hI15 rn9
      have zs17 := cw_sz hI15 ro9
      have hb_43 := by14.2
      have hF15 : FRO K w e w15 e15 dn9 := FRO_s hF9 hb_43.1
      have hL15 : ∀ L, rp (w nn) (e (nn + 1)) (e (nn + 2)) L → (nn : Int) = 40 + 4 * ((w 0).toInt % 41) → nn ≠ dn9 ∧ rp (w15 nn) (e15 (nn + 1)) (e15 (nn + 2)) L := hL_k hL9 rn9 ro9 hb_43.1
      have sw15_0 : (w15 0).toInt = (w 0).toInt := by14.1.1.trans hw9_0
      have sw15_1 : (w15 1).toInt = (w 1).toInt := by14.1.2.1.trans hw9_1
      have sw15_3 : (w15 3).toInt = (w 3).toInt := by14.1.2.2.trans hw9_3
      clear by14
      have lp19 : ∀ (n : Nat) (z5_49 : Int32) (w18 : Nat → Int32) (e18 : Nat → Nat → Int32) (v18 : Nat → Int32) (f18 : Nat → Nat → Int32), cw_I K9 nn dn9 q9 w18 e18 → e18 15 = e 15 → (∀ L, rp (w nn) (e (nn + 1)) (e (nn + 2)) L → (nn : Int) = 40 + 4 * ((w 0).toInt % 41) → nn ≠ dn9 ∧ rp (w18 nn) (e18 (nn + 1)) (e18 (nn + 2)) L) → FRO K w e w18 e18 dn9 → cw_S v18 f18 → (x1.toInt ≤ z5_49.toInt ∧ z5_49.toInt ≤ x2.toInt + 1) → (∀ L, rp (w nn) (e (nn + 1)) (e (nn + 2)) L → (nn : Int) = 40 + 4 * ((w 0).toInt % 41) → rp (w18 dn9) (e18 (dn9 + 1)) (e18 (dn9 + 2)) (si L 0 x1.toInt ++ (si L x1.toInt z5_49.toInt).map (fun p => (x3, p.2)))) → (w18 0).toInt = (w 0).toInt → (w18 1).toInt = (w 1).toInt → (w18 3).toInt = (w 3).toInt → 200 - z5_49.toInt < (n : Int) → J 49 [some (.ref (q9 0)), some (.int x1), some (.int x2), some (.int x3), some (.ref (q9 nn)), some (.int z5_49)] [] (cw A0 g K9 nn dn9 q9 w18 e18 v18 f18) 4 485 := by
        intro n
        induction n with
        | zero =>
          intro z5_49 w18 e18 v18 f18 hI18 hx18 hL18 hF18 hs18 j0_49 j1_49 j2_49 j3_49 j4_49 j5_49
          clear hu10 zs11 zs12 zs16 zs17 sw15_0 sw15_1 sw15_3
          omega
        | succ n ih20 =>
          intro z5_49 w18 e18 v18 f18 hI18 hx18 hL18 hF18 hs18 j0_49 j1_49 j2_49 j3_49 j4_49 j5_49
          clear hu10 zs11 zs12 zs16 zs17 sw15_0 sw15_1 sw15_3
          have hu21 := hI18.2.1
          unfold cw_W at hu21
          replace hu21 := And.intro hu21.1 (And.intro (And.intro hu21.2.1.1 hu21.2.1.2.1) (And.intro (And.intro hu21.2.2.1.1 hu21.2.2.1.2.1) (And.intro hu21.2.2.2.1 (And.intro hu21.2.2.2.2.2.1 hu21.2.2.2.2.2.2))))
          have zs22 := cw_sz hI18 rn9
          have zs23 := cw_sz hI18 ro9
          refine hC.1 3 49 _ _ rfl _ _ _ _ _ ?_
          refine And.intro (fun c24 => ?_) (fun c24 => ?_)
          · skip
            refine hC.1 4 71 _ _ rfl _ _ _ _ _ ?_
            refine Exists.intro _ (And.intro (cw_o0 hI18.1) ?_)
            intro m25 em_77
            try have e25 : m25.toInt = (x2).toInt + (1) := by rw [em_77]; exact pm_addc _ _ (1) rfl (by omega) (by omega)
            refine Exists.intro _ (And.intro (cw_ro_o hI18.1 rn9) ?_)
            have z26 := cw_sz hI18 rn9
            intro m27 em_84
            try have e27 : m27.toInt = ((w18 nn)).toInt - (1) := by rw [em_84]; exact pm_subc _ _ (1) rfl (by omega) (by omega)
            have hp_85 := hL18
            refine And.intro (Exists.intro _ (cw_o1 hI18.1)) (Exists.intro _ (Exists.intro _ (Exists.intro _ (Exists.intro _ (And.intro (F_X9_keep hI18 hs18 m25 m27 ) (And.intro rfl (fun r9 A9 h9 => ?_)))))))
            rcases h9 with ⟨w29, e29, v29, f29, rfl, hI29, hs29, hy29, rfl, by28⟩
            have hx29 : e29 15 = e 15 := hy29.trans hx18
            have zs30 := cw_sz hI29 rn9
            have zs31 := cw_sz hI29 ro9
            have hb_85 := by28.2
            have hF29 : FRO K w e w29 e29 dn9 := FRO_s hF18 hb_85.1
            have hL29 : ∀ L, rp (w nn) (e (nn + 1)) (e (nn + 2)) L → (nn : Int) = 40 + 4 * ((w 0).toInt % 41) → nn ≠ dn9 ∧ rp (w29 nn) (e29 (nn + 1)) (e29 (nn + 2)) L := hL_k hL18 rn9 ro9 hb_85.1
            have sw29_0 : (w29 0).toInt = (w18 0).toInt := by28.1.1
            have sw29_1 : (w29 1).toInt = (w18 1).toInt := by28.1.2.1
            have sw29_3 : (w29 3).toInt = (w18 3).toInt := by28.1.2.2
            clear by28
            refine Exists.intro _ (And.intro (cw_o0 hI29.1) ?_)
            have hp_92 := hL29
            refine And.intro (Exists.intro _ (cw_o1 hI29.1)) (Exists.intro _ (Exists.intro _ (Exists.intro _ (Exists.intro _ (And.intro (Z_X9_finish hI29 hs29  (by omega) (by omega)) (And.intro rfl (fun r9 A9 h9 => ?_)))))))
            rcases h9 with ⟨w33, e33, v33, f33, rfl, hI33, hs33, hy33, y32, rfl, by32⟩
            have hx33 : e33 15 = e 15 := hy33.trans hx29
            have hu34 := hI33.2.1.2.2.2.1
            have hu35 := hI33.2.1.2.2.2.2.1
            clear zs30 zs31
            have zs36 := cw_sz hI33 ro9
            have zs37 := cw_sz hI33 ro9
            have hb_92 := by32.2.1
            have ht_92 := by32.2.2
            have hF33 : FRO K w e w33 e33 dn9 := FRO_s hF29 hb_92.1
            have hc_9 : HCn K w e w33 e33 dn9 y32 := ⟨by omega, hF33, ht_92⟩
            have sw33_1 : (w33 1).toInt = (w18 1).toInt := by32.1.1.trans sw29_1
            have sw33_3 : (w33 3).toInt = (w18 3).toInt := by32.1.2.1.trans sw29_3
            have sp33 := by32.1.2.2
            clear by32 sw29_1 sw29_3
            exact ⟨rfl, fun e9 => absurd e9 (by decide), rfl, K9, dn9, dn9, q9, w33, e33, v33, f33, rfl, hI33, hs33, hX9, hx33, y32, rfl, by first | omega | (dsimp only; omega) | trivial, by refine ⟨?_, ?_⟩; (intro L hL hN; have hl := hL.1; rw [ed_paint, if_pos (by omega)]; have t2 := j1_49 L hL hN; rw [show z5_49.toInt = x2.toInt + 1 by omega] at t2; have s1 := si_len (L := L) (a := 0) (b := x1.toInt) (by omega) (by omega) (by omega); have s2 := si_len (L := L) (a := x1.toInt) (b := x2.toInt + 1) (by omega) (by omega) (by omega); have q3 := hp_85 L hL hN; have z3 := q3.2.1; have t3 := hb_85.2 L (_) (x2.toInt + 1) (L.length) q3.2 q3.1 (by omega) (by omega) (by omega) (by omega) (by omega) (by first | omega | (simp only [List.length_append, List.length_nil, List.length_cons, List.length_map, List.length_reverse, nw_len, dr_len]; omega)) t2; have k3 := si_len (L := L) (a := x2.toInt + 1) (b := L.length) (by omega) (by omega) (by omega); exact ⟨hb_92.2.1 _ t3, by show _ = _ + (1 : Int); omega, by show _ = _ + (1 : Int) * _; omega, by omega, fun _ => hb_92.2.2⟩); (first | (exact Or.inr hc_9) | (exact hc_9) | (exact Or.inl ⟨rfl, rfl, fun _ _ => ⟨rfl, rfl⟩⟩))⟩
          · skip
            refine Exists.intro _ (And.intro (cw_o0 hI18.1) ?_)
            have hp_62 := hL18
            refine And.intro (Exists.intro _ (cw_o1 hI18.1)) (Exists.intro _ (Exists.intro _ (Exists.intro _ (Exists.intro _ (And.intro (F_X9_keepAs hI18 hs18 z5_49 x3 (by omega)) (And.intro rfl (fun r9 A9 h9 => ?_)))))))
            rcases h9 with ⟨w39, e39, v39, f39, rfl, hI39, hs39, hy39, rfl, by38⟩
            have hx39 : e39 15 = e 15 := hy39.trans hx18
            have zs40 := cw_sz hI39 rn9
            have zs41 := cw_sz hI39 ro9
            have hb_62 := by38.2
            have hF39 : FRO K w e w39 e39 dn9 := FRO_s hF18 hb_62.1
            have hL39 : ∀ L, rp (w nn) (e (nn + 1)) (e (nn + 2)) L → (nn : Int) = 40 + 4 * ((w 0).toInt % 41) → nn ≠ dn9 ∧ rp (w39 nn) (e39 (nn + 1)) (e39 (nn + 2)) L := hL_k hL18 rn9 ro9 hb_62.1
            have sw39_0 : (w39 0).toInt = (w18 0).toInt := by38.1.1
            have sw39_1 : (w39 1).toInt = (w18 1).toInt := by38.1.2.1
            have sw39_3 : (w39 3).toInt = (w18 3).toInt := by38.1.2.2
            clear by38
            intro m42 em_65
            try have e42 : m42.toInt = (z5_49).toInt + (1) := by rw [em_65]; exact pm_addc _ _ (1) rfl (by omega) (by omega)
            exact ih20 m42 w39 e39 v39 f39 hI39 hx39 hL39 hF39 hs39 (by omega) (by intro L hL hN; have hl := hL.1; have q2 := hp_62 L hL hN; have z2 := q2.2.1; have s2 := si_len (L := L) (a := 0) (b := x1.toInt) (by omega) (by omega) (by omega); have s3 := si_len (L := L) (a := x1.toInt) (b := z5_49.toInt) (by omega) (by omega) (by omega); have t2 := hb_62.2 L _ q2.2 q2.1 (by omega) (by omega) (by first | omega | (simp only [List.length_append, List.length_nil, List.length_cons, List.length_map, List.length_reverse, nw_len, dr_len]; omega)) (j1_49 L hL hN); rw [show m42.toInt = z5_49.toInt + 1 by omega, si_s q2.2 (a := x1.toInt) (z := z5_49.toInt) (by omega) (by omega) (by omega), List.map_append, List.map_cons, List.map_nil, ← List.append_assoc]; exact t2) (by omega) (by omega) (by omega) (by omega)
      exact lp19 (200 - x1.toInt).toNat.succ x1 w15 e15 v15 f15 hI15 hx15 hL15 hF15 hs15 (by omega) (by intro L hL hN; have hl := hL.1; have q1 := hp_43 L hL hN; have z1 := q1.2.1; have t1 := hb_43.2 L ([]) (0) (x1.toInt) q1.2 q1.1 (by omega) (by omega) (by omega) (by omega) (by omega) (by first | omega | (simp only [List.length_append, List.length_nil, List.length_cons, List.length_map, List.length_reverse, nw_len, dr_len]; omega)) (rp_0 hz9); have k1 := si_len (L := L) (a := 0) (b := x1.toInt) (by omega) (by omega) (by omega); rw [List.nil_append] at t1; rw [si_n (L := L) (a := x1.toInt) (b := x1.toInt) (Int.le_refl _)]; show rp _ _ _ (_ ++ []); rw [List.append_nil]; exact t1) (by omega) (by omega) (by omega) (by omega)
    · skip
      have k0 : (0 : Int32).toInt = 0 := rfl
      refine And.intro (fun c9 => absurd c9 (by decide)) (fun _ => ?_)
      refine hC.1 1 26 _ _ rfl _ _ _ _ _ ?_
      have km1 : (-1 : Int32).toInt = -1 := rfl
      exact ⟨rfl, fun e9 => absurd e9 (by decide), rfl, K, nn, dn, q, w, e, v, f, rfl, hI, hs, cw_X_r, rfl, (-1 : Int32), rfl, by first | omega | (dsimp only; omega) | trivial, by refine ⟨?_, ?_⟩; (intro L hL hN; have hl := hL.1; rw [ed_paint, if_neg (by omega)]; exact ⟨hL, by show _ = _ + (0 : Int); omega, by show _ = _ + (0 : Int) * _; omega, hN, fun h8 => h8⟩); (first | (exact Or.inr hc_9) | (exact hc_9) | (exact Or.inl ⟨rfl, rfl, fun _ _ => ⟨rfl, rfl⟩⟩))⟩
  · skip
    have k0 : (0 : Int32).toInt = 0 := rfl
    refine And.intro (fun _ => ?_) (fun c9 => absurd c9 (by decide))
    refine hC.1 1 26 _ _ rfl _ _ _ _ _ ?_
    have km1 : (-1 : Int32).toInt = -1 := rfl
    exact ⟨rfl, fun e9 => absurd e9 (by decide), rfl, K, nn, dn, q, w, e, v, f, rfl, hI, hs, cw_X_r, rfl, (-1 : Int32), rfl, by first | omega | (dsimp only; omega) | trivial, by refine ⟨?_, ?_⟩; (intro L hL hN; have hl := hL.1; rw [ed_paint, if_neg (by omega)]; exact ⟨hL, by show _ = _ + (0 : Int); omega, by show _ = _ + (0 : Int) * _; omega, hN, fun h8 => h8⟩); (first | (exact Or.inr hc_9) | (exact hc_9) | (exact Or.inl ⟨rfl, rfl, fun _ _ => ⟨rfl, rfl⟩⟩))⟩

set_option maxRecDepth 100000 in
set_option maxHeartbeats 2000000 in
theorem Z_X10_put (hI : cw_I K nn dn q w e) (hs : cw_S v f) (x1 : Int32) (x2 : Int32) (p0 : (w 0).toInt < 100000) : pm_Mt l g 12 5 4 485 [.ref (q 0), .int x1, .int x2] (cw A0 g K nn dn q w e v f) (cw_Qb A0 g K nn q (fun r K2 nn2 dn2 w2 e2 => e2 15 = e 15 ∧ (∃ x : Int32, r = some (.int x) ∧ (((w2 0).toInt ≤ (w 0).toInt + 1 ∧ (w 0).toInt ≤ (w2 0).toInt ∧ (w2 3).toInt = (w 3).toInt) ∧ ((∀ L, rp (w nn) (e (nn + 1)) (e (nn + 2)) L → (nn : Int) = 40 + 4 * ((w 0).toInt % 41) → rp (w2 nn2) (e2 (nn2 + 1)) (e2 (nn2 + 2)) ((ed_paint L x1 x1 x2).getD L) ∧ (w2 0).toInt = (w 0).toInt + edn (ed_paint L x1 x1 x2) ∧ (w2 1).toInt = (w 1).toInt + edn (ed_paint L x1 x1 x2) * (0) ∧ (nn2 : Int) = 40 + 4 * ((w2 0).toInt % 41) ∧ (bd (w nn) (e (nn + 1)) (e (nn + 3)) → bd (w2 nn2) (e2 (nn2 + 1)) (e2 (nn2 + 3)))) ∧ HCe K nn w e w2 e2 nn2 x))))) := by
  refine mt_X10_put rfl (fun J hC => ?_)
  have ro_nn : cw_ro K nn := hI.2.1.2.1
  have ro_dn : cw_ro K dn := hI.2.1.2.2.1
  have hu1 := hI.2.1
  unfold cw_W at hu1
  replace hu1 := And.intro hu1.1 (And.intro (And.intro hu1.2.1.1 hu1.2.1.2.1) (And.intro (And.intro hu1.2.2.1.1 hu1.2.2.1.2.1) (And.intro hu1.2.2.2.1 (And.intro hu1.2.2.2.2.2.1 hu1.2.2.2.2.2.2))))
  have zs2 := cw_sz hI ro_nn
  have zs3 := cw_sz hI ro_dn
  have rg_x1 := pm_rng x1
  have rg_x2 := pm_rng x2
  refine hC.1 0 0 _ _ rfl _ _ _ _ _ ?_
  refine And.intro (Exists.intro _ (cw_o0 hI.1)) (Exists.intro _ (Exists.intro _ (Exists.intro _ (Exists.intro _ (And.intro (Z_X10_paint hI hs x1 x1 x2 (by omega)) (And.intro rfl (fun r9 A9 h9 => ?_)))))))
  obtain ⟨K5, nn5, dn5, q5, w5, e5, v5, f5, rfl, hI5, hs5, hX5, hy5, y4, rfl, by4⟩ := h9
  have hq5_0 : q 0 = q5 0 := (hX5.2.1 0 (by omega)).symm
  rw [hq5_0]
  have hx5 : e5 15 = e 15 := hy5.trans rfl
  have hu6 := hI5.2.1
  unfold cw_W at hu6
  replace hu6 := And.intro hu6.1 (And.intro (And.intro hu6.2.1.1 hu6.2.1.2.1) (And.intro (And.intro hu6.2.2.1.1 hu6.2.2.1.2.1) (And.intro hu6.2.2.2.1 (And.intro hu6.2.2.2.2.2.1 hu6.2.2.2.2.2.2))))
  have hb_4 := by4.2.1
  have ht_4 := by4.2.2
  have hc_9 := ht_4
  exact ⟨rfl, fun e9 => absurd e9 (by decide), rfl, K5, nn5, dn5, q5, w5, e5, v5, f5, rfl, hI5, hs5, hX5, hx5, y4, rfl, by first | omega | (dsimp only; omega) | trivial, by refine ⟨?_, ?_⟩; (exact hb_4); (first | (exact Or.inr hc_9) | (exact hc_9) | (exact Or.inl ⟨rfl, rfl, fun _ _ => ⟨rfl, rfl⟩⟩))⟩

set_option maxRecDepth 100000 in
set_option maxHeartbeats 2000000 in
theorem Z_X10_turn (hI : cw_I K nn dn q w e) (hs : cw_S v f) (x1 : Int32) (x2 : Int32) (p0 : (w 0).toInt < 100000) : pm_Mt l g 30 4 4 485 [.ref (q 0), .int x1, .int x2] (cw A0 g K nn dn q w e v f) (cw_Qb A0 g K nn q (fun r K2 nn2 dn2 w2 e2 => e2 15 = e 15 ∧ (∃ x : Int32, r = some (.int x) ∧ (((w2 0).toInt ≤ (w 0).toInt + 1 ∧ (w 0).toInt ≤ (w2 0).toInt ∧ (w2 3).toInt = (w 3).toInt) ∧ ((∀ L, rp (w nn) (e (nn + 1)) (e (nn + 2)) L → (nn : Int) = 40 + 4 * ((w 0).toInt % 41) → rp (w2 nn2) (e2 (nn2 + 1)) (e2 (nn2 + 2)) ((ed_turn L x1 x2).getD L) ∧ (w2 0).toInt = (w 0).toInt + edn (ed_turn L x1 x2) ∧ (w2 1).toInt = (w 1).toInt + edn (ed_turn L x1 x2) * (0) ∧ (nn2 : Int) = 40 + 4 * ((w2 0).toInt % 41) ∧ (bd (w nn) (e (nn + 1)) (e (nn + 3)) → bd (w2 nn2) (e2 (nn2 + 1)) (e2 (nn2 + 3)))) ∧ HCe K nn w e w2 e2 nn2 x))))) := by
  refine mt_X10_turn rfl (fun J hC => ?_)
  have ro_nn : cw_ro K nn := hI.2.1.2.1
  have ro_dn : cw_ro K dn := hI.2.1.2.2.1
  have hu1 := hI.2.1
  unfold cw_W at hu1
  replace hu1 := And.intro hu1.1 (And.intro (And.intro hu1.2.1.1 hu1.2.1.2.1) (And.intro (And.intro hu1.2.2.1.1 hu1.2.2.1.2.1) (And.intro hu1.2.2.2.1 (And.intro hu1.2.2.2.2.2.1 hu1.2.2.2.2.2.2))))
  have zs2 := cw_sz hI ro_nn
  have zs3 := cw_sz hI ro_dn
  have rg_x1 := pm_rng x1
  have rg_x2 := pm_rng x2
  refine hC.1 0 0 _ _ rfl _ _ _ _ _ ?_
  refine Exists.intro _ (And.intro (cw_o0 hI.1) ?_)
  refine Exists.intro _ (And.intro (cw_o1 hI.1) ?_)
  refine And.intro (Exists.intro _ (cw_ro_o hI.1 ro_nn)) (Exists.intro _ (Exists.intro _ (Exists.intro _ (Exists.intro _ (And.intro (c_X7_isSpan hI hs ro_nn x1 x2 ) (And.intro rfl (fun r9 A9 h9 => ?_)))))))
  rcases h9 with ⟨y4, rfl, rfl, ⟨rfl, by4⟩ | ⟨rfl, by4⟩⟩
  · skip
    have k1 : (1 : Int32).toInt = 1 := rfl
    refine And.intro (fun _ => ?_) (fun c9 => absurd c9 (by decide))
    refine hC.1 1 19 _ _ rfl _ _ _ _ _ ?_
    refine Exists.intro _ (And.intro (cw_o0 hI.1) ?_)
    refine And.intro (Exists.intro _ (cw_o1 hI.1)) (Exists.intro _ (Exists.intro _ (Exists.intro _ (Exists.intro _ (And.intro (F_X9_begin hI hs  (by omega)) (And.intro rfl (fun r9 A9 h9 => ?_)))))))
    obtain ⟨K7, dn7, q7, w7, e7, rfl, rfl, hI7, hX7, hk7, hw7, hy7, hdn7, hfm7, hz7⟩ := h9
    have hq7_0 : q 0 = q7 0 := (hX7.2.1 0 (by omega)).symm
    have hq7_nn : q nn = q7 nn := (hX7.2.1 nn (by omega)).symm
    rw [hq7_0, hq7_nn]
    have hw7_0 := congrArg Int32.toInt hw7.1
    have hw7_1 := congrArg Int32.toInt hw7.2.1
    have hw7_3 := congrArg Int32.toInt hw7.2.2.2
    have ro7 : cw_ro K7 dn7 := hI7.2.1.2.2.1
    have rn7 : cw_ro K7 nn := hI7.2.1.2.1
    have hx7 : e7 15 = e 15 := hy7.trans rfl
    have hu8 := hI7.2.1
    unfold cw_W at hu8
    replace hu8 := And.intro hu8.1 (And.intro (And.intro hu8.2.1.1 hu8.2.1.2.1) (And.intro (And.intro hu8.2.2.1.1 hu8.2.2.1.2.1) (And.intro hu8.2.2.2.1 (And.intro hu8.2.2.2.2.2.1 hu8.2.2.2.2.2.2))))
    have zs9 := cw_sz hI7 rn7
    have zs10 := cw_sz hI7 ro7
    have hz9 := hz7
    have hL7 : ∀ L, rp (w nn) (e (nn + 1)) (e (nn + 2)) L → (nn : Int) = 40 + 4 * ((w 0).toInt % 41) → nn ≠ dn7 ∧ rp (w7 nn) (e7 (nn + 1)) (e7 (nn + 2)) L := hL_b ro_nn ro7 hdn7 hfm7
    have hF7 : FRO K w e w7 e7 dn7 := hfm7
    refine Exists.intro _ (And.intro (cw_o0 hI7.1) ?_)
    have k0 : (0 : Int32).toInt = 0 := rfl
    intro m11 em_33
    try have e11 : m11.toInt = (x1).toInt - (1) := by rw [em_33]; exact pm_subc _ _ (1) rfl (by omega) (by omega)
    have hp_34 := hL7
    refine And.intro (Exists.intro _ (cw_o1 hI7.1)) (Exists.intro _ (Exists.intro _ (Exists.intro _ (Exists.intro _ (And.intro (F_X9_keep hI7 hs (0 : Int32) m11 ) (And.intro rfl (fun r9 A9 h9 => ?_)))))))
    rcases h9 with ⟨w13, e13, v13, f13, rfl, hI13, hs13, hy13, rfl, by12⟩
    have hx13 : e13 15 = e 15 := hy13.trans hx7
    have zs14 := cw_sz hI13 rn7
    have zs15 := cw_sz hI13 ro7
    have hb_34 := by12.2
    have hF13 : FRO K w e w13 e13 dn7 := FRO_s hF7 hb_34.1
    have hL13 : ∀ L, rp (w nn) (e (nn + 1)) (e (nn + 2)) L → (nn : Int) = 40 + 4 * ((w 0).toInt % 41) → nn ≠ dn7 ∧ rp (w13 nn) (e13 (nn + 1)) (e13 (nn + 2)) L := hL_k hL7 rn7 ro7 hb_34.1
    have sw13_0 : (w13 0).toInt = (w 0).toInt := by12.1.1.trans hw7_0
    have sw13_1 : (w13 1).toInt = (w 1).toInt := by12.1.2.1.trans hw7_1
    have sw13_3 : (w13 3).toInt = (w 3).toInt := by12.1.2.2.trans hw7_3
    clear by12
    have lp17 : ∀ (n : Nat) (z4_40 : Int32) (w16 : Nat → Int32) (e16 : Nat → Nat → Int32) (v16 : Nat → Int32) (f16 : Nat → Nat → Int32), cw_I K7 nn dn7 q7 w16 e16 → e16 15 = e 15 → (∀ L, rp (w nn) (e (nn + 1)) (e (nn + 2)) L → (nn : Int) = 40 + 4 * ((w 0).toInt % 41) → nn ≠ dn7 ∧ rp (w16 nn) (e16 (nn + 1)) (e16 (nn + 2)) L) → FRO K w e w16 e16 dn7 → cw_S v16 f16 → (x1.toInt - 1 ≤ z4_40.toInt ∧ z4_40.toInt ≤ x2.toInt) → (∀ L, rp (w nn) (e (nn + 1)) (e (nn + 2)) L → (nn : Int) = 40 + 4 * ((w 0).toInt % 41) → rp (w16 dn7) (e16 (dn7 + 1)) (e16 (dn7 + 2)) (si L 0 x1.toInt ++ (si L (z4_40.toInt + 1) (x2.toInt + 1)).reverse)) → (w16 0).toInt = (w 0).toInt → (w16 1).toInt = (w 1).toInt → (w16 3).toInt = (w 3).toInt → z4_40.toInt + 1 < (n : Int) → J 40 [some (.ref (q7 0)), some (.int x1), some (.int x2), some (.ref (q7 nn)), some (.int z4_40)] [] (cw A0 g K7 nn dn7 q7 w16 e16 v16 f16) 4 485 := by
      intro n
      induction n with
      | zero =>
        intro z4_40 w16 e16 v16 f16 hI16 hx16 hL16 hF16 hs16 j0_40 j1_40 j2_40 j3_40 j4_40 j5_40
        clear hu8 zs9 zs10 zs14 zs15 sw13_0 sw13_1 sw13_3
        omega
      | succ n ih18 =>
        intro z4_40 w16 e16 v16 f16 hI16 hx16 hL16 hF16 hs16 j0_40 j1_40 j2_40 j3_40 j4_40 j5_40
        clear hu8 zs9 zs10 zs14 zs15 sw13_0 sw13_1 sw13_3
        have hu19 := hI16.2.1
        unfold cw_W at hu19
        replace hu19 := And.intro hu19.1 (And.intro (And.intro hu19.2.1.1 hu19.2.1.2.1) (And.intro (And.intro hu19.2.2.1.1 hu19.2.2.1.2.1) (And.intro hu19.2.2.2.1 (And.intro hu19.2.2.2.2.2.1 hu19.2.2.2.2.2.2))))
        have zs20 := cw_sz hI16 rn7
        have zs21 := cw_sz hI16 ro7
        refine hC.1 2 40 _ _ rfl _ _ _ _ _ ?_
        refine And.intro (fun c22 => ?_) (fun c22 => ?_)
        · skip
          refine hC.1 3 63 _ _ rfl _ _ _ _ _ ?_
          refine Exists.intro _ (And.intro (cw_o0 hI16.1) ?_)
          intro m23 em_69
          try have e23 : m23.toInt = (x2).toInt + (1) := by rw [em_69]; exact pm_addc _ _ (1) rfl (by omega) (by omega)
          refine Exists.intro _ (And.intro (cw_ro_o hI16.1 rn7) ?_)
          have z24 := cw_sz hI16 rn7
          intro m25 em_75
          try have e25 : m25.toInt = ((w16 nn)).toInt - (1) := by rw [em_75]; exact pm_subc _ _ (1) rfl (by omega) (by omega)
          have hp_76 := hL16
          refine And.intro (Exists.intro _ (cw_o1 hI16.1)) (Exists.intro _ (Exists.intro _ (Exists.intro _ (Exists.intro _ (And.intro (F_X9_keep hI16 hs16 m23 m25 ) (And.intro rfl (fun r9 A9 h9 => ?_)))))))
          rcases h9 with ⟨w27, e27, v27, f27, rfl, hI27, hs27, hy27, rfl, by26⟩
          have hx27 : e27 15 = e 15 := hy27.trans hx16
          have zs28 := cw_sz hI27 rn7
          have zs29 := cw_sz hI27 ro7
          have hb_76 := by26.2
          have hF27 : FRO K w e w27 e27 dn7 := FRO_s hF16 hb_76.1
          have hL27 : ∀ L, rp (w nn) (e (nn + 1)) (e (nn + 2)) L → (nn : Int) = 40 + 4 * ((w 0).toInt % 41) → nn ≠ dn7 ∧ rp (w27 nn) (e27 (nn + 1)) (e27 (nn + 2)) L := hL_k hL16 rn7 ro7 hb_76.1
          have sw27_0 : (w27 0).toInt = (w16 0).toInt := by26.1.1
          have sw27_1 : (w27 1).toInt = (w16 1).toInt := by26.1.2.1
          have sw27_3 : (w27 3).toInt = (w16 3).toInt := by26.1.2.2
          clear by26
          refine Exists.intro _ (And.intro (cw_o0 hI27.1) ?_)
          have hp_83 := hL27
          refine And.intro (Exists.intro _ (cw_o1 hI27.1)) (Exists.intro _ (Exists.intro _ (Exists.intro _ (Exists.intro _ (And.intro (Z_X9_finish hI27 hs27  (by omega) (by omega)) (And.intro rfl (fun r9 A9 h9 => ?_)))))))
          rcases h9 with ⟨w31, e31, v31, f31, rfl, hI31, hs31, hy31, y30, rfl, by30⟩
          have hx31 : e31 15 = e 15 := hy31.trans hx27
          have hu32 := hI31.2.1.2.2.2.1
          have hu33 := hI31.2.1.2.2.2.2.1
          clear zs28 zs29
          have zs34 := cw_sz hI31 ro7
          have zs35 := cw_sz hI31 ro7
          have hb_83 := by30.2.1
          have ht_83 := by30.2.2
          have hF31 : FRO K w e w31 e31 dn7 := FRO_s hF27 hb_83.1
          have hc_9 : HCn K w e w31 e31 dn7 y30 := ⟨by omega, hF31, ht_83⟩
          have sw31_1 : (w31 1).toInt = (w16 1).toInt := by30.1.1.trans sw27_1
          have sw31_3 : (w31 3).toInt = (w16 3).toInt := by30.1.2.1.trans sw27_3
          have sp31 := by30.1.2.2
          clear by30 sw27_1 sw27_3
          exact ⟨rfl, fun e9 => absurd e9 (by decide), rfl, K7, dn7, dn7, q7, w31, e31, v31, f31, rfl, hI31, hs31, hX7, hx31, y30, rfl, by first | omega | (dsimp only; omega) | trivial, by refine ⟨?_, ?_⟩; (intro L hL hN; have hl := hL.1; rw [ed_turn, if_pos (by omega)]; have t2 := j1_40 L hL hN; rw [show z4_40.toInt + 1 = x1.toInt by omega] at t2; have s1 := si_len (L := L) (a := 0) (b := x1.toInt) (by omega) (by omega) (by omega); have s2 := si_len (L := L) (a := x1.toInt) (b := x2.toInt + 1) (by omega) (by omega) (by omega); have q3 := hp_76 L hL hN; have z3 := q3.2.1; have t3 := hb_76.2 L (_) (x2.toInt + 1) (L.length) q3.2 q3.1 (by omega) (by omega) (by omega) (by omega) (by omega) (by first | omega | (simp only [List.length_append, List.length_nil, List.length_cons, List.length_map, List.length_reverse, nw_len, dr_len]; omega)) t2; have k3 := si_len (L := L) (a := x2.toInt + 1) (b := L.length) (by omega) (by omega) (by omega); exact ⟨hb_83.2.1 _ t3, by show _ = _ + (1 : Int); omega, by show _ = _ + (1 : Int) * _; omega, by omega, fun _ => hb_83.2.2⟩); (first | (exact Or.inr hc_9) | (exact hc_9) | (exact Or.inl ⟨rfl, rfl, fun _ _ => ⟨rfl, rfl⟩⟩))⟩
        · skip
          refine Exists.intro _ (And.intro (cw_o0 hI16.1) ?_)
          have hp_54 := hL16
          refine And.intro (Exists.intro _ (cw_o1 hI16.1)) (Exists.intro _ (Exists.intro _ (Exists.intro _ (Exists.intro _ (And.intro (F_X9_keep hI16 hs16 z4_40 z4_40 ) (And.intro rfl (fun r9 A9 h9 => ?_)))))))
          rcases h9 with ⟨w37, e37, v37, f37, rfl, hI37, hs37, hy37, rfl, by36⟩
          have hx37 : e37 15 = e 15 := hy37.trans hx16
          have zs38 := cw_sz hI37 rn7
          have zs39 := cw_sz hI37 ro7
          have hb_54 := by36.2
          have hF37 : FRO K w e w37 e37 dn7 := FRO_s hF16 hb_54.1
          have hL37 : ∀ L, rp (w nn) (e (nn + 1)) (e (nn + 2)) L → (nn : Int) = 40 + 4 * ((w 0).toInt % 41) → nn ≠ dn7 ∧ rp (w37 nn) (e37 (nn + 1)) (e37 (nn + 2)) L := hL_k hL16 rn7 ro7 hb_54.1
          have sw37_0 : (w37 0).toInt = (w16 0).toInt := by36.1.1
          have sw37_1 : (w37 1).toInt = (w16 1).toInt := by36.1.2.1
          have sw37_3 : (w37 3).toInt = (w16 3).toInt := by36.1.2.2
          clear by36
          have km1 : (-1 : Int32).toInt = -1 := rfl
          intro m40 em_57
          try have e40 : m40.toInt = (z4_40).toInt + (-1) := by rw [em_57]; exact pm_addc _ _ (-1) rfl (by omega) (by omega)
          exact ih18 m40 w37 e37 v37 f37 hI37 hx37 hL37 hF37 hs37 (by omega) (by intro L hL hN; have hl := hL.1; have q2 := hp_54 L hL hN; have z2 := q2.2.1; have s2 := si_len (L := L) (a := 0) (b := x1.toInt) (by omega) (by omega) (by omega); have s3 := si_len (L := L) (a := z4_40.toInt + 1) (b := x2.toInt + 1) (by omega) (by omega) (by omega); have t2 := hb_54.2 L _ z4_40.toInt (z4_40.toInt + 1) q2.2 q2.1 rfl rfl (by omega) (by omega) (by omega) (by first | omega | (simp only [List.length_append, List.length_nil, List.length_cons, List.length_map, List.length_reverse, nw_len, dr_len]; omega)) (j1_40 L hL hN); rw [show m40.toInt + 1 = z4_40.toInt by omega, si_app (L := L) (a := z4_40.toInt) (m := z4_40.toInt + 1) (b := x2.toInt + 1) (by omega) (by omega) (by omega), List.reverse_append, si_r1 q2.2 (by omega) (by omega), ← List.append_assoc]; exact t2) (by omega) (by omega) (by omega) (by omega)
    exact lp17 (x2.toInt + 1).toNat.succ x2 w13 e13 v13 f13 hI13 hx13 hL13 hF13 hs13 (by omega) (by intro L hL hN; have hl := hL.1; have q1 := hp_34 L hL hN; have z1 := q1.2.1; have t1 := hb_34.2 L ([]) (0) (x1.toInt) q1.2 q1.1 (by omega) (by omega) (by omega) (by omega) (by omega) (by first | omega | (simp only [List.length_append, List.length_nil, List.length_cons, List.length_map, List.length_reverse, nw_len, dr_len]; omega)) (rp_0 hz9); have k1 := si_len (L := L) (a := 0) (b := x1.toInt) (by omega) (by omega) (by omega); rw [List.nil_append] at t1; rw [si_n (L := L) (a := x2.toInt + 1) (b := x2.toInt + 1) (Int.le_refl _)]; show rp _ _ _ (_ ++ []); rw [List.append_nil]; exact t1) (by omega) (by omega) (by omega) (by omega)
  · skip
    have k0 : (0 : Int32).toInt = 0 := rfl
    refine And.intro (fun c9 => absurd c9 (by decide)) (fun _ => ?_)
    have km1 : (-1 : Int32).toInt = -1 := rfl
    exact ⟨rfl, fun e9 => absurd e9 (by decide), rfl, K, nn, dn, q, w, e, v, f, rfl, hI, hs, cw_X_r, rfl, (-1 : Int32), rfl, by first | omega | (dsimp only; omega) | trivial, by refine ⟨?_, ?_⟩; (intro L hL hN; have hl := hL.1; rw [ed_turn, if_neg (by omega)]; exact ⟨hL, by show _ = _ + (0 : Int); omega, by show _ = _ + (0 : Int) * _; omega, hN, fun h8 => h8⟩); (first | (exact Or.inr hc_9) | (exact hc_9) | (exact Or.inl ⟨rfl, rfl, fun _ _ => ⟨rfl, rfl⟩⟩))⟩

end
end
section
section
variable {l : Launch} {g : pm_G} {A0 : pm_H} {K nn dn : Nat} {q : Nat → Nat} {w : Nat → Int32} {e : Nat → Nat → Int32} {v : Nat → Int32} {f : Nat → Nat → Int32}
set_option maxRecDepth 100000 in
set_option maxHeartbeats 2000000 in
theorem Z_X10_copy (hI : cw_I K nn dn q w e) (hs : cw_S v f) (x1 : Int32) (x2 : Int32) (x3 : Int32) (p0 : (w 0).toInt < 100000) : pm_Mt l g 36 4 4 485 [.ref (q 0), .int x1, .int x2, .int x3] (cw A0 g K nn dn q w e v f) (cw_Qb A0 g K nn q (fun r K2 nn2 dn2 w2 e2 => e2 15 = e 15 ∧ (∃ x : Int32, r = some (.int x) ∧ (((w2 0).toInt ≤ (w 0).toInt + 1 ∧ (w 0).toInt ≤ (w2 0).toInt ∧ (w2 3).toInt = (w 3).toInt) ∧ ((∀ L, rp (w nn) (e (nn + 1)) (e (nn + 2)) L → (nn : Int) = 40 + 4 * ((w 0).toInt % 41) → rp (w2 nn2) (e2 (nn2 + 1)) (e2 (nn2 + 2)) ((ed_copy L (w 1) x1 x2 x3).getD L) ∧ (w2 0).toInt = (w 0).toInt + edn (ed_copy L (w 1) x1 x2 x3) ∧ (w2 1).toInt = (w 1).toInt + edn (ed_copy L (w 1) x1 x2 x3) * (x2.toInt - x1.toInt + 1) ∧ (nn2 : Int) = 40 + 4 * ((w2 0).toInt % 41) ∧ (bd (w nn) (e (nn + 1)) (e (nn + 3)) → bd (w2 nn2) (e2 (nn2 + 1)) (e2 (nn2 + 3)))) ∧ HCe K nn w e w2 e2 nn2 x))))) := by
  refine mt_X10_copy rfl (fun J hC => ?_)
  have ro_nn : cw_ro K nn := hI.2.1.2.1
  have ro_dn : cw_ro K dn := hI.2.1.2.2.1
  have hu1 := hI.2.1
  unfold cw_W at hu1
  replace hu1 := And.intro hu1.1 (And.intro (And.intro hu1.2.1.1 hu1.2.1.2.1) (And.intro (And.intro hu1.2.2.1.1 hu1.2.2.1.2.1) (And.intro hu1.2.2.2.1 (And.intro hu1.2.2.2.2.2.1 hu1.2.2.2.2.2.2))))
  have zs2 := cw_sz hI ro_nn
  have zs3 := cw_sz hI ro_dn
  have rg_x1 := pm_rng x1
  have rg_x2 := pm_rng x2
  have rg_x3 := pm_rng x3
  refine hC.1 0 0 _ _ rfl _ _ _ _ _ ?_
  refine Exists.intro _ (And.intro (cw_o0 hI.1) ?_)
  refine Exists.intro _ (And.intro (cw_o1 hI.1) ?_)
  refine And.intro (Exists.intro _ (cw_ro_o hI.1 ro_nn)) (Exists.intro _ (Exists.intro _ (Exists.intro _ (Exists.intro _ (And.intro (c_X7_isSpan hI hs ro_nn x1 x2 ) (And.intro rfl (fun r9 A9 h9 => ?_)))))))
  rcases h9 with ⟨y4, rfl, rfl, ⟨rfl, by4⟩ | ⟨rfl, by4⟩⟩
  · skip
    have k1 : (1 : Int32).toInt = 1 := rfl
    refine And.intro (fun c9 => absurd c9 (by decide)) (fun _ => ?_)
    refine And.intro (Exists.intro _ (cw_ro_o hI.1 ro_nn)) (Exists.intro _ (Exists.intro _ (Exists.intro _ (Exists.intro _ (And.intro (c_X7_isGap hI hs ro_nn x3 ) (And.intro rfl (fun r9 A9 h9 => ?_)))))))
    rcases h9 with ⟨y6, rfl, rfl, ⟨rfl, by6⟩ | ⟨rfl, by6⟩⟩
    · skip
      refine And.intro (fun c9 => absurd c9 (by decide)) (fun _ => ?_)
      refine Exists.intro _ (And.intro (cw_o0 hI.1) ?_)
      intro m8 em_34
      try have e8 : m8.toInt = (x2).toInt - (x1).toInt := by rw [em_34]; exact pm_sub _ _ (by omega) (by omega)
      intro m9 em_36
      try have e9 : m9.toInt = (m8).toInt + (1) := by rw [em_36]; exact pm_addc _ _ (1) rfl (by omega) (by omega)
      refine And.intro (Exists.intro _ (cw_o1 hI.1)) (Exists.intro _ (Exists.intro _ (Exists.intro _ (Exists.intro _ (And.intro (c_X9_hasRoomFor hI hs m9 (by omega)) (And.intro rfl (fun r9 A9 h9 => ?_)))))))
      rcases h9 with ⟨y10, rfl, rfl, ⟨rfl, by10⟩ | ⟨rfl, by10⟩⟩
      · skip
        refine And.intro (fun _ => ?_) (fun c9 => absurd c9 (by decide))
        refine hC.1 2 45 _ _ rfl _ _ _ _ _ ?_
        refine Exists.intro _ (And.intro (cw_o0 hI.1) ?_)
        refine And.intro (Exists.intro _ (cw_o1 hI.1)) (Exists.intro _ (Exists.intro _ (Exists.intro _ (Exists.intro _ (And.intro (F_X9_begin hI hs  (by omega)) (And.intro rfl (fun r9 A9 h9 => ?_)))))))
        obtain ⟨K13, dn13, q13, w13, e13, rfl, rfl, hI13, hX13, hk13, hw13, hy13, hdn13, hfm13, hz13⟩ := h9
        have hq13_0 : q 0 = q13 0 := (hX13.2.1 0 (by omega)).symm
        have hq13_nn : q nn = q13 nn := (hX13.2.1 nn (by omega)).symm
        rw [hq13_0, hq13_nn]
        have hw13_0 := congrArg Int32.toInt hw13.1
        have hw13_1 := congrArg Int32.toInt hw13.2.1
        have hw13_3 := congrArg Int32.toInt hw13.2.2.2
        have ro13 : cw_ro K13 dn13 := hI13.2.1.2.2.1
        have rn13 : cw_ro K13 nn := hI13.2.1.2.1
        have hx13 : e13 15 = e 15 := hy13.trans rfl
        have hu14 := hI13.2.1
        unfold cw_W at hu14
        replace hu14 := And.intro hu14.1 (And.intro (And.intro hu14.2.1.1 hu14.2.1.2.1) (And.intro (And.intro hu14.2.2.1.1 hu14.2.2.1.2.1) (And.intro hu14.2.2.2.1 (And.intro hu14.2.2.2.2.2.1 hu14.2.2.2.2.2.2))))
        have zs15 := cw_sz hI13 rn13
        have zs16 := cw_sz hI13 ro13
        have hz9 := hz13
        have hL13 : ∀ L, rp (w nn) (e (nn + 1)) (e (nn + 2)) L → (nn : Int) = 40 + 4 * ((w 0).toInt % 41) → nn ≠ dn13 ∧ rp (w13 nn) (e13 (nn + 1)) (e13 (nn + 2)) L := hL_b ro_nn ro13 hdn13 hfm13
        have hF13 : FRO K w e w13 e13 dn13 := hfm13
        refine Exists.intro _ (And.intro (cw_o0 hI13.1) ?_)
        have k0 : (0 : Int32).toInt = 0 := rfl
        intro m17 em_59
        try have e17 : m17.toInt = (x3).toInt - (1) := by rw [em_59]; exact pm_subc _ _ (1) rfl (by omega) (by omega)
        have hp_60 := hL13
        refine And.intro (Exists.intro _ (cw_o1 hI13.1)) (Exists.intro _ (Exists.intro _ (Exists.intro _ (Exists.intro _ (And.intro (F_X9_keep hI13 hs (0 : Int32) m17 ) (And.intro rfl (fun r9 A9 h9 => ?_)))))))
        rcases h9 with ⟨w19, e19, v19, f19, rfl, hI19, hs19, hy19, rfl, by18⟩
        have hx19 : e19 15 = e 15 := hy19.trans hx13
        have zs20 := cw_sz hI19 rn13
        have zs21 := cw_sz hI19 ro13
        have hb_60 := by18.2
        have hF19 : FRO K w e w19 e19 dn13 := FRO_s hF13 hb_60.1
        have hL19 : ∀ L, rp (w nn) (e (nn + 1)) (e (nn + 2)) L → (nn : Int) = 40 + 4 * ((w 0).toInt % 41) → nn ≠ dn13 ∧ rp (w19 nn) (e19 (nn + 1)) (e19 (nn + 2)) L := hL_k hL13 rn13 ro13 hb_60.1
        have sw19_0 : (w19 0).toInt = (w 0).toInt := by18.1.1.trans hw13_0
        have sw19_1 : (w19 1).toInt = (w 1).toInt := by18.1.2.1.trans hw13_1
        have sw19_3 : (w19 3).toInt = (w 3).toInt := by18.1.2.2.trans hw13_3
        clear by18
        have lp23 : ∀ (n : Nat) (z5_66 : Int32) (w22 : Nat → Int32) (e22 : Nat → Nat → Int32) (v22 : Nat → Int32) (f22 : Nat → Nat → Int32), cw_I K13 nn dn13 q13 w22 e22 → e22 15 = e 15 → (∀ L, rp (w nn) (e (nn + 1)) (e (nn + 2)) L → (nn : Int) = 40 + 4 * ((w 0).toInt % 41) → nn ≠ dn13 ∧ rp (w22 nn) (e22 (nn + 1)) (e22 (nn + 2)) L) → FRO K w e w22 e22 dn13 → cw_S v22 f22 → (x1.toInt ≤ z5_66.toInt ∧ z5_66.toInt ≤ x2.toInt + 1) → ((w22 1).toInt = (w 1).toInt + (z5_66.toInt - x1.toInt)) → (∀ L, rp (w nn) (e (nn + 1)) (e (nn + 2)) L → (nn : Int) = 40 + 4 * ((w 0).toInt % 41) → rp (w22 dn13) (e22 (dn13 + 1)) (e22 (dn13 + 2)) (si L 0 x3.toInt ++ nw_l (w 1) ((si L x1.toInt z5_66.toInt).map Prod.fst))) → (w22 0).toInt = (w 0).toInt → (w22 3).toInt = (w 3).toInt → 200 - z5_66.toInt < (n : Int) → J 66 [some (.ref (q13 0)), some (.int x1), some (.int x2), some (.int x3), some (.ref (q13 nn)), some (.int z5_66)] [] (cw A0 g K13 nn dn13 q13 w22 e22 v22 f22) 4 485 := by
          intro n
          induction n with
          | zero =>
            intro z5_66 w22 e22 v22 f22 hI22 hx22 hL22 hF22 hs22 j0_66 j1_66 j2_66 j3_66 j4_66 j5_66
            clear hu14 zs15 zs16 zs20 zs21 sw19_0 sw19_1 sw19_3
            omega
          | succ n ih24 =>
            intro z5_66 w22 e22 v22 f22 hI22 hx22 hL22 hF22 hs22 j0_66 j1_66 j2_66 j3_66 j4_66 j5_66
            clear hu14 zs15 zs16 zs20 zs21 sw19_0 sw19_1 sw19_3
            obtain ⟨g66, eg66⟩ : ∃ z9, z9 = w22 1 := ⟨_, rfl⟩
            have hu25 := hI22.2.1
            unfold cw_W at hu25
            replace hu25 := And.intro hu25.1 (And.intro (And.intro hu25.2.1.1 hu25.2.1.2.1) (And.intro (And.intro hu25.2.2.1.1 hu25.2.2.1.2.1) (And.intro hu25.2.2.2.1 (And.intro hu25.2.2.2.2.2.1 hu25.2.2.2.2.2.2))))
            have zs26 := cw_sz hI22 rn13
            have zs27 := cw_sz hI22 ro13
            refine hC.1 3 66 _ _ rfl _ _ _ _ _ ?_
            refine And.intro (fun c28 => ?_) (fun c28 => ?_)
            · skip
              refine hC.1 4 93 _ _ rfl _ _ _ _ _ ?_
              refine Exists.intro _ (And.intro (cw_o0 hI22.1) ?_)
              refine Exists.intro _ (And.intro (cw_ro_o hI22.1 rn13) ?_)
              have z29 := cw_sz hI22 rn13
              intro m30 em_104
              try have e30 : m30.toInt = ((w22 nn)).toInt - (1) := by rw [em_104]; exact pm_subc _ _ (1) rfl (by omega) (by omega)
              have hp_105 := hL22
              refine And.intro (Exists.intro _ (cw_o1 hI22.1)) (Exists.intro _ (Exists.intro _ (Exists.intro _ (Exists.intro _ (And.intro (F_X9_keep hI22 hs22 x3 m30 ) (And.intro rfl (fun r9 A9 h9 => ?_)))))))
              rcases h9 with ⟨w32, e32, v32, f32, rfl, hI32, hs32, hy32, rfl, by31⟩
              have hx32 : e32 15 = e 15 := hy32.trans hx22
              have zs33 := cw_sz hI32 rn13
              have zs34 := cw_sz hI32 ro13
              have hb_105 := by31.2
              have hF32 : FRO K w e w32 e32 dn13 := FRO_s hF22 hb_105.1
              have hL32 : ∀ L, rp (w nn) (e (nn + 1)) (e (nn + 2)) L → (nn : Int) = 40 + 4 * ((w 0).toInt % 41) → nn ≠ dn13 ∧ rp (w32 nn) (e32 (nn + 1)) (e32 (nn + 2)) L := hL_k hL22 rn13 ro13 hb_105.1
              have sw32_0 : (w32 0).toInt = (w22 0).toInt := by31.1.1
              have sw32_1 : (w32 1).toInt = (w22 1).toInt := by31.1.2.1
              have sw32_3 : (w32 3).toInt = (w22 3).toInt := by31.1.2.2
              clear by31
              refine Exists.intro _ (And.intro (cw_o0 hI32.1) ?_)
              have hp_112 := hL32
              refine And.intro (Exists.intro _ (cw_o1 hI32.1)) (Exists.intro _ (Exists.intro _ (Exists.intro _ (Exists.intro _ (And.intro (Z_X9_finish hI32 hs32  (by omega) (by omega)) (And.intro rfl (fun r9 A9 h9 => ?_)))))))
              rcases h9 with ⟨w36, e36, v36, f36, rfl, hI36, hs36, hy36, y35, rfl, by35⟩
              have hx36 : e36 15 = e 15 := hy36.trans hx32
              have hu37 := hI36.2.1.2.2.2.1
              have hu38 := hI36.2.1.2.2.2.2.1
              clear zs33 zs34
              have zs39 := cw_sz hI36 ro13
              have zs40 := cw_sz hI36 ro13
              have hb_112 := by35.2.1
              have ht_112 := by35.2.2
              have hF36 : FRO K w e w36 e36 dn13 := FRO_s hF32 hb_112.1
              have hc_9 : HCn K w e w36 e36 dn13 y35 := ⟨by omega, hF36, ht_112⟩
              have sw36_1 : (w36 1).toInt = (w22 1).toInt := by35.1.1.trans sw32_1
              have sw36_3 : (w36 3).toInt = (w22 3).toInt := by35.1.2.1.trans sw32_3
              have sp36 := by35.1.2.2
              clear by35 sw32_1 sw32_3
              exact ⟨rfl, fun e9 => absurd e9 (by decide), rfl, K13, dn13, dn13, q13, w36, e36, v36, f36, rfl, hI36, hs36, hX13, hx36, y35, rfl, by first | omega | (dsimp only; omega) | trivial, by refine ⟨?_, ?_⟩; (intro L hL hN; have hl := hL.1; rw [ed_copy, if_pos (by omega)]; have t2 := j2_66 L hL hN; rw [show z5_66.toInt = x2.toInt + 1 by omega] at t2; have s1 := si_len (L := L) (a := 0) (b := x3.toInt) (by omega) (by omega) (by omega); have s2 := si_len (L := L) (a := x1.toInt) (b := x2.toInt + 1) (by omega) (by omega) (by omega); have q3 := hp_105 L hL hN; have z3 := q3.2.1; have t3 := hb_105.2 L (_) (x3.toInt) (L.length) q3.2 q3.1 (by omega) (by omega) (by omega) (by omega) (by omega) (by first | omega | (simp only [List.length_append, List.length_nil, List.length_cons, List.length_map, List.length_reverse, nw_len, dr_len]; omega)) t2; have k3 := si_len (L := L) (a := x3.toInt) (b := L.length) (by omega) (by omega) (by omega); exact ⟨hb_112.2.1 _ t3, by show _ = _ + (1 : Int); omega, by show _ = _ + (1 : Int) * _; omega, by omega, fun _ => hb_112.2.2⟩); (first | (exact Or.inr hc_9) | (exact hc_9) | (exact Or.inl ⟨rfl, rfl, fun _ _ => ⟨rfl, rfl⟩⟩))⟩
            · skip
              refine Exists.intro _ (And.intro (cw_o0 hI22.1) ?_)
              refine Exists.intro _ (And.intro (cw_ro_o hI22.1 rn13) ?_)
              refine Exists.intro _ (Exists.intro _ (And.intro (Or.inl (cw_ro_1 hI22.1 rn13)) (And.intro (by omega) ?_)))
              have w41 := cw_col hI22 rn13 (z5_66).toInt.toNat
              have hp_84 := hL22
              refine And.intro (Exists.intro _ (cw_o1 hI22.1)) (Exists.intro _ (Exists.intro _ (Exists.intro _ (Exists.intro _ (And.intro (F_X9_add hI22 hs22 (e22 (nn + 1) (z5_66).toInt.toNat) (by omega) (by omega)) (And.intro rfl (fun r9 A9 h9 => ?_)))))))
              rcases h9 with ⟨w43, e43, v43, f43, rfl, hI43, hs43, hy43, rfl, by42⟩
              have hx43 : e43 15 = e 15 := hy43.trans hx22
              have hu44 := hI43.2.1.2.2.2.2.2.1
              have zs45 := cw_sz hI43 rn13
              have zs46 := cw_sz hI43 ro13
              have hb_84 := by42.2
              have hF43 : FRO K w e w43 e43 dn13 := FRO_s hF22 hb_84.1
              have hL43 : ∀ L, rp (w nn) (e (nn + 1)) (e (nn + 2)) L → (nn : Int) = 40 + 4 * ((w 0).toInt % 41) → nn ≠ dn13 ∧ rp (w43 nn) (e43 (nn + 1)) (e43 (nn + 2)) L := hL_k hL22 rn13 ro13 hb_84.1
              have sw43_0 : (w43 0).toInt = (w22 0).toInt := by42.1.1
              have sw43_3 : (w43 3).toInt = (w22 3).toInt := by42.1.2.1
              have sp43 := by42.1.2.2
              clear by42
              intro m47 em_87
              try have e47 : m47.toInt = (z5_66).toInt + (1) := by rw [em_87]; exact pm_addc _ _ (1) rfl (by omega) (by omega)
              exact ih24 m47 w43 e43 v43 f43 hI43 hx43 hL43 hF43 hs43 (by omega) (by omega) (by intro L hL hN; have hl := hL.1; have q2 := hp_84 L hL hN; have z2 := q2.2.1; have s2 := si_len (L := L) (a := 0) (b := x3.toInt) (by omega) (by omega) (by omega); have s3 := si_len (L := L) (a := x1.toInt) (b := z5_66.toInt) (by omega) (by omega) (by omega); have t2 := hb_84.2 _ (j2_66 L hL hN) (by first | omega | (simp only [List.length_append, List.length_nil, List.length_cons, List.length_map, List.length_reverse, nw_len, dr_len]; omega)); rw [← eg66] at t2; rw [show m47.toInt = z5_66.toInt + 1 by omega, si_s q2.2 (a := x1.toInt) (z := z5_66.toInt) (by omega) (by omega) (by omega), List.map_append, List.map_cons, List.map_nil, nw_app (g2 := g66) (by rw [eg66, List.length_map]; omega) (by rw [List.length_map]; omega), ← List.append_assoc]; exact t2) (by omega) (by omega) (by omega)
        exact lp23 (200 - x1.toInt).toNat.succ x1 w19 e19 v19 f19 hI19 hx19 hL19 hF19 hs19 (by omega) (by omega) (by intro L hL hN; have hl := hL.1; have q1 := hp_60 L hL hN; have z1 := q1.2.1; have t1 := hb_60.2 L ([]) (0) (x3.toInt) q1.2 q1.1 (by omega) (by omega) (by omega) (by omega) (by omega) (by first | omega | (simp only [List.length_append, List.length_nil, List.length_cons, List.length_map, List.length_reverse, nw_len, dr_len]; omega)) (rp_0 hz9); have k1 := si_len (L := L) (a := 0) (b := x3.toInt) (by omega) (by omega) (by omega); rw [List.nil_append] at t1; rw [si_n (L := L) (a := x1.toInt) (b := x1.toInt) (Int.le_refl _)]; show rp _ _ _ (_ ++ []); rw [List.append_nil]; exact t1) (by omega) (by omega) (by omega)
      · skip
        have k0 : (0 : Int32).toInt = 0 := rfl
        refine And.intro (fun c9 => absurd c9 (by decide)) (fun _ => ?_)
        refine hC.1 1 43 _ _ rfl _ _ _ _ _ ?_
        have km1 : (-1 : Int32).toInt = -1 := rfl
        exact ⟨rfl, fun e9 => absurd e9 (by decide), rfl, K, nn, dn, q, w, e, v, f, rfl, hI, hs, cw_X_r, rfl, (-1 : Int32), rfl, by first | omega | (dsimp only; omega) | trivial, by refine ⟨?_, ?_⟩; (intro L hL hN; have hl := hL.1; rw [ed_copy, if_neg (by omega)]; exact ⟨hL, by show _ = _ + (0 : Int); omega, by show _ = _ + (0 : Int) * _; omega, hN, fun h8 => h8⟩); (first | (exact Or.inr hc_9) | (exact hc_9) | (exact Or.inl ⟨rfl, rfl, fun _ _ => ⟨rfl, rfl⟩⟩))⟩
    · skip
      have k0 : (0 : Int32).toInt = 0 := rfl
      refine And.intro (fun _ => ?_) (fun c9 => absurd c9 (by decide))
      refine hC.1 1 43 _ _ rfl _ _ _ _ _ ?_
      have km1 : (-1 : Int32).toInt = -1 := rfl
      exact ⟨rfl, fun e9 => absurd e9 (by decide), rfl, K, nn, dn, q, w, e, v, f, rfl, hI, hs, cw_X_r, rfl, (-1 : Int32), rfl, by first | omega | (dsimp only; omega) | trivial, by refine ⟨?_, ?_⟩; (intro L hL hN; have hl := hL.1; rw [ed_copy, if_neg (by omega)]; exact ⟨hL, by show _ = _ + (0 : Int); omega, by show _ = _ + (0 : Int) * _; omega, hN, fun h8 => h8⟩); (first | (exact Or.inr hc_9) | (exact hc_9) | (exact Or.inl ⟨rfl, rfl, fun _ _ => ⟨rfl, rfl⟩⟩))⟩
  · skip
    have k0 : (0 : Int32).toInt = 0 := rfl
    refine And.intro (fun _ => ?_) (fun c9 => absurd c9 (by decide))
    refine hC.1 1 43 _ _ rfl _ _ _ _ _ ?_
    have km1 : (-1 : Int32).toInt = -1 := rfl
    exact ⟨rfl, fun e9 => absurd e9 (by decide), rfl, K, nn, dn, q, w, e, v, f, rfl, hI, hs, cw_X_r, rfl, (-1 : Int32), rfl, by first | omega | (dsimp only; omega) | trivial, by refine ⟨?_, ?_⟩; (intro L hL hN; have hl := hL.1; rw [ed_copy, if_neg (by omega)]; exact ⟨hL, by show _ = _ + (0 : Int); omega, by show _ = _ + (0 : Int) * _; omega, hN, fun h8 => h8⟩); (first | (exact Or.inr hc_9) | (exact hc_9) | (exact Or.inl ⟨rfl, rfl, fun _ _ => ⟨rfl, rfl⟩⟩))⟩

set_option maxRecDepth 100000 in
set_option maxHeartbeats 2000000 in
theorem Z_X10_merge (hI : cw_I K nn dn q w e) (hs : cw_S v f) (x1 : Int32) (x2 : Int32) (p0 : (w 0).toInt < 100000) : pm_Mt l g 37 4 4 485 [.ref (q 0), .int x1, .int x2] (cw A0 g K nn dn q w e v f) (cw_Qb A0 g K nn q (fun r K2 nn2 dn2 w2 e2 => e2 15 = e 15 ∧ (∃ x : Int32, r = some (.int x) ∧ (((w2 0).toInt ≤ (w 0).toInt + 1 ∧ (w 0).toInt ≤ (w2 0).toInt ∧ (w2 3).toInt = (w 3).toInt) ∧ ((∀ L, rp (w nn) (e (nn + 1)) (e (nn + 2)) L → (nn : Int) = 40 + 4 * ((w 0).toInt % 41) → rp (w2 nn2) (e2 (nn2 + 1)) (e2 (nn2 + 2)) ((ed_merge L x1 x2).getD L) ∧ (w2 0).toInt = (w 0).toInt + edn (ed_merge L x1 x2) ∧ (w2 1).toInt = (w 1).toInt + edn (ed_merge L x1 x2) * (0) ∧ (nn2 : Int) = 40 + 4 * ((w2 0).toInt % 41) ∧ (bd (w nn) (e (nn + 1)) (e (nn + 3)) → bd (w2 nn2) (e2 (nn2 + 1)) (e2 (nn2 + 3)))) ∧ HCe K nn w e w2 e2 nn2 x))))) := by
  refine mt_X10_merge rfl (fun J hC => ?_)
  have ro_nn : cw_ro K nn := hI.2.1.2.1
  have ro_dn : cw_ro K dn := hI.2.1.2.2.1
  have hu1 := hI.2.1
  unfold cw_W at hu1
  replace hu1 := And.intro hu1.1 (And.intro (And.intro hu1.2.1.1 hu1.2.1.2.1) (And.intro (And.intro hu1.2.2.1.1 hu1.2.2.1.2.1) (And.intro hu1.2.2.2.1 (And.intro hu1.2.2.2.2.2.1 hu1.2.2.2.2.2.2))))
  have zs2 := cw_sz hI ro_nn
  have zs3 := cw_sz hI ro_dn
  have rg_x1 := pm_rng x1
  have rg_x2 := pm_rng x2
  refine hC.1 0 0 _ _ rfl _ _ _ _ _ ?_
  refine Exists.intro _ (Exists.intro _ (Exists.intro _ (Exists.intro _ (And.intro (F_X10_areUnlikeColours (cw A0 g K nn dn q w e v f) x1 x2 ) (And.intro rfl (fun r9 A9 h9 => ?_))))))
  rcases h9 with ⟨y4, rfl, rfl, ⟨rfl, by4⟩ | ⟨rfl, by4⟩⟩
  · skip
    have k1 : (1 : Int32).toInt = 1 := rfl
    refine And.intro (fun _ => ?_) (fun c9 => absurd c9 (by decide))
    refine hC.1 1 10 _ _ rfl _ _ _ _ _ ?_
    refine Exists.intro _ (And.intro (cw_o0 hI.1) ?_)
    refine Exists.intro _ (And.intro (cw_o1 hI.1) ?_)
    refine Exists.intro _ (And.intro (cw_o0 hI.1) ?_)
    refine And.intro (Exists.intro _ (cw_o1 hI.1)) (Exists.intro _ (Exists.intro _ (Exists.intro _ (Exists.intro _ (And.intro (F_X9_begin hI hs  (by omega)) (And.intro rfl (fun r9 A9 h9 => ?_)))))))
    obtain ⟨K7, dn7, q7, w7, e7, rfl, rfl, hI7, hX7, hk7, hw7, hy7, hdn7, hfm7, hz7⟩ := h9
    have hq7_0 : q 0 = q7 0 := (hX7.2.1 0 (by omega)).symm
    have hq7_nn : q nn = q7 nn := (hX7.2.1 nn (by omega)).symm
    rw [hq7_0, hq7_nn]
    have hw7_0 := congrArg Int32.toInt hw7.1
    have hw7_1 := congrArg Int32.toInt hw7.2.1
    have hw7_3 := congrArg Int32.toInt hw7.2.2.2
    have ro7 : cw_ro K7 dn7 := hI7.2.1.2.2.1
    have rn7 : cw_ro K7 nn := hI7.2.1.2.1
    have hx7 : e7 15 = e 15 := hy7.trans rfl
    have hu8 := hI7.2.1
    unfold cw_W at hu8
    replace hu8 := And.intro hu8.1 (And.intro (And.intro hu8.2.1.1 hu8.2.1.2.1) (And.intro (And.intro hu8.2.2.1.1 hu8.2.2.1.2.1) (And.intro hu8.2.2.2.1 (And.intro hu8.2.2.2.2.2.1 hu8.2.2.2.2.2.2))))
    have zs9 := cw_sz hI7 rn7
    have zs10 := cw_sz hI7 ro7
    have hz9 := hz7
    have hL7 : ∀ L, rp (w nn) (e (nn + 1)) (e (nn + 2)) L → (nn : Int) = 40 + 4 * ((w 0).toInt % 41) → nn ≠ dn7 ∧ rp (w7 nn) (e7 (nn + 1)) (e7 (nn + 2)) L := hL_b ro_nn ro7 hdn7 hfm7
    have hF7 : FRO K w e w7 e7 dn7 := hfm7
    have k0 : (0 : Int32).toInt = 0 := rfl
    have lp12 : ∀ (n : Nat) (z4_28 : Int32) (w11 : Nat → Int32) (e11 : Nat → Nat → Int32) (v11 : Nat → Int32) (f11 : Nat → Nat → Int32), cw_I K7 nn dn7 q7 w11 e11 → e11 15 = e 15 → (∀ L, rp (w nn) (e (nn + 1)) (e (nn + 2)) L → (nn : Int) = 40 + 4 * ((w 0).toInt % 41) → nn ≠ dn7 ∧ rp (w11 nn) (e11 (nn + 1)) (e11 (nn + 2)) L) → FRO K w e w11 e11 dn7 → cw_S v11 f11 → (0 ≤ z4_28.toInt ∧ z4_28.toInt ≤ 160) → (∀ L, rp (w nn) (e (nn + 1)) (e (nn + 2)) L → (nn : Int) = 40 + 4 * ((w 0).toInt % 41) → rp (w11 dn7) (e11 (dn7 + 1)) (e11 (dn7 + 2)) ((si L 0 z4_28.toInt).map (fun p => (if p.1 = x1 then x2 else p.1, p.2)))) → (∀ L, rp (w nn) (e (nn + 1)) (e (nn + 2)) L → (nn : Int) = 40 + 4 * ((w 0).toInt % 41) → z4_28.toInt ≤ (L.length : Int)) → (w11 0).toInt = (w 0).toInt → (w11 1).toInt = (w 1).toInt → (w11 3).toInt = (w 3).toInt → 200 - z4_28.toInt < (n : Int) → J 28 [some (.ref (q7 0)), some (.int x1), some (.int x2), some (.ref (q7 nn)), some (.int z4_28)] [] (cw A0 g K7 nn dn7 q7 w11 e11 v11 f11) 4 485 := by
      intro n
      induction n with
      | zero =>
        intro z4_28 w11 e11 v11 f11 hI11 hx11 hL11 hF11 hs11 j0_28 j1_28 j2_28 j3_28 j4_28 j5_28 j6_28
        clear hu8 zs9 zs10
        omega
      | succ n ih13 =>
        intro z4_28 w11 e11 v11 f11 hI11 hx11 hL11 hF11 hs11 j0_28 j1_28 j2_28 j3_28 j4_28 j5_28 j6_28
        clear hu8 zs9 zs10
        have lh9 := hL11
        have hu14 := hI11.2.1
        unfold cw_W at hu14
        replace hu14 := And.intro hu14.1 (And.intro (And.intro hu14.2.1.1 hu14.2.1.2.1) (And.intro (And.intro hu14.2.2.1.1 hu14.2.2.1.2.1) (And.intro hu14.2.2.2.1 (And.intro hu14.2.2.2.2.2.1 hu14.2.2.2.2.2.2))))
        have zs15 := cw_sz hI11 rn7
        have zs16 := cw_sz hI11 ro7
        refine hC.1 2 28 _ _ rfl _ _ _ _ _ ?_
        refine Exists.intro _ (And.intro (cw_ro_o hI11.1 rn7) ?_)
        have z17 := cw_sz hI11 rn7
        refine And.intro (fun c18 => ?_) (fun c18 => ?_)
        · skip
          refine hC.1 5 74 _ _ rfl _ _ _ _ _ ?_
          refine Exists.intro _ (And.intro (cw_o0 hI11.1) ?_)
          have hp_78 := hL11
          refine And.intro (Exists.intro _ (cw_o1 hI11.1)) (Exists.intro _ (Exists.intro _ (Exists.intro _ (Exists.intro _ (And.intro (Z_X9_finish hI11 hs11  (by omega) (by omega)) (And.intro rfl (fun r9 A9 h9 => ?_)))))))
          rcases h9 with ⟨w20, e20, v20, f20, rfl, hI20, hs20, hy20, y19, rfl, by19⟩
          have hx20 : e20 15 = e 15 := hy20.trans hx11
          have hu21 := hI20.2.1.2.2.2.1
          have hu22 := hI20.2.1.2.2.2.2.1
          have zs23 := cw_sz hI20 ro7
          have zs24 := cw_sz hI20 ro7
          have hb_78 := by19.2.1
          have ht_78 := by19.2.2
          have hF20 : FRO K w e w20 e20 dn7 := FRO_s hF11 hb_78.1
          have hc_9 : HCn K w e w20 e20 dn7 y19 := ⟨by omega, hF20, ht_78⟩
          have sw20_1 : (w20 1).toInt = (w11 1).toInt := by19.1.1
          have sw20_3 : (w20 3).toInt = (w11 3).toInt := by19.1.2.1
          have sp20 := by19.1.2.2
          clear by19
          exact ⟨rfl, fun e9 => absurd e9 (by decide), rfl, K7, dn7, dn7, q7, w20, e20, v20, f20, rfl, hI20, hs20, hX7, hx20, y19, rfl, by first | omega | (dsimp only; omega) | trivial, by refine ⟨?_, ?_⟩; (intro L hL hN; have hl := hL.1; rw [ed_merge, if_pos (by omega)]; have t2 := j1_28 L hL hN; have h8 := (lh9 L hL hN).2.1; have h7 := j2_28 L hL hN; rw [show z4_28.toInt = (L.length : Int) by omega, si_all] at t2; exact ⟨hb_78.2.1 _ t2, by show _ = _ + (1 : Int); omega, by show _ = _ + (1 : Int) * _; omega, by omega, fun _ => hb_78.2.2⟩); (first | (exact Or.inr hc_9) | (exact hc_9) | (exact Or.inl ⟨rfl, rfl, fun _ _ => ⟨rfl, rfl⟩⟩))⟩
        · skip
          refine Exists.intro _ (And.intro (cw_o0 hI11.1) ?_)
          refine Exists.intro _ (And.intro (cw_ro_o hI11.1 rn7) ?_)
          refine Exists.intro _ (Exists.intro _ (And.intro (Or.inl (cw_ro_1 hI11.1 rn7)) (And.intro (by omega) ?_)))
          have w25 := cw_col hI11 rn7 (z4_28).toInt.toNat
          refine And.intro (fun c26 => ?_) (fun c26 => ?_)
          · skip
            have dc26 := pm_neI c26
            refine hC.1 3 58 _ _ rfl _ _ _ _ _ ?_
            refine Exists.intro _ (And.intro (cw_ro_o hI11.1 rn7) ?_)
            refine Exists.intro _ (Exists.intro _ (And.intro (Or.inl (cw_ro_1 hI11.1 rn7)) (And.intro (by omega) ?_)))
            have w27 := cw_col hI11 rn7 (z4_28).toInt.toNat
            refine hC.1 4 65 _ _ rfl _ _ _ _ _ ?_
            have hp_65 := hL11
            refine And.intro (Exists.intro _ (cw_o1 hI11.1)) (Exists.intro _ (Exists.intro _ (Exists.intro _ (Exists.intro _ (And.intro (F_X9_keepAs hI11 hs11 z4_28 (e11 (nn + 1) (z4_28).toInt.toNat) (by omega)) (And.intro rfl (fun r9 A9 h9 => ?_)))))))
            rcases h9 with ⟨w29, e29, v29, f29, rfl, hI29, hs29, hy29, rfl, by28⟩
            have hx29 : e29 15 = e 15 := hy29.trans hx11
            have zs30 := cw_sz hI29 rn7
            have zs31 := cw_sz hI29 ro7
            have hb_65 := by28.2
            have hF29 : FRO K w e w29 e29 dn7 := FRO_s hF11 hb_65.1
            have hL29 : ∀ L, rp (w nn) (e (nn + 1)) (e (nn + 2)) L → (nn : Int) = 40 + 4 * ((w 0).toInt % 41) → nn ≠ dn7 ∧ rp (w29 nn) (e29 (nn + 1)) (e29 (nn + 2)) L := hL_k hL11 rn7 ro7 hb_65.1
            have sw29_0 : (w29 0).toInt = (w11 0).toInt := by28.1.1
            have sw29_1 : (w29 1).toInt = (w11 1).toInt := by28.1.2.1
            have sw29_3 : (w29 3).toInt = (w11 3).toInt := by28.1.2.2
            clear by28
            intro m32 em_68
            try have e32 : m32.toInt = (z4_28).toInt + (1) := by rw [em_68]; exact pm_addc _ _ (1) rfl (by omega) (by omega)
            exact ih13 m32 w29 e29 v29 f29 hI29 hx29 hL29 hF29 hs29 (by omega) (by intro L hL hN; have hl := hL.1; have q2 := hp_65 L hL hN; have z2 := q2.2.1; have s2 := si_len (L := L) (a := 0) (b := z4_28.toInt) (by omega) (by omega) (by omega); have t2 := hb_65.2 L _ q2.2 q2.1 (by omega) (by omega) (by first | omega | (simp only [List.length_append, List.length_nil, List.length_cons, List.length_map, List.length_reverse, nw_len, dr_len]; omega)) (j1_28 L hL hN); rw [show m32.toInt = z4_28.toInt + 1 by omega, si_s q2.2 (a := 0) (z := z4_28.toInt) (by omega) (by omega) (by omega), List.map_append, List.map_cons, List.map_nil]; first | (rw [if_pos (by assumption)]; exact t2) | (rw [if_neg (by assumption)]; exact t2)) (by intro L hL hN; have h8 := (lh9 L hL hN).2.1; omega) (by omega) (by omega) (by omega) (by omega)
          · skip
            have dc26 : ((e11 (nn + 1) (z4_28).toInt.toNat)).toInt = (x1 : Int32).toInt := congrArg Int32.toInt c26
            refine hC.1 4 65 _ _ rfl _ _ _ _ _ ?_
            have hp_65 := hL11
            refine And.intro (Exists.intro _ (cw_o1 hI11.1)) (Exists.intro _ (Exists.intro _ (Exists.intro _ (Exists.intro _ (And.intro (F_X9_keepAs hI11 hs11 z4_28 x2 (by omega)) (And.intro rfl (fun r9 A9 h9 => ?_)))))))
            rcases h9 with ⟨w34, e34, v34, f34, rfl, hI34, hs34, hy34, rfl, by33⟩
            have hx34 : e34 15 = e 15 := hy34.trans hx11
            have zs35 := cw_sz hI34 rn7
            have zs36 := cw_sz hI34 ro7
            have hb_65 := by33.2
            have hF34 : FRO K w e w34 e34 dn7 := FRO_s hF11 hb_65.1
            have hL34 : ∀ L, rp (w nn) (e (nn + 1)) (e (nn + 2)) L → (nn : Int) = 40 + 4 * ((w 0).toInt % 41) → nn ≠ dn7 ∧ rp (w34 nn) (e34 (nn + 1)) (e34 (nn + 2)) L := hL_k hL11 rn7 ro7 hb_65.1
            have sw34_0 : (w34 0).toInt = (w11 0).toInt := by33.1.1
            have sw34_1 : (w34 1).toInt = (w11 1).toInt := by33.1.2.1
            have sw34_3 : (w34 3).toInt = (w11 3).toInt := by33.1.2.2
            clear by33
            intro m37 em_68
            try have e37 : m37.toInt = (z4_28).toInt + (1) := by rw [em_68]; exact pm_addc _ _ (1) rfl (by omega) (by omega)
            exact ih13 m37 w34 e34 v34 f34 hI34 hx34 hL34 hF34 hs34 (by omega) (by intro L hL hN; have hl := hL.1; have q2 := hp_65 L hL hN; have z2 := q2.2.1; have s2 := si_len (L := L) (a := 0) (b := z4_28.toInt) (by omega) (by omega) (by omega); have t2 := hb_65.2 L _ q2.2 q2.1 (by omega) (by omega) (by first | omega | (simp only [List.length_append, List.length_nil, List.length_cons, List.length_map, List.length_reverse, nw_len, dr_len]; omega)) (j1_28 L hL hN); rw [show m37.toInt = z4_28.toInt + 1 by omega, si_s q2.2 (a := 0) (z := z4_28.toInt) (by omega) (by omega) (by omega), List.map_append, List.map_cons, List.map_nil]; first | (rw [if_pos (by assumption)]; exact t2) | (rw [if_neg (by assumption)]; exact t2)) (by intro L hL hN; have h8 := (lh9 L hL hN).2.1; omega) (by omega) (by omega) (by omega) (by omega)
    exact lp12 (200 - (0 : Int32).toInt).toNat.succ (0 : Int32) w7 e7 v f hI7 hx7 hL7 hF7 hs (by omega) (by intro L hL hN; have hl := hL.1; rw [si_n (L := L) (a := 0) (b := (0 : Int32).toInt) (by decide)]; exact rp_0 hz9) (by intro L hL hN; have := hL.1; omega) (by omega) (by omega) (by omega) (by omega)
  · skip
    have k0 : (0 : Int32).toInt = 0 := rfl
    refine And.intro (fun c9 => absurd c9 (by decide)) (fun _ => ?_)
    have km1 : (-1 : Int32).toInt = -1 := rfl
    exact ⟨rfl, fun e9 => absurd e9 (by decide), rfl, K, nn, dn, q, w, e, v, f, rfl, hI, hs, cw_X_r, rfl, (-1 : Int32), rfl, by first | omega | (dsimp only; omega) | trivial, by refine ⟨?_, ?_⟩; (intro L hL hN; have hl := hL.1; rw [ed_merge, if_neg (by omega)]; exact ⟨hL, by show _ = _ + (0 : Int); omega, by show _ = _ + (0 : Int) * _; omega, hN, fun h8 => h8⟩); (first | (exact Or.inr hc_9) | (exact hc_9) | (exact Or.inl ⟨rfl, rfl, fun _ _ => ⟨rfl, rfl⟩⟩))⟩

end
end
section
section
variable {l : Launch} {g : pm_G} {A0 : pm_H} {K nn dn : Nat} {q : Nat → Nat} {w : Nat → Int32} {e : Nat → Nat → Int32} {v : Nat → Int32} {f : Nat → Nat → Int32}
set_option maxRecDepth 100000 in
set_option maxHeartbeats 2000000 in
theorem Z_X10_exchange (hI : cw_I K nn dn q w e) (hs : cw_S v f) (x1 : Int32) (x2 : Int32) (p0 : (w 0).toInt < 100000) : pm_Mt l g 39 4 4 485 [.ref (q 0), .int x1, .int x2] (cw A0 g K nn dn q w e v f) (cw_Qb A0 g K nn q (fun r K2 nn2 dn2 w2 e2 => e2 15 = e 15 ∧ (∃ x : Int32, r = some (.int x) ∧ (((w2 0).toInt ≤ (w 0).toInt + 1 ∧ (w 0).toInt ≤ (w2 0).toInt ∧ (w2 3).toInt = (w 3).toInt) ∧ ((∀ L, rp (w nn) (e (nn + 1)) (e (nn + 2)) L → (nn : Int) = 40 + 4 * ((w 0).toInt % 41) → rp (w2 nn2) (e2 (nn2 + 1)) (e2 (nn2 + 2)) ((ed_exch L x1 x2).getD L) ∧ (w2 0).toInt = (w 0).toInt + edn (ed_exch L x1 x2) ∧ (w2 1).toInt = (w 1).toInt + edn (ed_exch L x1 x2) * (0) ∧ (nn2 : Int) = 40 + 4 * ((w2 0).toInt % 41) ∧ (bd (w nn) (e (nn + 1)) (e (nn + 3)) → bd (w2 nn2) (e2 (nn2 + 1)) (e2 (nn2 + 3)))) ∧ HCe K nn w e w2 e2 nn2 x))))) := by
  refine mt_X10_exchange rfl (fun J hC => ?_)
  have ro_nn : cw_ro K nn := hI.2.1.2.1
  have ro_dn : cw_ro K dn := hI.2.1.2.2.1
  have hu1 := hI.2.1
  unfold cw_W at hu1
  replace hu1 := And.intro hu1.1 (And.intro (And.intro hu1.2.1.1 hu1.2.1.2.1) (And.intro (And.intro hu1.2.2.1.1 hu1.2.2.1.2.1) (And.intro hu1.2.2.2.1 (And.intro hu1.2.2.2.2.2.1 hu1.2.2.2.2.2.2))))
  have zs2 := cw_sz hI ro_nn
  have zs3 := cw_sz hI ro_dn
  have rg_x1 := pm_rng x1
  have rg_x2 := pm_rng x2
  refine hC.1 0 0 _ _ rfl _ _ _ _ _ ?_
  refine Exists.intro _ (Exists.intro _ (Exists.intro _ (Exists.intro _ (And.intro (F_X10_areUnlikeColours (cw A0 g K nn dn q w e v f) x1 x2 ) (And.intro rfl (fun r9 A9 h9 => ?_))))))
  rcases h9 with ⟨y4, rfl, rfl, ⟨rfl, by4⟩ | ⟨rfl, by4⟩⟩
  · skip
    have k1 : (1 : Int32).toInt = 1 := rfl
    refine And.intro (fun _ => ?_) (fun c9 => absurd c9 (by decide))
    refine hC.1 1 10 _ _ rfl _ _ _ _ _ ?_
    refine Exists.intro _ (And.intro (cw_o0 hI.1) ?_)
    refine Exists.intro _ (And.intro (cw_o1 hI.1) ?_)
    refine Exists.intro _ (And.intro (cw_o0 hI.1) ?_)
    refine And.intro (Exists.intro _ (cw_o1 hI.1)) (Exists.intro _ (Exists.intro _ (Exists.intro _ (Exists.intro _ (And.intro (F_X9_begin hI hs  (by omega)) (And.intro rfl (fun r9 A9 h9 => ?_)))))))
    obtain ⟨K7, dn7, q7, w7, e7, rfl, rfl, hI7, hX7, hk7, hw7, hy7, hdn7, hfm7, hz7⟩ := h9
    have hq7_0 : q 0 = q7 0 := (hX7.2.1 0 (by omega)).symm
    have hq7_nn : q nn = q7 nn := (hX7.2.1 nn (by omega)).symm
    rw [hq7_0, hq7_nn]
    have hw7_0 := congrArg Int32.toInt hw7.1
    have hw7_1 := congrArg Int32.toInt hw7.2.1
    have hw7_3 := congrArg Int32.toInt hw7.2.2.2
    have ro7 : cw_ro K7 dn7 := hI7.2.1.2.2.1
    have rn7 : cw_ro K7 nn := hI7.2.1.2.1
    have hx7 : e7 15 = e 15 := hy7.trans rfl
    have hu8 := hI7.2.1
    unfold cw_W at hu8
    replace hu8 := And.intro hu8.1 (And.intro (And.intro hu8.2.1.1 hu8.2.1.2.1) (And.intro (And.intro hu8.2.2.1.1 hu8.2.2.1.2.1) (And.intro hu8.2.2.2.1 (And.intro hu8.2.2.2.2.2.1 hu8.2.2.2.2.2.2))))
    have zs9 := cw_sz hI7 rn7
    have zs10 := cw_sz hI7 ro7
    have hz9 := hz7
    have hL7 : ∀ L, rp (w nn) (e (nn + 1)) (e (nn + 2)) L → (nn : Int) = 40 + 4 * ((w 0).toInt % 41) → nn ≠ dn7 ∧ rp (w7 nn) (e7 (nn + 1)) (e7 (nn + 2)) L := hL_b ro_nn ro7 hdn7 hfm7
    have hF7 : FRO K w e w7 e7 dn7 := hfm7
    have k0 : (0 : Int32).toInt = 0 := rfl
    have lp12 : ∀ (n : Nat) (z4_28 : Int32) (w11 : Nat → Int32) (e11 : Nat → Nat → Int32) (v11 : Nat → Int32) (f11 : Nat → Nat → Int32), cw_I K7 nn dn7 q7 w11 e11 → e11 15 = e 15 → (∀ L, rp (w nn) (e (nn + 1)) (e (nn + 2)) L → (nn : Int) = 40 + 4 * ((w 0).toInt % 41) → nn ≠ dn7 ∧ rp (w11 nn) (e11 (nn + 1)) (e11 (nn + 2)) L) → FRO K w e w11 e11 dn7 → cw_S v11 f11 → (0 ≤ z4_28.toInt ∧ z4_28.toInt ≤ 160) → (∀ L, rp (w nn) (e (nn + 1)) (e (nn + 2)) L → (nn : Int) = 40 + 4 * ((w 0).toInt % 41) → rp (w11 dn7) (e11 (dn7 + 1)) (e11 (dn7 + 2)) ((si L 0 z4_28.toInt).map (fun p => (if p.1 = x1 then x2 else if p.1 = x2 then x1 else p.1, p.2)))) → (∀ L, rp (w nn) (e (nn + 1)) (e (nn + 2)) L → (nn : Int) = 40 + 4 * ((w 0).toInt % 41) → z4_28.toInt ≤ (L.length : Int)) → (w11 0).toInt = (w 0).toInt → (w11 1).toInt = (w 1).toInt → (w11 3).toInt = (w 3).toInt → 200 - z4_28.toInt < (n : Int) → J 28 [some (.ref (q7 0)), some (.int x1), some (.int x2), some (.ref (q7 nn)), some (.int z4_28), none] [] (cw A0 g K7 nn dn7 q7 w11 e11 v11 f11) 4 485 := by
      intro n
      induction n with
      | zero =>
        intro z4_28 w11 e11 v11 f11 hI11 hx11 hL11 hF11 hs11 j0_28 j1_28 j2_28 j3_28 j4_28 j5_28 j6_28
        clear hu8 zs9 zs10
        omega
      | succ n ih13 =>
        intro z4_28 w11 e11 v11 f11 hI11 hx11 hL11 hF11 hs11 j0_28 j1_28 j2_28 j3_28 j4_28 j5_28 j6_28
        clear hu8 zs9 zs10
        have lh9 := hL11
        have hu14 := hI11.2.1
        unfold cw_W at hu14
        replace hu14 := And.intro hu14.1 (And.intro (And.intro hu14.2.1.1 hu14.2.1.2.1) (And.intro (And.intro hu14.2.2.1.1 hu14.2.2.1.2.1) (And.intro hu14.2.2.2.1 (And.intro hu14.2.2.2.2.2.1 hu14.2.2.2.2.2.2))))
        have zs15 := cw_sz hI11 rn7
        have zs16 := cw_sz hI11 ro7
        refine hC.1 2 28 _ _ rfl _ _ _ _ _ ?_
        refine Exists.intro _ (And.intro (cw_ro_o hI11.1 rn7) ?_)
        have z17 := cw_sz hI11 rn7
        refine And.intro (fun c18 => ?_) (fun c18 => ?_)
        · skip
          refine hC.1 6 83 _ _ rfl _ _ _ _ _ ?_
          refine Exists.intro _ (And.intro (cw_o0 hI11.1) ?_)
          have hp_87 := hL11
          refine And.intro (Exists.intro _ (cw_o1 hI11.1)) (Exists.intro _ (Exists.intro _ (Exists.intro _ (Exists.intro _ (And.intro (Z_X9_finish hI11 hs11  (by omega) (by omega)) (And.intro rfl (fun r9 A9 h9 => ?_)))))))
          rcases h9 with ⟨w20, e20, v20, f20, rfl, hI20, hs20, hy20, y19, rfl, by19⟩
          have hx20 : e20 15 = e 15 := hy20.trans hx11
          have hu21 := hI20.2.1.2.2.2.1
          have hu22 := hI20.2.1.2.2.2.2.1
          have zs23 := cw_sz hI20 ro7
          have zs24 := cw_sz hI20 ro7
          have hb_87 := by19.2.1
          have ht_87 := by19.2.2
          have hF20 : FRO K w e w20 e20 dn7 := FRO_s hF11 hb_87.1
          have hc_9 : HCn K w e w20 e20 dn7 y19 := ⟨by omega, hF20, ht_87⟩
          have sw20_1 : (w20 1).toInt = (w11 1).toInt := by19.1.1
          have sw20_3 : (w20 3).toInt = (w11 3).toInt := by19.1.2.1
          have sp20 := by19.1.2.2
          clear by19
          exact ⟨rfl, fun e9 => absurd e9 (by decide), rfl, K7, dn7, dn7, q7, w20, e20, v20, f20, rfl, hI20, hs20, hX7, hx20, y19, rfl, by first | omega | (dsimp only; omega) | trivial, by refine ⟨?_, ?_⟩; (intro L hL hN; have hl := hL.1; rw [ed_exch, if_pos (by omega)]; have t2 := j1_28 L hL hN; have h8 := (lh9 L hL hN).2.1; have h7 := j2_28 L hL hN; rw [show z4_28.toInt = (L.length : Int) by omega, si_all] at t2; exact ⟨hb_87.2.1 _ t2, by show _ = _ + (1 : Int); omega, by show _ = _ + (1 : Int) * _; omega, by omega, fun _ => hb_87.2.2⟩); (first | (exact Or.inr hc_9) | (exact hc_9) | (exact Or.inl ⟨rfl, rfl, fun _ _ => ⟨rfl, rfl⟩⟩))⟩
        · skip
          refine Exists.intro _ (And.intro (cw_ro_o hI11.1 rn7) ?_)
          refine Exists.intro _ (Exists.intro _ (And.intro (Or.inl (cw_ro_1 hI11.1 rn7)) (And.intro (by omega) ?_)))
          have w25 := cw_col hI11 rn7 (z4_28).toInt.toNat
          refine Exists.intro _ (And.intro (cw_o0 hI11.1) ?_)
          refine And.intro (fun c26 => ?_) (fun c26 => ?_)
          · skip
            have dc26 := pm_neI c26
            refine hC.1 3 62 _ _ rfl _ _ _ _ _ ?_
            refine And.intro (fun c27 => ?_) (fun c27 => ?_)
            · skip
              have dc27 := pm_neI c27
              refine hC.1 4 72 _ _ rfl _ _ _ _ _ ?_
              refine hC.1 5 74 _ _ rfl _ _ _ _ _ ?_
              have hp_74 := hL11
              refine And.intro (Exists.intro _ (cw_o1 hI11.1)) (Exists.intro _ (Exists.intro _ (Exists.intro _ (Exists.intro _ (And.intro (F_X9_keepAs hI11 hs11 z4_28 (e11 (nn + 1) (z4_28).toInt.toNat) (by omega)) (And.intro rfl (fun r9 A9 h9 => ?_)))))))
              rcases h9 with ⟨w29, e29, v29, f29, rfl, hI29, hs29, hy29, rfl, by28⟩
              have hx29 : e29 15 = e 15 := hy29.trans hx11
              have zs30 := cw_sz hI29 rn7
              have zs31 := cw_sz hI29 ro7
              have hb_74 := by28.2
              have hF29 : FRO K w e w29 e29 dn7 := FRO_s hF11 hb_74.1
              have hL29 : ∀ L, rp (w nn) (e (nn + 1)) (e (nn + 2)) L → (nn : Int) = 40 + 4 * ((w 0).toInt % 41) → nn ≠ dn7 ∧ rp (w29 nn) (e29 (nn + 1)) (e29 (nn + 2)) L := hL_k hL11 rn7 ro7 hb_74.1
              have sw29_0 : (w29 0).toInt = (w11 0).toInt := by28.1.1
              have sw29_1 : (w29 1).toInt = (w11 1).toInt := by28.1.2.1
              have sw29_3 : (w29 3).toInt = (w11 3).toInt := by28.1.2.2
              clear by28
              intro m32 em_77
              try have e32 : m32.toInt = (z4_28).toInt + (1) := by rw [em_77]; exact pm_addc _ _ (1) rfl (by omega) (by omega)
              exact hC.2 [false, false, false, false, false, true] _ _ _ _ _ _ (ih13 m32 w29 e29 v29 f29 hI29 hx29 hL29 hF29 hs29 (by omega) (by intro L hL hN; have hl := hL.1; have q2 := hp_74 L hL hN; have z2 := q2.2.1; have s2 := si_len (L := L) (a := 0) (b := z4_28.toInt) (by omega) (by omega) (by omega); have t2 := hb_74.2 L _ q2.2 q2.1 (by omega) (by omega) (by first | omega | (simp only [List.length_append, List.length_nil, List.length_cons, List.length_map, List.length_reverse, nw_len, dr_len]; omega)) (j1_28 L hL hN); rw [show m32.toInt = z4_28.toInt + 1 by omega, si_s q2.2 (a := 0) (z := z4_28.toInt) (by omega) (by omega) (by omega), List.map_append, List.map_cons, List.map_nil]; first | (rw [if_pos (by assumption)]; exact t2) | (rw [if_neg (by assumption), if_pos (by assumption)]; exact t2) | (rw [if_neg (by assumption), if_neg (by assumption)]; exact t2)) (by intro L hL hN; have h8 := (lh9 L hL hN).2.1; omega) (by omega) (by omega) (by omega) (by omega))
            · skip
              have dc27 : ((e11 (nn + 1) (z4_28).toInt.toNat)).toInt = (x2 : Int32).toInt := congrArg Int32.toInt c27
              refine hC.1 5 74 _ _ rfl _ _ _ _ _ ?_
              have hp_74 := hL11
              refine And.intro (Exists.intro _ (cw_o1 hI11.1)) (Exists.intro _ (Exists.intro _ (Exists.intro _ (Exists.intro _ (And.intro (F_X9_keepAs hI11 hs11 z4_28 x1 (by omega)) (And.intro rfl (fun r9 A9 h9 => ?_)))))))
              rcases h9 with ⟨w34, e34, v34, f34, rfl, hI34, hs34, hy34, rfl, by33⟩
              have hx34 : e34 15 = e 15 := hy34.trans hx11
              have zs35 := cw_sz hI34 rn7
              have zs36 := cw_sz hI34 ro7
              have hb_74 := by33.2
              have hF34 : FRO K w e w34 e34 dn7 := FRO_s hF11 hb_74.1
              have hL34 : ∀ L, rp (w nn) (e (nn + 1)) (e (nn + 2)) L → (nn : Int) = 40 + 4 * ((w 0).toInt % 41) → nn ≠ dn7 ∧ rp (w34 nn) (e34 (nn + 1)) (e34 (nn + 2)) L := hL_k hL11 rn7 ro7 hb_74.1
              have sw34_0 : (w34 0).toInt = (w11 0).toInt := by33.1.1
              have sw34_1 : (w34 1).toInt = (w11 1).toInt := by33.1.2.1
              have sw34_3 : (w34 3).toInt = (w11 3).toInt := by33.1.2.2
              clear by33
              intro m37 em_77
              try have e37 : m37.toInt = (z4_28).toInt + (1) := by rw [em_77]; exact pm_addc _ _ (1) rfl (by omega) (by omega)
              exact hC.2 [false, false, false, false, false, true] _ _ _ _ _ _ (ih13 m37 w34 e34 v34 f34 hI34 hx34 hL34 hF34 hs34 (by omega) (by intro L hL hN; have hl := hL.1; have q2 := hp_74 L hL hN; have z2 := q2.2.1; have s2 := si_len (L := L) (a := 0) (b := z4_28.toInt) (by omega) (by omega) (by omega); have t2 := hb_74.2 L _ q2.2 q2.1 (by omega) (by omega) (by first | omega | (simp only [List.length_append, List.length_nil, List.length_cons, List.length_map, List.length_reverse, nw_len, dr_len]; omega)) (j1_28 L hL hN); rw [show m37.toInt = z4_28.toInt + 1 by omega, si_s q2.2 (a := 0) (z := z4_28.toInt) (by omega) (by omega) (by omega), List.map_append, List.map_cons, List.map_nil]; first | (rw [if_pos (by assumption)]; exact t2) | (rw [if_neg (by assumption), if_pos (by assumption)]; exact t2) | (rw [if_neg (by assumption), if_neg (by assumption)]; exact t2)) (by intro L hL hN; have h8 := (lh9 L hL hN).2.1; omega) (by omega) (by omega) (by omega) (by omega))
          · skip
            have dc26 : ((e11 (nn + 1) (z4_28).toInt.toNat)).toInt = (x1 : Int32).toInt := congrArg Int32.toInt c26
            refine hC.1 5 74 _ _ rfl _ _ _ _ _ ?_
            have hp_74 := hL11
            refine And.intro (Exists.intro _ (cw_o1 hI11.1)) (Exists.intro _ (Exists.intro _ (Exists.intro _ (Exists.intro _ (And.intro (F_X9_keepAs hI11 hs11 z4_28 x2 (by omega)) (And.intro rfl (fun r9 A9 h9 => ?_)))))))
            rcases h9 with ⟨w39, e39, v39, f39, rfl, hI39, hs39, hy39, rfl, by38⟩
            have hx39 : e39 15 = e 15 := hy39.trans hx11
            have zs40 := cw_sz hI39 rn7
            have zs41 := cw_sz hI39 ro7
            have hb_74 := by38.2
            have hF39 : FRO K w e w39 e39 dn7 := FRO_s hF11 hb_74.1
            have hL39 : ∀ L, rp (w nn) (e (nn + 1)) (e (nn + 2)) L → (nn : Int) = 40 + 4 * ((w 0).toInt % 41) → nn ≠ dn7 ∧ rp (w39 nn) (e39 (nn + 1)) (e39 (nn + 2)) L := hL_k hL11 rn7 ro7 hb_74.1
            have sw39_0 : (w39 0).toInt = (w11 0).toInt := by38.1.1
            have sw39_1 : (w39 1).toInt = (w11 1).toInt := by38.1.2.1
            have sw39_3 : (w39 3).toInt = (w11 3).toInt := by38.1.2.2
            clear by38
            intro m42 em_77
            try have e42 : m42.toInt = (z4_28).toInt + (1) := by rw [em_77]; exact pm_addc _ _ (1) rfl (by omega) (by omega)
            exact hC.2 [false, false, false, false, false, true] _ _ _ _ _ _ (ih13 m42 w39 e39 v39 f39 hI39 hx39 hL39 hF39 hs39 (by omega) (by intro L hL hN; have hl := hL.1; have q2 := hp_74 L hL hN; have z2 := q2.2.1; have s2 := si_len (L := L) (a := 0) (b := z4_28.toInt) (by omega) (by omega) (by omega); have t2 := hb_74.2 L _ q2.2 q2.1 (by omega) (by omega) (by first | omega | (simp only [List.length_append, List.length_nil, List.length_cons, List.length_map, List.length_reverse, nw_len, dr_len]; omega)) (j1_28 L hL hN); rw [show m42.toInt = z4_28.toInt + 1 by omega, si_s q2.2 (a := 0) (z := z4_28.toInt) (by omega) (by omega) (by omega), List.map_append, List.map_cons, List.map_nil]; first | (rw [if_pos (by assumption)]; exact t2) | (rw [if_neg (by assumption), if_pos (by assumption)]; exact t2) | (rw [if_neg (by assumption), if_neg (by assumption)]; exact t2)) (by intro L hL hN; have h8 := (lh9 L hL hN).2.1; omega) (by omega) (by omega) (by omega) (by omega))
    exact lp12 (200 - (0 : Int32).toInt).toNat.succ (0 : Int32) w7 e7 v f hI7 hx7 hL7 hF7 hs (by omega) (by intro L hL hN; have hl := hL.1; rw [si_n (L := L) (a := 0) (b := (0 : Int32).toInt) (by decide)]; exact rp_0 hz9) (by intro L hL hN; have := hL.1; omega) (by omega) (by omega) (by omega) (by omega)
  · skip
    have k0 : (0 : Int32).toInt = 0 := rfl
    refine And.intro (fun c9 => absurd c9 (by decide)) (fun _ => ?_)
    have km1 : (-1 : Int32).toInt = -1 := rfl
    exact ⟨rfl, fun e9 => absurd e9 (by decide), rfl, K, nn, dn, q, w, e, v, f, rfl, hI, hs, cw_X_r, rfl, (-1 : Int32), rfl, by first | omega | (dsimp only; omega) | trivial, by refine ⟨?_, ?_⟩; (intro L hL hN; have hl := hL.1; rw [ed_exch, if_neg (by omega)]; exact ⟨hL, by show _ = _ + (0 : Int); omega, by show _ = _ + (0 : Int) * _; omega, hN, fun h8 => h8⟩); (first | (exact Or.inr hc_9) | (exact hc_9) | (exact Or.inl ⟨rfl, rfl, fun _ _ => ⟨rfl, rfl⟩⟩))⟩

set_option maxRecDepth 100000 in
set_option maxHeartbeats 2000000 in
theorem Z_X10_sort (hI : cw_I K nn dn q w e) (hs : cw_S v f) (x1 : Int32) (x2 : Int32) (p0 : (w 0).toInt < 100000) : pm_Mt l g 32 5 4 485 [.ref (q 0), .int x1, .int x2] (cw A0 g K nn dn q w e v f) (cw_Qb A0 g K nn q (fun r K2 nn2 dn2 w2 e2 => e2 15 = e 15 ∧ (∃ x : Int32, r = some (.int x) ∧ (((w2 0).toInt ≤ (w 0).toInt + 1 ∧ (w 0).toInt ≤ (w2 0).toInt ∧ (w2 3).toInt = (w 3).toInt) ∧ ((∀ L, rp (w nn) (e (nn + 1)) (e (nn + 2)) L → (nn : Int) = 40 + 4 * ((w 0).toInt % 41) → rp (w2 nn2) (e2 (nn2 + 1)) (e2 (nn2 + 2)) ((ed_sort L x1 x2).getD L) ∧ (w2 0).toInt = (w 0).toInt + edn (ed_sort L x1 x2) ∧ (w2 1).toInt = (w 1).toInt + edn (ed_sort L x1 x2) * (0) ∧ (nn2 : Int) = 40 + 4 * ((w2 0).toInt % 41) ∧ (bd (w nn) (e (nn + 1)) (e (nn + 3)) → bd (w2 nn2) (e2 (nn2 + 1)) (e2 (nn2 + 3)))) ∧ HCe K nn w e w2 e2 nn2 x))))) := by
  refine mt_X10_sort rfl (fun J hC => ?_)
  have ro_nn : cw_ro K nn := hI.2.1.2.1
  have ro_dn : cw_ro K dn := hI.2.1.2.2.1
  have hu1 := hI.2.1
  unfold cw_W at hu1
  replace hu1 := And.intro hu1.1 (And.intro (And.intro hu1.2.1.1 hu1.2.1.2.1) (And.intro (And.intro hu1.2.2.1.1 hu1.2.2.1.2.1) (And.intro hu1.2.2.2.1 (And.intro hu1.2.2.2.2.2.1 hu1.2.2.2.2.2.2))))
  have zs2 := cw_sz hI ro_nn
  have zs3 := cw_sz hI ro_dn
  have rg_x1 := pm_rng x1
  have rg_x2 := pm_rng x2
  refine hC.1 0 0 _ _ rfl _ _ _ _ _ ?_
  refine Exists.intro _ (And.intro (cw_o0 hI.1) ?_)
  refine Exists.intro _ (And.intro (cw_o1 hI.1) ?_)
  refine And.intro (Exists.intro _ (cw_ro_o hI.1 ro_nn)) (Exists.intro _ (Exists.intro _ (Exists.intro _ (Exists.intro _ (And.intro (c_X7_isSpan hI hs ro_nn x1 x2 ) (And.intro rfl (fun r9 A9 h9 => ?_)))))))
  rcases h9 with ⟨y4, rfl, rfl, ⟨rfl, by4⟩ | ⟨rfl, by4⟩⟩
  · skip
    have k1 : (1 : Int32).toInt = 1 := rfl
    refine And.intro (fun _ => ?_) (fun c9 => absurd c9 (by decide))
    refine hC.1 1 19 _ _ rfl _ _ _ _ _ ?_
    refine Exists.intro _ (And.intro (cw_o0 hI.1) ?_)
    refine And.intro (Exists.intro _ (cw_o1 hI.1)) (Exists.intro _ (Exists.intro _ (Exists.intro _ (Exists.intro _ (And.intro (F_X9_begin hI hs  (by omega)) (And.intro rfl (fun r9 A9 h9 => ?_)))))))
    obtain ⟨K7, dn7, q7, w7, e7, rfl, rfl, hI7, hX7, hk7, hw7, hy7, hdn7, hfm7, hz7⟩ := h9
    have hq7_0 : q 0 = q7 0 := (hX7.2.1 0 (by omega)).symm
    have hq7_nn : q nn = q7 nn := (hX7.2.1 nn (by omega)).symm
    rw [hq7_0, hq7_nn]
    have hw7_0 := congrArg Int32.toInt hw7.1
    have hw7_1 := congrArg Int32.toInt hw7.2.1
    have hw7_3 := congrArg Int32.toInt hw7.2.2.2
    have ro7 : cw_ro K7 dn7 := hI7.2.1.2.2.1
    have rn7 : cw_ro K7 nn := hI7.2.1.2.1
    have hx7 : e7 15 = e 15 := hy7.trans rfl
    have hu8 := hI7.2.1
    unfold cw_W at hu8
    replace hu8 := And.intro hu8.1 (And.intro (And.intro hu8.2.1.1 hu8.2.1.2.1) (And.intro (And.intro hu8.2.2.1.1 hu8.2.2.1.2.1) (And.intro hu8.2.2.2.1 (And.intro hu8.2.2.2.2.2.1 hu8.2.2.2.2.2.2))))
    have zs9 := cw_sz hI7 rn7
    have zs10 := cw_sz hI7 ro7
    have hz9 := hz7
    have hL7 : ∀ L, rp (w nn) (e (nn + 1)) (e (nn + 2)) L → (nn : Int) = 40 + 4 * ((w 0).toInt % 41) → nn ≠ dn7 ∧ rp (w7 nn) (e7 (nn + 1)) (e7 (nn + 2)) L := hL_b ro_nn ro7 hdn7 hfm7
    have hF7 : FRO K w e w7 e7 dn7 := hfm7
    refine Exists.intro _ (And.intro (cw_o0 hI7.1) ?_)
    have k0 : (0 : Int32).toInt = 0 := rfl
    intro m11 em_33
    try have e11 : m11.toInt = (x1).toInt - (1) := by rw [em_33]; exact pm_subc _ _ (1) rfl (by omega) (by omega)
    have hp_34 := hL7
    refine And.intro (Exists.intro _ (cw_o1 hI7.1)) (Exists.intro _ (Exists.intro _ (Exists.intro _ (Exists.intro _ (And.intro (F_X9_keep hI7 hs (0 : Int32) m11 ) (And.intro rfl (fun r9 A9 h9 => ?_)))))))
    rcases h9 with ⟨w13, e13, v13, f13, rfl, hI13, hs13, hy13, rfl, by12⟩
    have hx13 : e13 15 = e 15 := hy13.trans hx7
    have zs14 := cw_sz hI13 rn7
    have zs15 := cw_sz hI13 ro7
    have hb_34 := by12.2
    have hF13 : FRO K w e w13 e13 dn7 := FRO_s hF7 hb_34.1
    have hL13 : ∀ L, rp (w nn) (e (nn + 1)) (e (nn + 2)) L → (nn : Int) = 40 + 4 * ((w 0).toInt % 41) → nn ≠ dn7 ∧ rp (w13 nn) (e13 (nn + 1)) (e13 (nn + 2)) L := hL_k hL7 rn7 ro7 hb_34.1
    have sw13_0 : (w13 0).toInt = (w 0).toInt := by12.1.1.trans hw7_0
    have sw13_1 : (w13 1).toInt = (w 1).toInt := by12.1.2.1.trans hw7_1
    have sw13_3 : (w13 3).toInt = (w 3).toInt := by12.1.2.2.trans hw7_3
    clear by12
    have lp17 : ∀ (n : Nat) (z4_40 : Int32) (w16 : Nat → Int32) (e16 : Nat → Nat → Int32) (v16 : Nat → Int32) (f16 : Nat → Nat → Int32), cw_I K7 nn dn7 q7 w16 e16 → e16 15 = e 15 → (∀ L, rp (w nn) (e (nn + 1)) (e (nn + 2)) L → (nn : Int) = 40 + 4 * ((w 0).toInt % 41) → nn ≠ dn7 ∧ rp (w16 nn) (e16 (nn + 1)) (e16 (nn + 2)) L) → FRO K w e w16 e16 dn7 → cw_S v16 f16 → (0 ≤ z4_40.toInt ∧ z4_40.toInt ≤ 24) → (∀ L, rp (w nn) (e (nn + 1)) (e (nn + 2)) L → (nn : Int) = 40 + 4 * ((w 0).toInt % 41) → rp (w16 dn7) (e16 (dn7 + 1)) (e16 (dn7 + 2)) (si L 0 x1.toInt ++ st_l (si L x1.toInt (x2.toInt + 1)) z4_40.toInt.toNat)) → (w16 0).toInt = (w 0).toInt → (w16 1).toInt = (w 1).toInt → (w16 3).toInt = (w 3).toInt → 200 - z4_40.toInt < (n : Int) → J 40 [some (.ref (q7 0)), some (.int x1), some (.int x2), some (.ref (q7 nn)), some (.int z4_40)] [] (cw A0 g K7 nn dn7 q7 w16 e16 v16 f16) 4 485 := by
      intro n
      induction n with
      | zero =>
        intro z4_40 w16 e16 v16 f16 hI16 hx16 hL16 hF16 hs16 j0_40 j1_40 j2_40 j3_40 j4_40 j5_40
        clear hu8 zs9 zs10 zs14 zs15 sw13_0 sw13_1 sw13_3
        omega
      | succ n ih18 =>
        intro z4_40 w16 e16 v16 f16 hI16 hx16 hL16 hF16 hs16 j0_40 j1_40 j2_40 j3_40 j4_40 j5_40
        clear hu8 zs9 zs10 zs14 zs15 sw13_0 sw13_1 sw13_3
        have hu19 := hI16.2.1
        unfold cw_W at hu19
        replace hu19 := And.intro hu19.1 (And.intro (And.intro hu19.2.1.1 hu19.2.1.2.1) (And.intro (And.intro hu19.2.2.1.1 hu19.2.2.1.2.1) (And.intro hu19.2.2.2.1 (And.intro hu19.2.2.2.2.2.1 hu19.2.2.2.2.2.2))))
        have zs20 := cw_sz hI16 rn7
        have zs21 := cw_sz hI16 ro7
        refine hC.1 2 40 _ _ rfl _ _ _ _ _ ?_
        have k24 : (24 : Int32).toInt = 24 := rfl
        refine And.intro (fun c22 => ?_) (fun c22 => ?_)
        · skip
          refine hC.1 3 64 _ _ rfl _ _ _ _ _ ?_
          refine Exists.intro _ (And.intro (cw_o0 hI16.1) ?_)
          intro m23 em_70
          try have e23 : m23.toInt = (x2).toInt + (1) := by rw [em_70]; exact pm_addc _ _ (1) rfl (by omega) (by omega)
          refine Exists.intro _ (And.intro (cw_ro_o hI16.1 rn7) ?_)
          have z24 := cw_sz hI16 rn7
          intro m25 em_76
          try have e25 : m25.toInt = ((w16 nn)).toInt - (1) := by rw [em_76]; exact pm_subc _ _ (1) rfl (by omega) (by omega)
          have hp_77 := hL16
          refine And.intro (Exists.intro _ (cw_o1 hI16.1)) (Exists.intro _ (Exists.intro _ (Exists.intro _ (Exists.intro _ (And.intro (F_X9_keep hI16 hs16 m23 m25 ) (And.intro rfl (fun r9 A9 h9 => ?_)))))))
          rcases h9 with ⟨w27, e27, v27, f27, rfl, hI27, hs27, hy27, rfl, by26⟩
          have hx27 : e27 15 = e 15 := hy27.trans hx16
          have zs28 := cw_sz hI27 rn7
          have zs29 := cw_sz hI27 ro7
          have hb_77 := by26.2
          have hF27 : FRO K w e w27 e27 dn7 := FRO_s hF16 hb_77.1
          have hL27 : ∀ L, rp (w nn) (e (nn + 1)) (e (nn + 2)) L → (nn : Int) = 40 + 4 * ((w 0).toInt % 41) → nn ≠ dn7 ∧ rp (w27 nn) (e27 (nn + 1)) (e27 (nn + 2)) L := hL_k hL16 rn7 ro7 hb_77.1
          have sw27_0 : (w27 0).toInt = (w16 0).toInt := by26.1.1
          have sw27_1 : (w27 1).toInt = (w16 1).toInt := by26.1.2.1
          have sw27_3 : (w27 3).toInt = (w16 3).toInt := by26.1.2.2
          clear by26
          refine Exists.intro _ (And.intro (cw_o0 hI27.1) ?_)
          have hp_84 := hL27
          refine And.intro (Exists.intro _ (cw_o1 hI27.1)) (Exists.intro _ (Exists.intro _ (Exists.intro _ (Exists.intro _ (And.intro (Z_X9_finish hI27 hs27  (by omega) (by omega)) (And.intro rfl (fun r9 A9 h9 => ?_)))))))
          rcases h9 with ⟨w31, e31, v31, f31, rfl, hI31, hs31, hy31, y30, rfl, by30⟩
          have hx31 : e31 15 = e 15 := hy31.trans hx27
          have hu32 := hI31.2.1.2.2.2.1
          have hu33 := hI31.2.1.2.2.2.2.1
          clear zs28 zs29
          have zs34 := cw_sz hI31 ro7
          have zs35 := cw_sz hI31 ro7
          have hb_84 := by30.2.1
          have ht_84 := by30.2.2
          have hF31 : FRO K w e w31 e31 dn7 := FRO_s hF27 hb_84.1
          have hc_9 : HCn K w e w31 e31 dn7 y30 := ⟨by omega, hF31, ht_84⟩
          have sw31_1 : (w31 1).toInt = (w16 1).toInt := by30.1.1.trans sw27_1
          have sw31_3 : (w31 3).toInt = (w16 3).toInt := by30.1.2.1.trans sw27_3
          have sp31 := by30.1.2.2
          clear by30 sw27_1 sw27_3
          exact ⟨rfl, fun e9 => absurd e9 (by decide), rfl, K7, dn7, dn7, q7, w31, e31, v31, f31, rfl, hI31, hs31, hX7, hx31, y30, rfl, by first | omega | (dsimp only; omega) | trivial, by refine ⟨?_, ?_⟩; (intro L hL hN; have hl := hL.1; rw [ed_sort, if_pos (by omega)]; have t2 := j1_40 L hL hN; rw [show z4_40.toInt.toNat = 24 by omega] at t2; have h6 := st_len (si L x1.toInt (x2.toInt + 1)) 24; have s1 := si_len (L := L) (a := 0) (b := x1.toInt) (by omega) (by omega) (by omega); have s2 := si_len (L := L) (a := x1.toInt) (b := x2.toInt + 1) (by omega) (by omega) (by omega); have q3 := hp_77 L hL hN; have z3 := q3.2.1; have t3 := hb_77.2 L (_) (x2.toInt + 1) (L.length) q3.2 q3.1 (by omega) (by omega) (by omega) (by omega) (by omega) (by first | omega | (simp only [List.length_append, List.length_nil, List.length_cons, List.length_map, List.length_reverse, nw_len, dr_len]; omega)) t2; have k3 := si_len (L := L) (a := x2.toInt + 1) (b := L.length) (by omega) (by omega) (by omega); exact ⟨hb_84.2.1 _ t3, by show _ = _ + (1 : Int); omega, by show _ = _ + (1 : Int) * _; omega, by omega, fun _ => hb_84.2.2⟩); (first | (exact Or.inr hc_9) | (exact hc_9) | (exact Or.inl ⟨rfl, rfl, fun _ _ => ⟨rfl, rfl⟩⟩))⟩
        · skip
          refine Exists.intro _ (And.intro (cw_o0 hI16.1) ?_)
          have hp_55 := hL16
          refine And.intro (Exists.intro _ (cw_o1 hI16.1)) (Exists.intro _ (Exists.intro _ (Exists.intro _ (Exists.intro _ (And.intro (F_X9_keepThoseOf hI16 hs16 z4_40 x1 x2 (by omega)) (And.intro rfl (fun r9 A9 h9 => ?_)))))))
          rcases h9 with ⟨w37, e37, v37, f37, rfl, hI37, hs37, hy37, rfl, by36⟩
          have hx37 : e37 15 = e 15 := hy37.trans hx16
          have zs38 := cw_sz hI37 rn7
          have zs39 := cw_sz hI37 ro7
          have hb_55 := by36.2
          have hF37 : FRO K w e w37 e37 dn7 := FRO_s hF16 hb_55.1
          have hL37 : ∀ L, rp (w nn) (e (nn + 1)) (e (nn + 2)) L → (nn : Int) = 40 + 4 * ((w 0).toInt % 41) → nn ≠ dn7 ∧ rp (w37 nn) (e37 (nn + 1)) (e37 (nn + 2)) L := hL_k hL16 rn7 ro7 hb_55.1
          have sw37_0 : (w37 0).toInt = (w16 0).toInt := by36.1.1
          have sw37_1 : (w37 1).toInt = (w16 1).toInt := by36.1.2.1
          have sw37_3 : (w37 3).toInt = (w16 3).toInt := by36.1.2.2
          clear by36
          intro m40 em_58
          try have e40 : m40.toInt = (z4_40).toInt + (1) := by rw [em_58]; exact pm_addc _ _ (1) rfl (by omega) (by omega)
          exact ih18 m40 w37 e37 v37 f37 hI37 hx37 hL37 hF37 hs37 (by omega) (by intro L hL hN; have hl := hL.1; have q2 := hp_55 L hL hN; have z2 := q2.2.1; have s2 := si_len (L := L) (a := 0) (b := x1.toInt) (by omega) (by omega) (by omega); have s3 := si_len (L := L) (a := x1.toInt) (b := x2.toInt + 1) (by omega) (by omega) (by omega); have h6 := st_len (si L x1.toInt (x2.toInt + 1)) (z4_40.toInt.toNat + 1); have h7 : st_l (si L x1.toInt (x2.toInt + 1)) (z4_40.toInt.toNat + 1) = st_l (si L x1.toInt (x2.toInt + 1)) z4_40.toInt.toNat ++ (si L x1.toInt (x2.toInt + 1)).filter (fun p => decide (p.1.toInt = z4_40.toInt)) := (by show _ ++ List.filter (fun p : pl_P => decide (p.1.toInt = ((z4_40.toInt.toNat : Nat) : Int))) _ = _; rw [show ((z4_40.toInt.toNat : Nat) : Int) = z4_40.toInt by omega]); rw [h7, List.length_append] at h6; have t2 := hb_55.2 L _ x1.toInt (x2.toInt + 1) q2.2 q2.1 rfl rfl (by omega) (by omega) (by omega) (by first | omega | (simp only [List.length_append, List.length_nil, List.length_cons, List.length_map, List.length_reverse, nw_len, dr_len]; omega)) (j1_40 L hL hN); rw [show m40.toInt.toNat = z4_40.toInt.toNat + 1 by omega, h7, ← List.append_assoc]; exact t2) (by omega) (by omega) (by omega) (by omega)
    exact lp17 (200 - (0 : Int32).toInt).toNat.succ (0 : Int32) w13 e13 v13 f13 hI13 hx13 hL13 hF13 hs13 (by omega) (by intro L hL hN; have hl := hL.1; have q1 := hp_34 L hL hN; have z1 := q1.2.1; have t1 := hb_34.2 L ([]) (0) (x1.toInt) q1.2 q1.1 (by omega) (by omega) (by omega) (by omega) (by omega) (by first | omega | (simp only [List.length_append, List.length_nil, List.length_cons, List.length_map, List.length_reverse, nw_len, dr_len]; omega)) (rp_0 hz9); have k1 := si_len (L := L) (a := 0) (b := x1.toInt) (by omega) (by omega) (by omega); rw [List.nil_append] at t1; show rp _ _ _ (_ ++ []); rw [List.append_nil]; exact t1) (by omega) (by omega) (by omega) (by omega)
  · skip
    have k0 : (0 : Int32).toInt = 0 := rfl
    refine And.intro (fun c9 => absurd c9 (by decide)) (fun _ => ?_)
    have km1 : (-1 : Int32).toInt = -1 := rfl
    exact ⟨rfl, fun e9 => absurd e9 (by decide), rfl, K, nn, dn, q, w, e, v, f, rfl, hI, hs, cw_X_r, rfl, (-1 : Int32), rfl, by first | omega | (dsimp only; omega) | trivial, by refine ⟨?_, ?_⟩; (intro L hL hN; have hl := hL.1; rw [ed_sort, if_neg (by omega)]; exact ⟨hL, by show _ = _ + (0 : Int); omega, by show _ = _ + (0 : Int) * _; omega, hN, fun h8 => h8⟩); (first | (exact Or.inr hc_9) | (exact hc_9) | (exact Or.inl ⟨rfl, rfl, fun _ _ => ⟨rfl, rfl⟩⟩))⟩

end
end
section
section
variable {l : Launch} {g : pm_G} {A0 : pm_H} {K nn dn : Nat} {q : Nat → Nat} {w : Nat → Int32} {e : Nat → Nat → Int32} {v : Nat → Int32} {f : Nat → Nat → Int32}
set_option maxRecDepth 100000 in
set_option maxHeartbeats 2000000 in
theorem Z_X10_draw (hI : cw_I K nn dn q w e) (hs : cw_S v f) (x1 : Int32) (x2 : Int32) (x3 : Int32) (p0 : (w 0).toInt < 100000) : pm_Mt l g 40 4 4 485 [.ref (q 0), .int x1, .int x2, .int x3] (cw A0 g K nn dn q w e v f) (cw_Qb A0 g K nn q (fun r K2 nn2 dn2 w2 e2 => e2 15 = e 15 ∧ (∃ x : Int32, r = some (.int x) ∧ (((w2 0).toInt ≤ (w 0).toInt + 1 ∧ (w 0).toInt ≤ (w2 0).toInt ∧ (w2 3).toInt = (w 3).toInt) ∧ ((∀ L, rp (w nn) (e (nn + 1)) (e (nn + 2)) L → (nn : Int) = 40 + 4 * ((w 0).toInt % 41) → rp (w2 nn2) (e2 (nn2 + 1)) (e2 (nn2 + 2)) ((ed_draw L (w 1) x1 x2 x3).getD L) ∧ (w2 0).toInt = (w 0).toInt + edn (ed_draw L (w 1) x1 x2 x3) ∧ (w2 1).toInt = (w 1).toInt + edn (ed_draw L (w 1) x1 x2 x3) * (x2.toInt) ∧ (nn2 : Int) = 40 + 4 * ((w2 0).toInt % 41) ∧ (bd (w nn) (e (nn + 1)) (e (nn + 3)) → bd (w2 nn2) (e2 (nn2 + 1)) (e2 (nn2 + 3)))) ∧ HCe K nn w e w2 e2 nn2 x))))) := by
  refine mt_X10_draw rfl (fun J hC => ?_)
  have ro_nn : cw_ro K nn := hI.2.1.2.1
  have ro_dn : cw_ro K dn := hI.2.1.2.2.1
  have hu1 := hI.2.1
  unfold cw_W at hu1
  replace hu1 := And.intro hu1.1 (And.intro (And.intro hu1.2.1.1 hu1.2.1.2.1) (And.intro (And.intro hu1.2.2.1.1 hu1.2.2.1.2.1) (And.intro hu1.2.2.2.1 (And.intro hu1.2.2.2.2.2.1 hu1.2.2.2.2.2.2))))
  have zs2 := cw_sz hI ro_nn
  have zs3 := cw_sz hI ro_dn
  have rg_x1 := pm_rng x1
  have rg_x2 := pm_rng x2
  have rg_x3 := pm_rng x3
  refine hC.1 0 0 _ _ rfl _ _ _ _ _ ?_
  refine And.intro (fun c4 => ?_) (fun c4 => ?_)
  · skip
    refine hC.1 1 27 _ _ rfl _ _ _ _ _ ?_
    have k0 : (0 : Int32).toInt = 0 := rfl
    refine hC.1 2 28 _ _ rfl _ _ _ _ _ ?_
    refine And.intro (fun _ => ?_) (fun c9 => absurd c9 (by decide))
    refine hC.1 3 57 _ _ rfl _ _ _ _ _ ?_
    have km1 : (-1 : Int32).toInt = -1 := rfl
    exact ⟨rfl, fun e9 => absurd e9 (by decide), rfl, K, nn, dn, q, w, e, v, f, rfl, hI, hs, cw_X_r, rfl, (-1 : Int32), rfl, by first | omega | (dsimp only; omega) | trivial, by refine ⟨?_, ?_⟩; (intro L hL hN; have hl := hL.1; rw [ed_draw, if_neg (by omega)]; exact ⟨hL, by show _ = _ + (0 : Int); omega, by show _ = _ + (0 : Int) * _; omega, hN, fun h8 => h8⟩); (first | (exact Or.inr hc_9) | (exact hc_9) | (exact Or.inl ⟨rfl, rfl, fun _ _ => ⟨rfl, rfl⟩⟩))⟩
  · skip
    have k9999 : (9999 : Int32).toInt = 9999 := rfl
    refine And.intro (fun c5 => ?_) (fun c5 => ?_)
    · skip
      refine hC.1 1 27 _ _ rfl _ _ _ _ _ ?_
      have k0 : (0 : Int32).toInt = 0 := rfl
      refine hC.1 2 28 _ _ rfl _ _ _ _ _ ?_
      refine And.intro (fun _ => ?_) (fun c9 => absurd c9 (by decide))
      refine hC.1 3 57 _ _ rfl _ _ _ _ _ ?_
      have km1 : (-1 : Int32).toInt = -1 := rfl
      exact ⟨rfl, fun e9 => absurd e9 (by decide), rfl, K, nn, dn, q, w, e, v, f, rfl, hI, hs, cw_X_r, rfl, (-1 : Int32), rfl, by first | omega | (dsimp only; omega) | trivial, by refine ⟨?_, ?_⟩; (intro L hL hN; have hl := hL.1; rw [ed_draw, if_neg (by omega)]; exact ⟨hL, by show _ = _ + (0 : Int); omega, by show _ = _ + (0 : Int) * _; omega, hN, fun h8 => h8⟩); (first | (exact Or.inr hc_9) | (exact hc_9) | (exact Or.inl ⟨rfl, rfl, fun _ _ => ⟨rfl, rfl⟩⟩))⟩
    · skip
      have k1 : (1 : Int32).toInt = 1 := rfl
      refine And.intro (fun c6 => ?_) (fun c6 => ?_)
      · skip
        refine hC.1 1 27 _ _ rfl _ _ _ _ _ ?_
        have k0 : (0 : Int32).toInt = 0 := rfl
        refine hC.1 2 28 _ _ rfl _ _ _ _ _ ?_
        refine And.intro (fun _ => ?_) (fun c9 => absurd c9 (by decide))
        refine hC.1 3 57 _ _ rfl _ _ _ _ _ ?_
        have km1 : (-1 : Int32).toInt = -1 := rfl
        exact ⟨rfl, fun e9 => absurd e9 (by decide), rfl, K, nn, dn, q, w, e, v, f, rfl, hI, hs, cw_X_r, rfl, (-1 : Int32), rfl, by first | omega | (dsimp only; omega) | trivial, by refine ⟨?_, ?_⟩; (intro L hL hN; have hl := hL.1; rw [ed_draw, if_neg (by omega)]; exact ⟨hL, by show _ = _ + (0 : Int); omega, by show _ = _ + (0 : Int) * _; omega, hN, fun h8 => h8⟩); (first | (exact Or.inr hc_9) | (exact hc_9) | (exact Or.inl ⟨rfl, rfl, fun _ _ => ⟨rfl, rfl⟩⟩))⟩
      · skip
        have k160 : (160 : Int32).toInt = 160 := rfl
        refine And.intro (fun c7 => ?_) (fun c7 => ?_)
        · skip
          refine hC.1 1 27 _ _ rfl _ _ _ _ _ ?_
          have k0 : (0 : Int32).toInt = 0 := rfl
          refine hC.1 2 28 _ _ rfl _ _ _ _ _ ?_
          refine And.intro (fun _ => ?_) (fun c9 => absurd c9 (by decide))
          refine hC.1 3 57 _ _ rfl _ _ _ _ _ ?_
          have km1 : (-1 : Int32).toInt = -1 := rfl
          exact ⟨rfl, fun e9 => absurd e9 (by decide), rfl, K, nn, dn, q, w, e, v, f, rfl, hI, hs, cw_X_r, rfl, (-1 : Int32), rfl, by first | omega | (dsimp only; omega) | trivial, by refine ⟨?_, ?_⟩; (intro L hL hN; have hl := hL.1; rw [ed_draw, if_neg (by omega)]; exact ⟨hL, by show _ = _ + (0 : Int); omega, by show _ = _ + (0 : Int) * _; omega, hN, fun h8 => h8⟩); (first | (exact Or.inr hc_9) | (exact hc_9) | (exact Or.inl ⟨rfl, rfl, fun _ _ => ⟨rfl, rfl⟩⟩))⟩
        · skip
          refine hC.1 2 28 _ _ rfl _ _ _ _ _ ?_
          refine And.intro (fun c9 => absurd c9 (by decide)) (fun _ => ?_)
          refine And.intro (fun c8 => ?_) (fun c8 => ?_)
          · skip
            refine hC.1 3 57 _ _ rfl _ _ _ _ _ ?_
            have km1 : (-1 : Int32).toInt = -1 := rfl
            exact ⟨rfl, fun e9 => absurd e9 (by decide), rfl, K, nn, dn, q, w, e, v, f, rfl, hI, hs, cw_X_r, rfl, (-1 : Int32), rfl, by first | omega | (dsimp only; omega) | trivial, by refine ⟨?_, ?_⟩; (intro L hL hN; have hl := hL.1; rw [ed_draw, if_neg (by omega)]; exact ⟨hL, by show _ = _ + (0 : Int); omega, by show _ = _ + (0 : Int) * _; omega, hN, fun h8 => h8⟩); (first | (exact Or.inr hc_9) | (exact hc_9) | (exact Or.inl ⟨rfl, rfl, fun _ _ => ⟨rfl, rfl⟩⟩))⟩
          · skip
            have k24 : (24 : Int32).toInt = 24 := rfl
            refine And.intro (fun c9 => ?_) (fun c9 => ?_)
            · skip
              refine hC.1 3 57 _ _ rfl _ _ _ _ _ ?_
              have km1 : (-1 : Int32).toInt = -1 := rfl
              exact ⟨rfl, fun e9 => absurd e9 (by decide), rfl, K, nn, dn, q, w, e, v, f, rfl, hI, hs, cw_X_r, rfl, (-1 : Int32), rfl, by first | omega | (dsimp only; omega) | trivial, by refine ⟨?_, ?_⟩; (intro L hL hN; have hl := hL.1; rw [ed_draw, if_neg (by omega)]; exact ⟨hL, by show _ = _ + (0 : Int); omega, by show _ = _ + (0 : Int) * _; omega, hN, fun h8 => h8⟩); (first | (exact Or.inr hc_9) | (exact hc_9) | (exact Or.inl ⟨rfl, rfl, fun _ _ => ⟨rfl, rfl⟩⟩))⟩
            · skip
              refine Exists.intro _ (And.intro (cw_o0 hI.1) ?_)
              refine And.intro (Exists.intro _ (cw_o1 hI.1)) (Exists.intro _ (Exists.intro _ (Exists.intro _ (Exists.intro _ (And.intro (c_X9_hasRoomFor hI hs x2 (by omega)) (And.intro rfl (fun r9 A9 h9 => ?_)))))))
              rcases h9 with ⟨y10, rfl, rfl, ⟨rfl, by10⟩ | ⟨rfl, by10⟩⟩
              · skip
                refine And.intro (fun _ => ?_) (fun c9 => absurd c9 (by decide))
                refine hC.1 4 59 _ _ rfl _ _ _ _ _ ?_
                refine Exists.intro _ (And.intro (cw_o0 hI.1) ?_)
                refine And.intro (Exists.intro _ (cw_o1 hI.1)) (Exists.intro _ (Exists.intro _ (Exists.intro _ (Exists.intro _ (And.intro (F_X9_begin hI hs  (by omega)) (And.intro rfl (fun r9 A9 h9 => ?_)))))))
                obtain ⟨K13, dn13, q13, w13, e13, rfl, rfl, hI13, hX13, hk13, hw13, hy13, hdn13, hfm13, hz13⟩ := h9
                have hq13_0 : q 0 = q13 0 := (hX13.2.1 0 (by omega)).symm
                rw [hq13_0]
                have hw13_0 := congrArg Int32.toInt hw13.1
                have hw13_1 := congrArg Int32.toInt hw13.2.1
                have hw13_3 := congrArg Int32.toInt hw13.2.2.2
                have ro13 : cw_ro K13 dn13 := hI13.2.1.2.2.1
                have rn13 : cw_ro K13 nn := hI13.2.1.2.1
                have hx13 : e13 15 = e 15 := hy13.trans rfl
                have hu14 := hI13.2.1
                unfold cw_W at hu14
                replace hu14 := And.intro hu14.1 (And.intro (And.intro hu14.2.1.1 hu14.2.1.2.1) (And.intro (And.intro hu14.2.2.1.1 hu14.2.2.1.2.1) (And.intro hu14.2.2.2.1 (And.intro hu14.2.2.2.2.2.1 hu14.2.2.2.2.2.2))))
                have zs15 := cw_sz hI13 rn13
                have zs16 := cw_sz hI13 ro13
                have hz9 := hz13
                have hL13 : ∀ L, rp (w nn) (e (nn + 1)) (e (nn + 2)) L → (nn : Int) = 40 + 4 * ((w 0).toInt % 41) → nn ≠ dn13 ∧ rp (w13 nn) (e13 (nn + 1)) (e13 (nn + 2)) L := hL_b ro_nn ro13 hdn13 hfm13
                have hF13 : FRO K w e w13 e13 dn13 := hfm13
                refine Exists.intro _ (And.intro (cw_o0 hI13.1) ?_)
                have k0 : (0 : Int32).toInt = 0 := rfl
                refine Exists.intro _ (And.intro (cw_o0 hI13.1) ?_)
                refine Exists.intro _ (And.intro (cw_o1 hI13.1) ?_)
                refine Exists.intro _ (And.intro (cw_ro_o hI13.1 rn13) ?_)
                have z17 := cw_sz hI13 rn13
                intro m18 em_82
                try have e18 : m18.toInt = ((w13 nn)).toInt - (1) := by rw [em_82]; exact pm_subc _ _ (1) rfl (by omega) (by omega)
                have hp_83 := hL13
                refine And.intro (Exists.intro _ (cw_o1 hI13.1)) (Exists.intro _ (Exists.intro _ (Exists.intro _ (Exists.intro _ (And.intro (F_X9_keep hI13 hs (0 : Int32) m18 ) (And.intro rfl (fun r9 A9 h9 => ?_)))))))
                rcases h9 with ⟨w20, e20, v20, f20, rfl, hI20, hs20, hy20, rfl, by19⟩
                have hx20 : e20 15 = e 15 := hy20.trans hx13
                have zs21 := cw_sz hI20 rn13
                have zs22 := cw_sz hI20 ro13
                have hb_83 := by19.2
                have hF20 : FRO K w e w20 e20 dn13 := FRO_s hF13 hb_83.1
                have hL20 : ∀ L, rp (w nn) (e (nn + 1)) (e (nn + 2)) L → (nn : Int) = 40 + 4 * ((w 0).toInt % 41) → nn ≠ dn13 ∧ rp (w20 nn) (e20 (nn + 1)) (e20 (nn + 2)) L := hL_k hL13 rn13 ro13 hb_83.1
                have sw20_0 : (w20 0).toInt = (w 0).toInt := by19.1.1.trans hw13_0
                have sw20_1 : (w20 1).toInt = (w 1).toInt := by19.1.2.1.trans hw13_1
                have sw20_3 : (w20 3).toInt = (w 3).toInt := by19.1.2.2.trans hw13_3
                clear by19
                have lp24 : ∀ (n : Nat) (z5_92 : Int32) (z6_92 : Int32) (w23 : Nat → Int32) (e23 : Nat → Nat → Int32) (v23 : Nat → Int32) (f23 : Nat → Nat → Int32), cw_I K13 nn dn13 q13 w23 e23 → e23 15 = e 15 → (∀ L, rp (w nn) (e (nn + 1)) (e (nn + 2)) L → (nn : Int) = 40 + 4 * ((w 0).toInt % 41) → nn ≠ dn13 ∧ rp (w23 nn) (e23 (nn + 1)) (e23 (nn + 2)) L) → FRO K w e w23 e23 dn13 → cw_S v23 f23 → (0 ≤ z6_92.toInt ∧ z6_92.toInt ≤ x2.toInt) → (0 ≤ z5_92.toInt ∧ z5_92.toInt ≤ 10006) → ((w23 1).toInt = (w 1).toInt + z6_92.toInt) → (z5_92.toInt = ds x1.toInt z6_92.toInt.toNat) → (∀ L, rp (w nn) (e (nn + 1)) (e (nn + 2)) L → (nn : Int) = 40 + 4 * ((w 0).toInt % 41) → rp (w23 dn13) (e23 (dn13 + 1)) (e23 (dn13 + 2)) (L ++ nw_l (w 1) (dr_l x1.toInt x3.toInt z6_92.toInt.toNat))) → (w23 0).toInt = (w 0).toInt → (w23 3).toInt = (w 3).toInt → 200 - z6_92.toInt < (n : Int) → J 92 [some (.ref (q13 0)), some (.int x1), some (.int x2), some (.int x3), some (.int (1 : Int32)), some (.int z5_92), some (.int z6_92)] [] (cw A0 g K13 nn dn13 q13 w23 e23 v23 f23) 4 485 := by
                  intro n
                  induction n with
                  | zero =>
                    intro z5_92 z6_92 w23 e23 v23 f23 hI23 hx23 hL23 hF23 hs23 j0_92 j1_92 j2_92 j3_92 j4_92 j5_92 j6_92 j7_92
                    clear hu14 zs15 zs16 zs21 zs22 sw20_0 sw20_1 sw20_3
                    omega
                  | succ n ih25 =>
                    intro z5_92 z6_92 w23 e23 v23 f23 hI23 hx23 hL23 hF23 hs23 j0_92 j1_92 j2_92 j3_92 j4_92 j5_92 j6_92 j7_92
                    clear hu14 zs15 zs16 zs21 zs22 sw20_0 sw20_1 sw20_3
                    obtain ⟨g92, eg92⟩ : ∃ z9, z9 = w23 1 := ⟨_, rfl⟩
                    have hu26 := hI23.2.1
                    unfold cw_W at hu26
                    replace hu26 := And.intro hu26.1 (And.intro (And.intro hu26.2.1.1 hu26.2.1.2.1) (And.intro (And.intro hu26.2.2.1.1 hu26.2.2.1.2.1) (And.intro hu26.2.2.2.1 (And.intro hu26.2.2.2.2.2.1 hu26.2.2.2.2.2.2))))
                    have zs27 := cw_sz hI23 rn13
                    have zs28 := cw_sz hI23 ro13
                    refine hC.1 5 92 _ _ rfl _ _ _ _ _ ?_
                    refine And.intro (fun c29 => ?_) (fun c29 => ?_)
                    · skip
                      refine hC.1 6 130 _ _ rfl _ _ _ _ _ ?_
                      refine Exists.intro _ (And.intro (cw_o0 hI23.1) ?_)
                      have hp_134 := hL23
                      refine And.intro (Exists.intro _ (cw_o1 hI23.1)) (Exists.intro _ (Exists.intro _ (Exists.intro _ (Exists.intro _ (And.intro (Z_X9_finish hI23 hs23  (by omega) (by omega)) (And.intro rfl (fun r9 A9 h9 => ?_)))))))
                      rcases h9 with ⟨w31, e31, v31, f31, rfl, hI31, hs31, hy31, y30, rfl, by30⟩
                      have hx31 : e31 15 = e 15 := hy31.trans hx23
                      have hu32 := hI31.2.1.2.2.2.1
                      have hu33 := hI31.2.1.2.2.2.2.1
                      have zs34 := cw_sz hI31 ro13
                      have zs35 := cw_sz hI31 ro13
                      have hb_134 := by30.2.1
                      have ht_134 := by30.2.2
                      have hF31 : FRO K w e w31 e31 dn13 := FRO_s hF23 hb_134.1
                      have hc_9 : HCn K w e w31 e31 dn13 y30 := ⟨by omega, hF31, ht_134⟩
                      have sw31_1 : (w31 1).toInt = (w23 1).toInt := by30.1.1
                      have sw31_3 : (w31 3).toInt = (w23 3).toInt := by30.1.2.1
                      have sp31 := by30.1.2.2
                      clear by30
                      exact ⟨rfl, fun e9 => absurd e9 (by decide), rfl, K13, dn13, dn13, q13, w31, e31, v31, f31, rfl, hI31, hs31, hX13, hx31, y30, rfl, by first | omega | (dsimp only; omega) | trivial, by refine ⟨?_, ?_⟩; (intro L hL hN; have hl := hL.1; rw [ed_draw, if_pos (by omega)]; have t2 := j4_92 L hL hN; rw [show z6_92.toInt.toNat = x2.toInt.toNat by omega] at t2; exact ⟨hb_134.2.1 _ t2, by show _ = _ + (1 : Int); omega, by show _ = _ + (1 : Int) * _; omega, by omega, fun _ => hb_134.2.2⟩); (first | (exact Or.inr hc_9) | (exact hc_9) | (exact Or.inl ⟨rfl, rfl, fun _ _ => ⟨rfl, rfl⟩⟩))⟩
                    · skip
                      have k137 : (137 : Int32).toInt = 137 := rfl
                      intro m36 em_103
                      try have e36 : m36.toInt = (z5_92).toInt * (137) := by rw [em_103]; exact pm_mulc _ _ (137) rfl (by omega) (by omega)
                      have k71 : (71 : Int32).toInt = 71 := rfl
                      intro m37 em_106
                      try have e37 : m37.toInt = (m36).toInt + (71) := by rw [em_106]; exact pm_addc _ _ (71) rfl (by omega) (by omega)
                      have k10007 : (10007 : Int32).toInt = 10007 := rfl
                      refine And.intro (by decide) ?_
                      intro m38 em_110
                      have e38 : 0 ≤ m38.toInt ∧ m38.toInt < 10007 ∧ m38.toInt = (m37).toInt % 10007 := by rw [em_110]; exact pm_remc _ _ 10007 rfl (by omega) (by decide)
                      have hd1 : ds x1.toInt (z6_92.toInt.toNat + 1) = m38.toInt := by show (137 * ds x1.toInt z6_92.toInt.toNat + 71) % 10007 = _; rw [← j3_92]; omega
                      refine Exists.intro _ (And.intro (cw_o0 hI23.1) ?_)
                      refine And.intro (fun e9 => by have e8 := congrArg Int32.toInt e9; have e7 : (0 : Int32).toInt = 0 := rfl; omega) ?_
                      intro m39 em_120
                      try have e39 := pm_rem m38 x3 (by omega) (by omega)
                      try rw [← em_120] at e39
                      obtain ⟨cc9, hcc9⟩ : ∃ z9, z9 = m39 := ⟨_, rfl⟩
                      have ecc := pm_rem m38 x3 (by omega) (by omega)
                      rw [← em_120, ← hcc9] at ecc
                      have hp_121 := hL23
                      refine And.intro (Exists.intro _ (cw_o1 hI23.1)) (Exists.intro _ (Exists.intro _ (Exists.intro _ (Exists.intro _ (And.intro (F_X9_add hI23 hs23 m39 (by omega) (by omega)) (And.intro rfl (fun r9 A9 h9 => ?_)))))))
                      rcases h9 with ⟨w41, e41, v41, f41, rfl, hI41, hs41, hy41, rfl, by40⟩
                      have hx41 : e41 15 = e 15 := hy41.trans hx23
                      have hu42 := hI41.2.1.2.2.2.2.2.1
                      have zs43 := cw_sz hI41 rn13
                      have zs44 := cw_sz hI41 ro13
                      have hb_121 := by40.2
                      have hF41 : FRO K w e w41 e41 dn13 := FRO_s hF23 hb_121.1
                      have hL41 : ∀ L, rp (w nn) (e (nn + 1)) (e (nn + 2)) L → (nn : Int) = 40 + 4 * ((w 0).toInt % 41) → nn ≠ dn13 ∧ rp (w41 nn) (e41 (nn + 1)) (e41 (nn + 2)) L := hL_k hL23 rn13 ro13 hb_121.1
                      have sw41_0 : (w41 0).toInt = (w23 0).toInt := by40.1.1
                      have sw41_3 : (w41 3).toInt = (w23 3).toInt := by40.1.2.1
                      have sp41 := by40.1.2.2
                      clear by40
                      intro m45 em_124
                      try have e45 : m45.toInt = (z6_92).toInt + (1) := by rw [em_124]; exact pm_addc _ _ (1) rfl (by omega) (by omega)
                      exact ih25 m38 m45 w41 e41 v41 f41 hI41 hx41 hL41 hF41 hs41 (by omega) (by omega) (by omega) (by rw [show m45.toInt.toNat = z6_92.toInt.toNat + 1 by omega, hd1]) (by intro L hL hN; have hl := hL.1; have t2 := hb_121.2 _ (j4_92 L hL hN) (by first | omega | (simp only [List.length_append, List.length_nil, List.length_cons, List.length_map, List.length_reverse, nw_len, dr_len]; omega)); rw [← eg92] at t2; have h5 : Int32.ofInt (m38.toInt % x3.toInt) = cc9 := (by rw [← ecc.2.2, Int32.ofInt_toInt]); rw [show m45.toInt.toNat = z6_92.toInt.toNat + 1 by omega, dr_s, hd1, nw_app (g2 := g92) (by rw [eg92, dr_len]; omega) (by rw [dr_len]; omega), ← List.append_assoc, h5, hcc9]; exact t2) (by omega) (by omega) (by omega)
                exact lp24 (200 - (0 : Int32).toInt).toNat.succ x1 (0 : Int32) w20 e20 v20 f20 hI20 hx20 hL20 hF20 hs20 (by omega) (by omega) (by omega) (by rfl) (by intro L hL hN; have hl := hL.1; have q1 := hp_83 L hL hN; have z1 := q1.2.1; have t1 := hb_83.2 L ([]) (0) (L.length) q1.2 q1.1 (by omega) (by omega) (by omega) (by omega) (by omega) (by first | omega | (simp only [List.length_append, List.length_nil, List.length_cons, List.length_map, List.length_reverse, nw_len, dr_len]; omega)) (rp_0 hz9); have k1 := si_len (L := L) (a := 0) (b := L.length) (by omega) (by omega) (by omega); rw [List.nil_append] at t1; rw [si_all] at t1; show rp _ _ _ (L ++ []); rw [List.append_nil]; exact t1) (by omega) (by omega) (by omega)
              · skip
                have k0 : (0 : Int32).toInt = 0 := rfl
                refine And.intro (fun c9 => absurd c9 (by decide)) (fun _ => ?_)
                refine hC.1 3 57 _ _ rfl _ _ _ _ _ ?_
                have km1 : (-1 : Int32).toInt = -1 := rfl
                exact ⟨rfl, fun e9 => absurd e9 (by decide), rfl, K, nn, dn, q, w, e, v, f, rfl, hI, hs, cw_X_r, rfl, (-1 : Int32), rfl, by first | omega | (dsimp only; omega) | trivial, by refine ⟨?_, ?_⟩; (intro L hL hN; have hl := hL.1; rw [ed_draw, if_neg (by omega)]; exact ⟨hL, by show _ = _ + (0 : Int); omega, by show _ = _ + (0 : Int) * _; omega, hN, fun h8 => h8⟩); (first | (exact Or.inr hc_9) | (exact hc_9) | (exact Or.inl ⟨rfl, rfl, fun _ _ => ⟨rfl, rfl⟩⟩))⟩

end
end
section
/-! since: from which edit on a name has the bond that it has now -/
theorem FST_n {m : Nat → Int32} {n r : Int} {x : Int32} (hn : 0 ≤ n) (h : FST m n x r) : r = nextEq m x 0 n.toNat := by
  rcases h with ⟨a, b⟩ | ⟨a, b, c, d⟩
  · rw [a, nextEq_m n.toNat 0 (fun i _ hi => b i (by omega))]
  · rw [nextEq_0 n.toNat 0 r.toNat (by omega) (by omega) c (fun i _ hi => d i (by omega))]; omega
end
section
/-! changed: how many names are otherwise now than behind an edit -/
noncomputable def qn (k : Nat → Int32) (n : Int) (x : Int32) : Int := nextEq k x 0 n.toNat
end
section
/-! report: the k-th by its bond, those without ahead of all -/
noncomputable def la (c : Nat → Int32) (i : Nat) : Int := lastEq c (c i) i
noncomputable def kR (c : Nat → Int32) (i : Nat) : Int := if la c i < 0 then (i : Int) - 160 else la c i
end
section
/-! the questions: an answer by its row, all of them, one more -/
noncomputable def ANR (c m W : Nat → Int32) (n : Int) (a b x y : Int32) : Prop := (¬ (0 ≤ nextEq m a 0 n.toNat ∧ 0 ≤ nextEq m b 0 n.toNat) ∧ x = -1 ∧ y = -1) ∨ ((0 ≤ nextEq m a 0 n.toNat ∧ 0 ≤ nextEq m b 0 n.toNat) ∧ x.toInt = (cntB (sS c (min (nextEq m a 0 n.toNat) (nextEq m b 0 n.toNat)) (max (nextEq m a 0 n.toNat) (nextEq m b 0 n.toNat))) 24 : Int) ∧ y = msB W (sS c (min (nextEq m a 0 n.toNat) (nextEq m b 0 n.toNat)) (max (nextEq m a 0 n.toNat) (nextEq m b 0 n.toNat))) 24)
theorem ANR_no {c m W : Nat → Int32} {n : Int} {a b x y : Int32} {p q : Int} (hp : p = nextEq m a 0 n.toNat) (hq : q = nextEq m b 0 n.toNat) (h : ¬ (0 ≤ p ∧ 0 ≤ q)) (hx : x = -1) (hy : y = -1) : ANR c m W n a b x y := Or.inl ⟨by rw [← hp, ← hq]; exact h, hx, hy⟩
theorem ANR_yes {c m W : Nat → Int32} {n : Int} {a b x y : Int32} {p q l r : Int} (hp : p = nextEq m a 0 n.toNat) (hq : q = nextEq m b 0 n.toNat) (h : 0 ≤ p ∧ 0 ≤ q) (hl : (p ≤ q ∧ l = p ∧ r = q) ∨ (q ≤ p ∧ l = q ∧ r = p)) (hx : x.toInt = (cntB (sS c l r) 24 : Int)) (hy : y = msB W (sS c l r) 24) : ANR c m W n a b x y := Or.inr (by
  rw [← hp, ← hq]
  rw [show min p q = l by omega, show max p q = r by omega]
  exact ⟨h, hx, hy⟩)
theorem ANR_u {c m W d k V : Nat → Int32} {n n2 : Int32} {a b x y x2 y2 : Int32} {L : List pl_P} (h1 : rp n c m L) (h2 : rp n2 d k L) (hw : ∀ j, j < 24 → W j = V j) (g1 : ANR c m W n.toInt a b x y) (g2 : ANR d k V n2.toInt a b x2 y2) : x = x2 ∧ y = y2 := by
  have e0 : n.toInt = n2.toInt := h1.1.trans h2.1.symm
  have hl := h1.1
  have hc : ∀ j : Nat, (j : Int) < n.toInt → c j = d j := fun j hj => by rw [(h1.2 j (by omega)).1, (h2.2 j (by omega)).1]
  have hm : ∀ j : Nat, (j : Int) < n.toInt → m j = k j := fun j hj => by rw [(h1.2 j (by omega)).2, (h2.2 j (by omega)).2]
  have e1 : ∀ z, nextEq m z 0 n.toInt.toNat = nextEq k z 0 n2.toInt.toNat := fun z => by
    rw [← e0]
    exact nextEq_eq _ _ (fun j hj => hm j (by omega))
  have q1 := nextEq_lt m a 0 n.toInt.toNat
  have q2 := nextEq_lt m b 0 n.toInt.toNat
  unfold ANR at g2
  rw [← e1, ← e1] at g2
  rcases g1 with ⟨a1, a2, a3⟩ | ⟨a1, a2, a3⟩
  · rcases g2 with ⟨b1, b2, b3⟩ | ⟨b1, b2, b3⟩
    · exact ⟨a2.trans b2.symm, a3.trans b3.symm⟩
    · exact absurd b1 a1
  · rcases g2 with ⟨b1, b2, b3⟩ | ⟨b1, b2, b3⟩
    · exact absurd a1 b1
    · have es := sS_eq (c := c) (d := d) (n := n.toInt) (l := min (nextEq m a 0 n.toInt.toNat) (nextEq m b 0 n.toInt.toNat)) (r := max (nextEq m a 0 n.toInt.toNat) (nextEq m b 0 n.toInt.toNat)) hc (by omega)
      rw [← es] at b2 b3
      exact ⟨pm_eqI (a2.trans b2.symm), a3.trans ((msB_eq 24 hw).trans b3.symm)⟩
noncomputable def AKI (c m W : Nat → Int32) (n E : Int) (hn : Int → Int) (hc hm : Int → Nat → Int32) (ed a b x y : Int32) : Prop := (ed.toInt = -1 ∧ ANR c m W n a b x y) ∨ (¬ ed.toInt = -1 ∧ kno E ed.toInt ∧ ANR (hc ed.toInt) (hm ed.toInt) W (hn ed.toInt) a b x y) ∨ (¬ ed.toInt = -1 ∧ ¬ kno E ed.toInt ∧ x = -1 ∧ y = -1)
noncomputable def cro (i : Int) : Nat := (40 + 4 * (i % 41)).toNat
noncomputable def cN (w : Nat → Int32) (i : Int) : Int := (w (cro i)).toInt
noncomputable def cC (e : Nat → Nat → Int32) (i : Int) : Nat → Int32 := e (cro i + 1)
noncomputable def cM (e : Nat → Nat → Int32) (i : Int) : Nat → Int32 := e (cro i + 2)
theorem cro_i {i : Int} (h : 0 ≤ i) : (cro i : Int) = 40 + 4 * (i % 41) := by unfold cro; omega
noncomputable def rNi (f : Nat → Nat → Int32) (i : Int) : Int := (rN f i).toInt
noncomputable def cnA (x : Nat → Int32) : Nat → Int
  | 0 => 0
  | k + 1 => cnA x k + (if x k = -1 then 0 else 1)
theorem cnA_eq {x y : Nat → Int32} : ∀ k, (∀ j, j < k → x j = y j) → cnA x k = cnA y k
  | 0, _ => rfl
  | k + 1, h => by rw [cnA, cnA, cnA_eq k (fun j hj => h j (by omega)), h k (by omega)]
theorem cnA_r (x : Nat → Int32) : ∀ k, 0 ≤ cnA x k ∧ cnA x k ≤ k
  | 0 => ⟨Int.le_refl _, Int.le_refl _⟩
  | k + 1 => by
    have h := cnA_r x k
    rw [cnA]
    split <;> omega
theorem cnA_1 {x y : Nat → Int32} {k : Nat} {z : Int32} (h : y = upd x k z) (hz : ¬ z = -1) : cnA y (k + 1) = cnA x k + 1 := by
  subst h
  rw [cnA, pk_us, if_neg hz, cnA_eq k (fun j hj => pk_un (by omega))]
theorem cnA_0 {x y : Nat → Int32} {k : Nat} {z : Int32} (h : y = upd x k z) (hz : z = -1) : cnA y (k + 1) = cnA x k := by
  subst h
  rw [cnA, pk_us, if_pos hz, cnA_eq k (fun j hj => pk_un (by omega)), Int.add_zero]
theorem m1_ne {z : Int32} (h : 0 ≤ z.toInt) : ¬ z = -1 := fun e => by rw [e] at h; exact absurd h (by decide)
noncomputable def QST (ok : Prop) (ed a b n n2 r : Int32) (p o s t i p2 o2 s2 t2 i2 : Nat → Int32) : Prop := (¬ ok ∧ n2 = n ∧ r = -1 ∧ p2 = p ∧ o2 = o ∧ s2 = s ∧ t2 = t ∧ i2 = i) ∨ (ok ∧ n2 = n + 1 ∧ r = n ∧ p2 = upd p n.toInt.toNat a ∧ o2 = upd o n.toInt.toNat b ∧ s2 = upd s n.toInt.toNat (-1) ∧ t2 = upd t n.toInt.toNat (-1) ∧ i2 = upd i n.toInt.toNat ed)
noncomputable def ASD (n x t : Int) (p o s u i : Nat → Int32) : Int32 := if 0 ≤ x ∧ x < n then (if t = 0 then s x.toNat else if t = 1 then u x.toNat else if t = 2 then p x.toNat else if t = 3 then o x.toNat else if t = 4 then i x.toNat else -1) else -1
theorem ASD_n {n x t : Int} {p o s u i : Nat → Int32} (h : ¬ (0 ≤ x ∧ x < n)) : ASD n x t p o s u i = -1 := if_neg h
theorem ASD_d {n x t : Int} {p o s u i : Nat → Int32} (h : ¬ (0 ≤ t ∧ t ≤ 4)) : ASD n x t p o s u i = -1 := by
  unfold ASD
  split
  · rw [if_neg (by omega), if_neg (by omega), if_neg (by omega), if_neg (by omega), if_neg (by omega)]
  · rfl
theorem ASD_0 {n x t : Int} {p o s u i : Nat → Int32} (h : 0 ≤ x ∧ x < n) (ht : t = 0) : ASD n x t p o s u i = s x.toNat := by unfold ASD; rw [if_pos h, if_pos ht]
theorem ASD_1 {n x t : Int} {p o s u i : Nat → Int32} (h : 0 ≤ x ∧ x < n) (ht : t = 1) : ASD n x t p o s u i = u x.toNat := by unfold ASD; rw [if_pos h, if_neg (by omega), if_pos ht]
theorem ASD_2 {n x t : Int} {p o s u i : Nat → Int32} (h : 0 ≤ x ∧ x < n) (ht : t = 2) : ASD n x t p o s u i = p x.toNat := by unfold ASD; rw [if_pos h, if_neg (by omega), if_neg (by omega), if_pos ht]
theorem ASD_3 {n x t : Int} {p o s u i : Nat → Int32} (h : 0 ≤ x ∧ x < n) (ht : t = 3) : ASD n x t p o s u i = o x.toNat := by unfold ASD; rw [if_pos h, if_neg (by omega), if_neg (by omega), if_neg (by omega), if_pos ht]
theorem ASD_4 {n x t : Int} {p o s u i : Nat → Int32} (h : 0 ≤ x ∧ x < n) (ht : t = 4) : ASD n x t p o s u i = i x.toNat := by unfold ASD; rw [if_pos h, if_neg (by omega), if_neg (by omega), if_neg (by omega), if_neg (by omega), if_pos ht]
theorem pk_uu {c : Nat → Int32} {i : Nat} {a b : Int32} : upd (upd c i a) i b = upd c i b := funext (fun j => by
  by_cases h : j = i
  · rw [h, pk_us, pk_us]
  · rw [pk_un h, pk_un h, pk_un h])
theorem ANR_e {c m W c2 m2 W2 : Nat → Int32} {n n2 : Int} {a b a2 b2 x y : Int32} (h : ANR c m W n a b x y) (hc : c = c2) (hm : m = m2) (hw : W = W2) (hn : n = n2) (ha : a = a2) (hb : b = b2) : ANR c2 m2 W2 n2 a2 b2 x y := by
  subst hc; subst hm; subst hw; subst hn; subst ha; subst hb; exact h
theorem AKI_row {w : Nat → Int32} {e : Nat → Nat → Int32} {c m W : Nat → Int32} {n E : Int} {ed a b x y : Int32} {o : Nat} (he : ¬ ed.toInt = -1) (hk : kno E ed.toInt) (ho : cro ed.toInt = o) (h : ANR (e (o + 1)) (e (o + 2)) W (w o).toInt a b x y) : AKI c m W n E (cN w) (cC e) (cM e) ed a b x y := Or.inr (Or.inl ⟨he, hk, by unfold cC cM cN; rw [ho]; exact h⟩)
theorem QST_i {ok ok2 : Prop} {ed a b n n2 r : Int32} {p o s t i p2 o2 s2 t2 i2 : Nat → Int32} (h : QST ok ed a b n n2 r p o s t i p2 o2 s2 t2 i2) (hk : ok ↔ ok2) : QST ok2 ed a b n n2 r p o s t i p2 o2 s2 t2 i2 := by
  rcases h with ⟨h1, h2⟩ | ⟨h1, h2⟩
  · exact Or.inl ⟨fun q => h1 (hk.mpr q), h2⟩
  · exact Or.inr ⟨hk.mp h1, h2⟩
theorem PLN {m : Nat → Int32} {n s : Int} {x : Int32} (hn : 0 ≤ n) (h : (x.toInt < 0 ∧ s = -1) ∨ (0 ≤ x.toInt ∧ FST m n x s)) : (0 ≤ s ↔ (0 ≤ x.toInt ∧ 0 ≤ nextEq m x 0 n.toNat)) := by
  rcases h with ⟨h1, h2⟩ | ⟨h1, h2⟩
  · exact ⟨fun q => by omega, fun q => by omega⟩
  · have h3 := FST_n hn h2
    exact ⟨fun q => ⟨h1, by omega⟩, fun q => by omega⟩
noncomputable def PBR (n : Int) (m : Nat → Int32) (E : Int) (hn : Int → Int) (hm : Int → Nat → Int32) (ed x : Int32) (r : Int) : Prop := (ed.toInt = -1 ∧ r = nextEq m x 0 n.toNat) ∨ (¬ ed.toInt = -1 ∧ kno E ed.toInt ∧ r = nextEq (hm ed.toInt) x 0 (hn ed.toInt).toNat) ∨ (¬ ed.toInt = -1 ∧ ¬ kno E ed.toInt ∧ r = -1)
theorem AKI_no {c m W : Nat → Int32} {n E : Int} {hn : Int → Int} {hc hm : Int → Nat → Int32} {ed a b x y : Int32} {p q : Int} (hp : PBR n m E hn hm ed a p) (hq : PBR n m E hn hm ed b q) (h : ¬ (0 ≤ p ∧ 0 ≤ q)) (hx : x = -1) (hy : y = -1) : AKI c m W n E hn hc hm ed a b x y := by
  rcases hp with ⟨p1, p2⟩ | ⟨p1, p2, p3⟩ | ⟨p1, p2, p3⟩
  · rcases hq with ⟨q1, q2⟩ | ⟨q1, q2, q3⟩ | ⟨q1, q2, q3⟩
    · exact Or.inl ⟨p1, ANR_no p2 q2 h hx hy⟩
    · exact absurd p1 q1
    · exact absurd p1 q1
  · rcases hq with ⟨q1, q2⟩ | ⟨q1, q2, q3⟩ | ⟨q1, q2, q3⟩
    · exact absurd q1 p1
    · exact Or.inr (Or.inl ⟨p1, p2, ANR_no p3 q3 h hx hy⟩)
    · exact absurd p2 q2
  · exact Or.inr (Or.inr ⟨p1, p2, hx, hy⟩)
theorem AKI_yes {c m W : Nat → Int32} {n E : Int} {hn : Int → Int} {hc hm : Int → Nat → Int32} {ed a b x y S : Int32} {p q l r : Int} (hp : PBR n m E hn hm ed a p) (hq : PBR n m E hn hm ed b q) (h : 0 ≤ p ∧ 0 ≤ q) (hl : (p ≤ q ∧ l = p ∧ r = q) ∨ (q ≤ p ∧ l = q ∧ r = p)) (hS : (ed.toInt = -1 → S = sS c l r) ∧ (¬ ed.toInt = -1 → S = sS (hc ed.toInt) l r)) (hx : x.toInt = (cntB S 24 : Int)) (hy : y = msB W S 24) : AKI c m W n E hn hc hm ed a b x y := by
  rcases hp with ⟨p1, p2⟩ | ⟨p1, p2, p3⟩ | ⟨p1, p2, p3⟩
  · rcases hq with ⟨q1, q2⟩ | ⟨q1, q2, q3⟩ | ⟨q1, q2, q3⟩
    · have e := hS.1 p1
      subst e
      exact Or.inl ⟨p1, ANR_yes p2 q2 h hl hx hy⟩
    · exact absurd p1 q1
    · exact absurd p1 q1
  · rcases hq with ⟨q1, q2⟩ | ⟨q1, q2, q3⟩ | ⟨q1, q2, q3⟩
    · exact absurd q1 p1
    · have e := hS.2 p1
      subst e
      exact Or.inr (Or.inl ⟨p1, p2, ANR_yes p3 q3 h hl hx hy⟩)
    · exact absurd p2 q2
  · omega
noncomputable def ABT (n gv ed ta ak : Int32) (c : Nat → Int32) (t : Int) : Int := if t = 0 then n.toInt else if t = 1 then (cntB (sS c 0 (n.toInt - 1)) 24 : Int) else if t = 2 then gv.toInt else if t = 3 then ed.toInt else if t = 4 then ta.toInt else if t = 5 then ak.toInt else -1
theorem ABT_0 {n gv ed ta ak : Int32} {c : Nat → Int32} {t : Int} (h : t = 0) : ABT n gv ed ta ak c t = n.toInt := if_pos h
theorem ABT_1 {n gv ed ta ak : Int32} {c : Nat → Int32} {t : Int} (h : t = 1) : ABT n gv ed ta ak c t = (cntB (sS c 0 (n.toInt - 1)) 24 : Int) := by unfold ABT; rw [if_neg (by omega), if_pos h]
theorem ABT_2 {n gv ed ta ak : Int32} {c : Nat → Int32} {t : Int} (h : t = 2) : ABT n gv ed ta ak c t = gv.toInt := by unfold ABT; rw [if_neg (by omega), if_neg (by omega), if_pos h]
theorem ABT_3 {n gv ed ta ak : Int32} {c : Nat → Int32} {t : Int} (h : t = 3) : ABT n gv ed ta ak c t = ed.toInt := by unfold ABT; rw [if_neg (by omega), if_neg (by omega), if_neg (by omega), if_pos h]
theorem ABT_4 {n gv ed ta ak : Int32} {c : Nat → Int32} {t : Int} (h : t = 4) : ABT n gv ed ta ak c t = ta.toInt := by unfold ABT; rw [if_neg (by omega), if_neg (by omega), if_neg (by omega), if_neg (by omega), if_pos h]
theorem ABT_5 {n gv ed ta ak : Int32} {c : Nat → Int32} {t : Int} (h : t = 5) : ABT n gv ed ta ak c t = ak.toInt := by unfold ABT; rw [if_neg (by omega), if_neg (by omega), if_neg (by omega), if_neg (by omega), if_neg (by omega), if_pos h]
theorem ABT_d {n gv ed ta ak : Int32} {c : Nat → Int32} {t : Int} (h : ¬ (0 ≤ t ∧ t ≤ 5)) : ABT n gv ed ta ak c t = -1 := by unfold ABT; rw [if_neg (by omega), if_neg (by omega), if_neg (by omega), if_neg (by omega), if_neg (by omega), if_neg (by omega)]
theorem ABT_k {n gv ed ta ak : Int32} {c : Nat → Int32} {t x l r : Int} (h : t = 1) (a : x = (cntB (sS c l r) 24 : Int)) (hl : l = 0) (hr : r = n.toInt - 1) : x = ABT n gv ed ta ak c t := by
  subst hl; subst hr
  exact a.trans (ABT_1 h).symm
theorem ABT_m {n gv ed ta ak S : Int32} {c : Nat → Int32} {t x l r : Int} (h : t = 1) (k : ok24 c) (hs : S = setF c l.toNat (r + 1 - l).toNat) (b : x = (cntB S 32 : Int)) (hl : l = 0) (hr : r = n.toInt - 1) : x = ABT n gv ed ta ak c t := by
  subst hl; subst hr; subst hs
  exact (b.trans (congrArg (fun n9 : Nat => (n9 : Int)) (set_24 k _))).trans (ABT_1 h).symm
theorem SB24 {c : Nat → Int32} {hc : Int → Nat → Int32} {ed S : Int32} {l r : Int} (h : (ed.toInt = -1 → S = sS c l r) ∧ (¬ ed.toInt = -1 → S = sS (hc ed.toInt) l r)) (k1 : ok24 c) (k2 : ∀ i, ok24 (hc i)) : cntB S 32 = cntB S 24 := by
  by_cases e : ed.toInt = -1
  · rw [h.1 e]; exact set_24 k1 _
  · rw [h.2 e]; exact set_24 (k2 _) _
end
section
section
variable {l : Launch} {g : pm_G} {A0 : pm_H} {K nn dn : Nat} {q : Nat → Nat} {w : Nat → Int32} {e : Nat → Nat → Int32} {v : Nat → Int32} {f : Nat → Nat → Int32}
set_option maxRecDepth 100000 in
set_option maxHeartbeats 2000000 in
theorem V_X7_hasName (hI : cw_I K nn dn q w e) (hs : cw_S v f) {o0 : Nat} (ho0 : cw_ro K o0) (x1 : Int32)  : pm_Mt l g 154 1 0 0 [.ref (q o0), .int x1] (cw A0 g K nn dn q w e v f) (md_Qp (cw A0 g K nn dn q w e v f) (fun r => (r = 1 ∧ (0 ≤ nextEq (e (o0 + 2)) x1 0 (w o0).toInt.toNat)) ∨ (r = 0 ∧ (¬ (0 ≤ nextEq (e (o0 + 2)) x1 0 (w o0).toInt.toNat))))) := by
  refine mt_X7_hasName rfl (fun J hC => ?_)
  have ro_nn : cw_ro K nn := hI.2.1.2.1
  have ro_dn : cw_ro K dn := hI.2.1.2.2.1
  have hu1 := hI.2.1
  unfold cw_W at hu1
  have rg_x1 := pm_rng x1
  have zz0 := cw_sz hI ho0
  refine hC.1 0 0 _ _ rfl _ _ _ _ _ ?_
  refine And.intro (Exists.intro _ (cw_ro_o hI.1 ho0)) (Exists.intro _ (Exists.intro _ (Exists.intro _ (Exists.intro _ (And.intro (F_X7_placeOf hI hs ho0 x1 ) (And.intro rfl (fun r9 A9 h9 => ?_)))))))
  obtain ⟨y2, rfl, rfl, by2⟩ := h9
  have yf_9 := FST_n (by omega) by2.2
  have km1 : (-1 : Int32).toInt = -1 := rfl
  refine And.intro (fun c4 => ?_) (fun c4 => ?_)
  · skip
    have dc4 : (y2).toInt = ((-1 : Int32) : Int32).toInt := congrArg Int32.toInt c4
    refine hC.1 1 13 _ _ rfl _ _ _ _ _ ?_
    have k0 : (0 : Int32).toInt = 0 := rfl
    refine hC.1 2 14 _ _ rfl _ _ _ _ _ ?_
    exact ⟨rfl, fun _ => (by decide), rfl, (0 : Int32), rfl, rfl, Or.inr ⟨rfl, by first | omega | (dsimp only; omega) | trivial⟩⟩
  · skip
    have dc4 := pm_neI c4
    have k1 : (1 : Int32).toInt = 1 := rfl
    refine hC.1 2 14 _ _ rfl _ _ _ _ _ ?_
    exact ⟨rfl, fun _ => (by decide), rfl, (1 : Int32), rfl, rfl, Or.inl ⟨rfl, by first | omega | (dsimp only; omega) | trivial⟩⟩

set_option maxRecDepth 100000 in
set_option maxHeartbeats 2000000 in
theorem V_X5_add (hI : cw_I K nn dn q w e) (hs : cw_S v f) (x1 : Int32) (x2 : Int32) (x3 : Int32)  : pm_Mt l g 159 0 0 0 [.ref (q 9), .int x1, .int x2, .int x3] (cw A0 g K nn dn q w e v f) (cw_Qt A0 g K nn dn q (fun r w2 e2 => e2 15 = e 15 ∧ (∃ x : Int32, r = some (.int x) ∧ (((w2 0).toInt = (w 0).toInt ∧ (w2 1).toInt = (w 1).toInt ∧ (w2 2).toInt = (w 2).toInt) ∧ ((∀ i9, 40 ≤ i9 → w2 i9 = w i9 ∧ e2 i9 = e i9) ∧ QST (0 ≤ (w 3).toInt ∧ (w 3).toInt < 30) x1 x2 x3 (w 3) (w2 3) x (e 35) (e 36) (e 37) (e 38) (e 39) (e2 35) (e2 36) (e2 37) (e2 38) (e2 39)))))) := by
  refine mt_X5_add rfl (fun J hC => ?_)
  have ro_nn : cw_ro K nn := hI.2.1.2.1
  have ro_dn : cw_ro K dn := hI.2.1.2.2.1
  have hu1 := hI.2.1
  unfold cw_W at hu1
  have rg_x1 := pm_rng x1
  have rg_x2 := pm_rng x2
  have rg_x3 := pm_rng x3
  refine hC.1 0 0 _ _ rfl _ _ _ _ _ ?_
  refine Exists.intro _ (And.intro (cw_o9 hI.1) ?_)
  refine And.intro (fun c2 => ?_) (fun c2 => ?_)
  · skip
    refine hC.1 1 16 _ _ rfl _ _ _ _ _ ?_
    have km1 : (-1 : Int32).toInt = -1 := rfl
    exact ⟨rfl, fun e9 => absurd e9 (by decide), rfl, w, e, v, f, rfl, hI, hs, rfl, (-1 : Int32), rfl, by first | omega | (dsimp only; omega) | trivial, by exact ⟨fun _ _ => ⟨rfl, rfl⟩, Or.inl ⟨fun h9 => (by omega), rfl, rfl, rfl, rfl, rfl, rfl, rfl⟩⟩⟩
  · skip
    refine Exists.intro _ (And.intro (cw_o9 hI.1) ?_)
    have k30 : (30 : Int32).toInt = 30 := rfl
    refine And.intro (fun c3 => ?_) (fun c3 => ?_)
    · skip
      refine hC.1 2 18 _ _ rfl _ _ _ _ _ ?_
      refine Exists.intro _ (And.intro (cw_o9 hI.1) ?_)
      refine Exists.intro _ (And.intro (cw_o9 hI.1) ?_)
      refine Exists.intro _ (Exists.intro _ (And.intro (cw_a35 hI.1) (And.intro (by omega) ?_)))
      rw [cw_s35 hI.1]
      obtain ⟨e4, ee4⟩ : ∃ z9, z9 = va_up e 35 (upd (e 35) ((w 3)).toInt.toNat x2) := ⟨_, rfl⟩
      rw [← ee4]
      have hI4 : cw_I K nn dn q w e4 := ⟨hI.1, hI.2.1, hI.2.2.1, by rw [ee4]; exact cw_E_up hI.2.2.2 _ _ (fun h9 _ => absurd h9 (by decide)) (fun h9 _ => absurd h9 (by decide))⟩
      have hx4 : e4 15 = e 15 := (show e4 15 = e 15 by rw [ee4]; exact if_neg (by omega)).trans rfl
      have pe_31 := ee4
      refine Exists.intro _ (And.intro (cw_o9 hI4.1) ?_)
      refine Exists.intro _ (Exists.intro _ (And.intro (cw_a36 hI4.1) (And.intro (by omega) ?_)))
      rw [cw_s36 hI4.1]
      obtain ⟨e5, ee5⟩ : ∃ z9, z9 = va_up e4 36 (upd (e4 36) ((w 3)).toInt.toNat x3) := ⟨_, rfl⟩
      rw [← ee5]
      have hI5 : cw_I K nn dn q w e5 := ⟨hI4.1, hI4.2.1, hI4.2.2.1, by rw [ee5]; exact cw_E_up hI4.2.2.2 _ _ (fun h9 _ => absurd h9 (by decide)) (fun h9 _ => absurd h9 (by decide))⟩
      have hx5 : e5 15 = e 15 := (show e5 15 = e4 15 by rw [ee5]; exact if_neg (by omega)).trans hx4
      have pe_39 := ee5
      refine Exists.intro _ (And.intro (cw_o9 hI5.1) ?_)
      refine Exists.intro _ (Exists.intro _ (And.intro (cw_a39 hI5.1) (And.intro (by omega) ?_)))
      rw [cw_s39 hI5.1]
      obtain ⟨e6, ee6⟩ : ∃ z9, z9 = va_up e5 39 (upd (e5 39) ((w 3)).toInt.toNat x1) := ⟨_, rfl⟩
      rw [← ee6]
      have hI6 : cw_I K nn dn q w e6 := ⟨hI5.1, hI5.2.1, hI5.2.2.1, by rw [ee6]; exact cw_E_up hI5.2.2.2 _ _ (fun h9 _ => absurd h9 (by decide)) (fun h9 _ => absurd h9 (by decide))⟩
      have hx6 : e6 15 = e 15 := (show e6 15 = e5 15 by rw [ee6]; exact if_neg (by omega)).trans hx5
      have pe_47 := ee6
      refine Exists.intro _ (And.intro (cw_o9 hI6.1) ?_)
      have km1 : (-1 : Int32).toInt = -1 := rfl
      refine Exists.intro _ (Exists.intro _ (And.intro (cw_a37 hI6.1) (And.intro (by omega) ?_)))
      rw [cw_s37 hI6.1]
      obtain ⟨e7, ee7⟩ : ∃ z9, z9 = va_up e6 37 (upd (e6 37) ((w 3)).toInt.toNat (-1 : Int32)) := ⟨_, rfl⟩
      rw [← ee7]
      have hI7 : cw_I K nn dn q w e7 := ⟨hI6.1, hI6.2.1, hI6.2.2.1, by rw [ee7]; exact cw_E_up hI6.2.2.2 _ _ (fun h9 _ => absurd h9 (by decide)) (fun h9 _ => absurd h9 (by decide))⟩
      have hx7 : e7 15 = e 15 := (show e7 15 = e6 15 by rw [ee7]; exact if_neg (by omega)).trans hx6
      have pe_55 := ee7
      refine Exists.intro _ (And.intro (cw_o9 hI7.1) ?_)
      refine Exists.intro _ (Exists.intro _ (And.intro (cw_a38 hI7.1) (And.intro (by omega) ?_)))
      rw [cw_s38 hI7.1]
      obtain ⟨e8, ee8⟩ : ∃ z9, z9 = va_up e7 38 (upd (e7 38) ((w 3)).toInt.toNat (-1 : Int32)) := ⟨_, rfl⟩
      rw [← ee8]
      have hI8 : cw_I K nn dn q w e8 := ⟨hI7.1, hI7.2.1, hI7.2.2.1, by rw [ee8]; exact cw_E_up hI7.2.2.2 _ _ (fun h9 _ => absurd h9 (by decide)) (fun h9 _ => absurd h9 (by decide))⟩
      have hx8 : e8 15 = e 15 := (show e8 15 = e7 15 by rw [ee8]; exact if_neg (by omega)).trans hx7
      have pe_63 := ee8
      refine Exists.intro _ (And.intro (cw_o9 hI8.1) ?_)
      have k1 : (1 : Int32).toInt = 1 := rfl
      intro m9 em_70
      try have e9 : m9.toInt = ((w 3)).toInt + (1) := by rw [em_70]; exact pm_addc _ _ (1) rfl (by omega) (by omega)
      refine Exists.intro _ (And.intro (cw_o9 hI8.1) (And.intro rfl ?_))
      rw [cw_p_number hI8.1]
      obtain ⟨w10, ew10⟩ : ∃ z9, z9 = upd w 3 m9 := ⟨_, rfl⟩
      rw [← ew10]
      have ew10_0 : (w10 0).toInt = (w 0).toInt := by rw [ew10]; rfl
      have ew10_1 : (w10 1).toInt = (w 1).toInt := by rw [ew10]; rfl
      have ew10_2 : (w10 2).toInt = (w 2).toInt := by rw [ew10]; rfl
      have ew10_3 : (w10 3).toInt = (m9).toInt := by rw [ew10]; rfl
      have pn_71 : w10 3 = m9 := by rw [ew10, pk_us]
      have pw_71 := ew10
      have hZ10 : cw_Z w10 := by rw [ew10]; exact cw_Z_up hI8.2.2.1 _ _ (by omega)
      have hI10 : cw_I K nn dn q w10 e8 := ⟨hI8.1, by unfold cw_W; omega, hZ10, hI8.2.2.2⟩
      exact ⟨rfl, fun e9 => absurd e9 (by decide), rfl, w10, e8, v, f, rfl, hI10, hs, hx8, (w 3), rfl, by first | omega | (dsimp only; omega) | trivial, by refine ⟨fun i9 h9 => ⟨by rw [pw_71, pk_un (by omega)], by rw [pe_63, va_un (by omega), pe_55, va_un (by omega), pe_47, va_un (by omega), pe_39, va_un (by omega), pe_31, va_un (by omega)]⟩, Or.inr ⟨by omega, (by rw [pw_71, pk_us] : w10 3 = _).trans em_70, rfl, ?_, ?_, ?_, ?_, ?_⟩⟩; (rw [pe_63, va_un (by decide), pe_55, va_un (by decide), pe_47, va_un (by decide), pe_39, va_un (by decide), pe_31, va_us]); (rw [pe_63, va_un (by decide), pe_55, va_un (by decide), pe_47, va_un (by decide), pe_39, va_us, pe_31, va_un (by decide)]); (rw [pe_63, va_un (by decide), pe_55, va_us, pe_47, va_un (by decide), pe_39, va_un (by decide), pe_31, va_un (by decide)]); (rw [pe_63, va_us, pe_55, va_un (by decide), pe_47, va_un (by decide), pe_39, va_un (by decide), pe_31, va_un (by decide)]); (rw [pe_63, va_un (by decide), pe_55, va_un (by decide), pe_47, va_us, pe_39, va_un (by decide), pe_31, va_un (by decide)])⟩
    · skip
      refine hC.1 1 16 _ _ rfl _ _ _ _ _ ?_
      have km1 : (-1 : Int32).toInt = -1 := rfl
      exact ⟨rfl, fun e9 => absurd e9 (by decide), rfl, w, e, v, f, rfl, hI, hs, rfl, (-1 : Int32), rfl, by first | omega | (dsimp only; omega) | trivial, by exact ⟨fun _ _ => ⟨rfl, rfl⟩, Or.inl ⟨fun h9 => (by omega), rfl, rfl, rfl, rfl, rfl, rfl, rfl⟩⟩⟩

set_option maxRecDepth 100000 in
set_option maxHeartbeats 2000000 in
theorem V_X10_ask (hI : cw_I K nn dn q w e) (hs : cw_S v f) (x1 : Int32) (x2 : Int32)  : pm_Mt l g 158 2 0 0 [.ref (q 0), .int x1, .int x2] (cw A0 g K nn dn q w e v f) (cw_Qt A0 g K nn dn q (fun r w2 e2 => e2 15 = e 15 ∧ (∃ x : Int32, r = some (.int x) ∧ (((w2 0).toInt = (w 0).toInt ∧ (w2 1).toInt = (w 1).toInt ∧ (w2 2).toInt = (w 2).toInt) ∧ ((∀ i9, 40 ≤ i9 → w2 i9 = w i9 ∧ e2 i9 = e i9) ∧ QST ((w 3).toInt < 30 ∧ 0 ≤ nextEq (e (nn + 2)) x1 0 (w nn).toInt.toNat ∧ 0 ≤ nextEq (e (nn + 2)) x2 0 (w nn).toInt.toNat) (-1) x1 x2 (w 3) (w2 3) x (e 35) (e 36) (e 37) (e 38) (e 39) (e2 35) (e2 36) (e2 37) (e2 38) (e2 39)))))) := by
  refine mt_X10_ask rfl (fun J hC => ?_)
  have ro_nn : cw_ro K nn := hI.2.1.2.1
  have ro_dn : cw_ro K dn := hI.2.1.2.2.1
  have hu1 := hI.2.1
  unfold cw_W at hu1
  have rg_x1 := pm_rng x1
  have rg_x2 := pm_rng x2
  refine hC.1 0 0 _ _ rfl _ _ _ _ _ ?_
  refine Exists.intro _ (And.intro (cw_o0 hI.1) ?_)
  refine Exists.intro _ (And.intro (cw_o1 hI.1) ?_)
  refine And.intro (Exists.intro _ (cw_ro_o hI.1 ro_nn)) (Exists.intro _ (Exists.intro _ (Exists.intro _ (Exists.intro _ (And.intro (V_X7_hasName hI hs ro_nn x1 ) (And.intro rfl (fun r9 A9 h9 => ?_)))))))
  rcases h9 with ⟨y2, rfl, rfl, ⟨rfl, by2⟩ | ⟨rfl, by2⟩⟩
  · skip
    have k1 : (1 : Int32).toInt = 1 := rfl
    have ya_9 := by2
    refine And.intro (fun c9 => absurd c9 (by decide)) (fun _ => ?_)
    refine And.intro (Exists.intro _ (cw_ro_o hI.1 ro_nn)) (Exists.intro _ (Exists.intro _ (Exists.intro _ (Exists.intro _ (And.intro (V_X7_hasName hI hs ro_nn x2 ) (And.intro rfl (fun r9 A9 h9 => ?_)))))))
    rcases h9 with ⟨y4, rfl, rfl, ⟨rfl, by4⟩ | ⟨rfl, by4⟩⟩
    · skip
      have yb_9 := by4
      refine And.intro (fun c9 => absurd c9 (by decide)) (fun _ => ?_)
      refine Exists.intro _ (And.intro (cw_o0 hI.1) ?_)
      have km1 : (-1 : Int32).toInt = -1 := rfl
      refine And.intro (Exists.intro _ (cw_o9 hI.1)) (Exists.intro _ (Exists.intro _ (Exists.intro _ (Exists.intro _ (And.intro (V_X5_add hI hs (-1 : Int32) x1 x2 ) (And.intro rfl (fun r9 A9 h9 => ?_)))))))
      rcases h9 with ⟨w7, e7, v7, f7, rfl, hI7, hs7, hy7, y6, rfl, by6⟩
      have hx7 : e7 15 = e 15 := hy7.trans rfl
      have hu8 := hI7.2.1.2.2.2.2.2.2
      have hb_31 := by6.2
      have sw7_0 : (w7 0).toInt = (w 0).toInt := by6.1.1
      have sw7_1 : (w7 1).toInt = (w 1).toInt := by6.1.2.1
      have sw7_2 : (w7 2).toInt = (w 2).toInt := by6.1.2.2
      clear by6
      refine hC.1 2 38 _ _ rfl _ _ _ _ _ ?_
      exact ⟨rfl, fun e9 => absurd e9 (by decide), rfl, w7, e7, v7, f7, rfl, hI7, hs7, hx7, y6, rfl, by first | omega | (dsimp only; omega) | trivial, by first | (exact ⟨hb_31.1, QST_i hb_31.2 ⟨fun h9 => ⟨h9.2, ya_9, yb_9⟩, fun h9 => (by omega)⟩⟩) | (exact ⟨fun _ _ => ⟨rfl, rfl⟩, Or.inl ⟨fun h9 => absurd h9.2.1 ya_9, rfl, rfl, rfl, rfl, rfl, rfl, rfl⟩⟩) | (exact ⟨fun _ _ => ⟨rfl, rfl⟩, Or.inl ⟨fun h9 => absurd h9.2.2 yb_9, rfl, rfl, rfl, rfl, rfl, rfl, rfl⟩⟩)⟩
    · skip
      have k0 : (0 : Int32).toInt = 0 := rfl
      have yb_9 := by4
      refine And.intro (fun _ => ?_) (fun c9 => absurd c9 (by decide))
      refine hC.1 1 37 _ _ rfl _ _ _ _ _ ?_
      have km1 : (-1 : Int32).toInt = -1 := rfl
      refine hC.1 2 38 _ _ rfl _ _ _ _ _ ?_
      exact ⟨rfl, fun e9 => absurd e9 (by decide), rfl, w, e, v, f, rfl, hI, hs, rfl, (-1 : Int32), rfl, by first | omega | (dsimp only; omega) | trivial, by first | (exact ⟨hb_31.1, QST_i hb_31.2 ⟨fun h9 => ⟨h9.2, ya_9, yb_9⟩, fun h9 => (by omega)⟩⟩) | (exact ⟨fun _ _ => ⟨rfl, rfl⟩, Or.inl ⟨fun h9 => absurd h9.2.1 ya_9, rfl, rfl, rfl, rfl, rfl, rfl, rfl⟩⟩) | (exact ⟨fun _ _ => ⟨rfl, rfl⟩, Or.inl ⟨fun h9 => absurd h9.2.2 yb_9, rfl, rfl, rfl, rfl, rfl, rfl, rfl⟩⟩)⟩
  · skip
    have k0 : (0 : Int32).toInt = 0 := rfl
    have ya_9 := by2
    refine And.intro (fun _ => ?_) (fun c9 => absurd c9 (by decide))
    refine hC.1 1 37 _ _ rfl _ _ _ _ _ ?_
    have km1 : (-1 : Int32).toInt = -1 := rfl
    refine hC.1 2 38 _ _ rfl _ _ _ _ _ ?_
    exact ⟨rfl, fun e9 => absurd e9 (by decide), rfl, w, e, v, f, rfl, hI, hs, rfl, (-1 : Int32), rfl, by first | omega | (dsimp only; omega) | trivial, by first | (exact ⟨hb_31.1, QST_i hb_31.2 ⟨fun h9 => ⟨h9.2, ya_9, yb_9⟩, fun h9 => (by omega)⟩⟩) | (exact ⟨fun _ _ => ⟨rfl, rfl⟩, Or.inl ⟨fun h9 => absurd h9.2.1 ya_9, rfl, rfl, rfl, rfl, rfl, rfl, rfl⟩⟩) | (exact ⟨fun _ _ => ⟨rfl, rfl⟩, Or.inl ⟨fun h9 => absurd h9.2.2 yb_9, rfl, rfl, rfl, rfl, rfl, rfl, rfl⟩⟩)⟩

set_option maxRecDepth 100000 in
set_option maxHeartbeats 2000000 in
theorem V_X10_askOf (hI : cw_I K nn dn q w e) (hs : cw_S v f) (x1 : Int32) (x2 : Int32) (x3 : Int32)  : pm_Mt l g 160 2 0 0 [.ref (q 0), .int x1, .int x2, .int x3] (cw A0 g K nn dn q w e v f) (cw_Qt A0 g K nn dn q (fun r w2 e2 => e2 15 = e 15 ∧ (∃ x : Int32, r = some (.int x) ∧ (((w2 0).toInt = (w 0).toInt ∧ (w2 1).toInt = (w 1).toInt ∧ (w2 2).toInt = (w 2).toInt) ∧ ((∀ i9, 40 ≤ i9 → w2 i9 = w i9 ∧ e2 i9 = e i9) ∧ QST ((w 3).toInt < 30 ∧ kno (w 0).toInt x1.toInt ∧ 0 ≤ nextEq (cM e x1.toInt) x2 0 (cN w x1.toInt).toNat ∧ 0 ≤ nextEq (cM e x1.toInt) x3 0 (cN w x1.toInt).toNat) x1 x2 x3 (w 3) (w2 3) x (e 35) (e 36) (e 37) (e 38) (e 39) (e2 35) (e2 36) (e2 37) (e2 38) (e2 39)))))) := by
  refine mt_X10_askOf rfl (fun J hC => ?_)
  have ro_nn : cw_ro K nn := hI.2.1.2.1
  have ro_dn : cw_ro K dn := hI.2.1.2.2.1
  have hu1 := hI.2.1
  unfold cw_W at hu1
  have rg_x1 := pm_rng x1
  have rg_x2 := pm_rng x2
  have rg_x3 := pm_rng x3
  refine hC.1 0 0 _ _ rfl _ _ _ _ _ ?_
  refine Exists.intro _ (And.intro (cw_o0 hI.1) ?_)
  refine And.intro (Exists.intro _ (cw_o1 hI.1)) (Exists.intro _ (Exists.intro _ (Exists.intro _ (Exists.intro _ (And.intro (F_X9_behind hI hs x1 ) (And.intro rfl (fun r9 A9 h9 => ?_)))))))
  rcases h9 with ⟨rfl, ⟨rfl, hn3⟩ | ⟨o3, rfl, ho3, hn3, he3⟩⟩
  · skip
    have kn_5 := hn3
    unfold kno at hn3
    refine hC.1 1 33 _ _ rfl _ _ _ _ _ ?_
    have km1 : (-1 : Int32).toInt = -1 := rfl
    exact ⟨rfl, fun e9 => absurd e9 (by decide), rfl, w, e, v, f, rfl, hI, hs, rfl, (-1 : Int32), rfl, by first | omega | (dsimp only; omega) | trivial, by first | (exact ⟨hb_42.1, QST_i hb_42.2 ⟨fun h9 => ⟨h9.2, kn_5, ya_9, yb_9⟩, fun h9 => (by omega)⟩⟩) | (exact ⟨fun _ _ => ⟨rfl, rfl⟩, Or.inl ⟨fun h9 => kn_5 h9.2.1, rfl, rfl, rfl, rfl, rfl, rfl, rfl⟩⟩) | (exact ⟨fun _ _ => ⟨rfl, rfl⟩, Or.inl ⟨fun h9 => ya_9 h9.2.2.1, rfl, rfl, rfl, rfl, rfl, rfl, rfl⟩⟩) | (exact ⟨fun _ _ => ⟨rfl, rfl⟩, Or.inl ⟨fun h9 => yb_9 h9.2.2.2, rfl, rfl, rfl, rfl, rfl, rfl, rfl⟩⟩)⟩
  · skip
    have kn_5 := hn3
    have ke_5 := he3
    have ko_5 : ∀ z9 : Nat, (z9 : Int) = 40 + 4 * ((x1).toInt % 41) → z9 = o3 := fun z9 h9 => (by omega)
    unfold kno at hn3
    have yo_9 : cro x1.toInt = o3 := ko_5 (cro x1.toInt) (cro_i kn_5.1)
    have yM_9 : cM e x1.toInt = e (o3 + 2) := (by unfold cM; rw [yo_9])
    have yN_9 : cN w x1.toInt = (w o3).toInt := (by unfold cN; rw [yo_9])
    refine And.intro (Exists.intro _ (cw_ro_o hI.1 ho3)) (Exists.intro _ (Exists.intro _ (Exists.intro _ (Exists.intro _ (And.intro (V_X7_hasName hI hs ho3 x2 ) (And.intro rfl (fun r9 A9 h9 => ?_)))))))
    rcases h9 with ⟨y4, rfl, rfl, ⟨rfl, by4⟩ | ⟨rfl, by4⟩⟩
    · skip
      have k1 : (1 : Int32).toInt = 1 := rfl
      have ya_9 := by4
      rw [← yM_9, ← yN_9] at ya_9
      refine And.intro (fun c9 => absurd c9 (by decide)) (fun _ => ?_)
      refine And.intro (Exists.intro _ (cw_ro_o hI.1 ho3)) (Exists.intro _ (Exists.intro _ (Exists.intro _ (Exists.intro _ (And.intro (V_X7_hasName hI hs ho3 x3 ) (And.intro rfl (fun r9 A9 h9 => ?_)))))))
      rcases h9 with ⟨y6, rfl, rfl, ⟨rfl, by6⟩ | ⟨rfl, by6⟩⟩
      · skip
        have yb_9 := by6
        rw [← yM_9, ← yN_9] at yb_9
        refine And.intro (fun _ => ?_) (fun c9 => absurd c9 (by decide))
        refine hC.1 2 35 _ _ rfl _ _ _ _ _ ?_
        refine Exists.intro _ (And.intro (cw_o0 hI.1) ?_)
        refine And.intro (Exists.intro _ (cw_o9 hI.1)) (Exists.intro _ (Exists.intro _ (Exists.intro _ (Exists.intro _ (And.intro (V_X5_add hI hs x1 x2 x3 ) (And.intro rfl (fun r9 A9 h9 => ?_)))))))
        rcases h9 with ⟨w9, e9, v9, f9, rfl, hI9, hs9, hy9, y8, rfl, by8⟩
        have hx9 : e9 15 = e 15 := hy9.trans rfl
        have hu10 := hI9.2.1.2.2.2.2.2.2
        have hb_42 := by8.2
        have sw9_0 : (w9 0).toInt = (w 0).toInt := by8.1.1
        have sw9_1 : (w9 1).toInt = (w 1).toInt := by8.1.2.1
        have sw9_2 : (w9 2).toInt = (w 2).toInt := by8.1.2.2
        clear by8
        exact ⟨rfl, fun e9 => absurd e9 (by decide), rfl, w9, e9, v9, f9, rfl, hI9, hs9, hx9, y8, rfl, by first | omega | (dsimp only; omega) | trivial, by first | (exact ⟨hb_42.1, QST_i hb_42.2 ⟨fun h9 => ⟨h9.2, kn_5, ya_9, yb_9⟩, fun h9 => (by omega)⟩⟩) | (exact ⟨fun _ _ => ⟨rfl, rfl⟩, Or.inl ⟨fun h9 => kn_5 h9.2.1, rfl, rfl, rfl, rfl, rfl, rfl, rfl⟩⟩) | (exact ⟨fun _ _ => ⟨rfl, rfl⟩, Or.inl ⟨fun h9 => ya_9 h9.2.2.1, rfl, rfl, rfl, rfl, rfl, rfl, rfl⟩⟩) | (exact ⟨fun _ _ => ⟨rfl, rfl⟩, Or.inl ⟨fun h9 => yb_9 h9.2.2.2, rfl, rfl, rfl, rfl, rfl, rfl, rfl⟩⟩)⟩
      · skip
        have k0 : (0 : Int32).toInt = 0 := rfl
        have yb_9 := by6
        rw [← yM_9, ← yN_9] at yb_9
        refine And.intro (fun c9 => absurd c9 (by decide)) (fun _ => ?_)
        refine hC.1 1 33 _ _ rfl _ _ _ _ _ ?_
        have km1 : (-1 : Int32).toInt = -1 := rfl
        exact ⟨rfl, fun e9 => absurd e9 (by decide), rfl, w, e, v, f, rfl, hI, hs, rfl, (-1 : Int32), rfl, by first | omega | (dsimp only; omega) | trivial, by first | (exact ⟨hb_42.1, QST_i hb_42.2 ⟨fun h9 => ⟨h9.2, kn_5, ya_9, yb_9⟩, fun h9 => (by omega)⟩⟩) | (exact ⟨fun _ _ => ⟨rfl, rfl⟩, Or.inl ⟨fun h9 => kn_5 h9.2.1, rfl, rfl, rfl, rfl, rfl, rfl, rfl⟩⟩) | (exact ⟨fun _ _ => ⟨rfl, rfl⟩, Or.inl ⟨fun h9 => ya_9 h9.2.2.1, rfl, rfl, rfl, rfl, rfl, rfl, rfl⟩⟩) | (exact ⟨fun _ _ => ⟨rfl, rfl⟩, Or.inl ⟨fun h9 => yb_9 h9.2.2.2, rfl, rfl, rfl, rfl, rfl, rfl, rfl⟩⟩)⟩
    · skip
      have k0 : (0 : Int32).toInt = 0 := rfl
      have ya_9 := by4
      rw [← yM_9, ← yN_9] at ya_9
      refine And.intro (fun _ => ?_) (fun c9 => absurd c9 (by decide))
      refine hC.1 1 33 _ _ rfl _ _ _ _ _ ?_
      have km1 : (-1 : Int32).toInt = -1 := rfl
      exact ⟨rfl, fun e9 => absurd e9 (by decide), rfl, w, e, v, f, rfl, hI, hs, rfl, (-1 : Int32), rfl, by first | omega | (dsimp only; omega) | trivial, by first | (exact ⟨hb_42.1, QST_i hb_42.2 ⟨fun h9 => ⟨h9.2, kn_5, ya_9, yb_9⟩, fun h9 => (by omega)⟩⟩) | (exact ⟨fun _ _ => ⟨rfl, rfl⟩, Or.inl ⟨fun h9 => kn_5 h9.2.1, rfl, rfl, rfl, rfl, rfl, rfl, rfl⟩⟩) | (exact ⟨fun _ _ => ⟨rfl, rfl⟩, Or.inl ⟨fun h9 => ya_9 h9.2.2.1, rfl, rfl, rfl, rfl, rfl, rfl, rfl⟩⟩) | (exact ⟨fun _ _ => ⟨rfl, rfl⟩, Or.inl ⟨fun h9 => yb_9 h9.2.2.2, rfl, rfl, rfl, rfl, rfl, rfl, rfl⟩⟩)⟩

set_option maxRecDepth 100000 in
set_option maxHeartbeats 2000000 in
theorem V_X10_forget (hI : cw_I K nn dn q w e) (hs : cw_S v f)   : pm_Mt l g 165 0 0 0 [.ref (q 0)] (cw A0 g K nn dn q w e v f) (cw_Qt A0 g K nn dn q (fun r w2 e2 => e2 15 = e 15 ∧ (∃ x : Int32, r = some (.int x) ∧ (((w2 0).toInt = (w 0).toInt ∧ (w2 1).toInt = (w 1).toInt ∧ (w2 2).toInt = (w 2).toInt) ∧ ((∀ i9, 40 ≤ i9 → w2 i9 = w i9 ∧ e2 i9 = e i9) ∧ (x = w 3 ∧ (w2 3).toInt = 0) ∧ ∀ i9, e2 i9 = e i9))))) := by
  refine mt_X10_forget rfl (fun J hC => ?_)
  have ro_nn : cw_ro K nn := hI.2.1.2.1
  have ro_dn : cw_ro K dn := hI.2.1.2.2.1
  have hu1 := hI.2.1
  unfold cw_W at hu1
  refine hC.1 0 0 _ _ rfl _ _ _ _ _ ?_
  refine Exists.intro _ (And.intro (cw_o0 hI.1) ?_)
  refine Exists.intro _ (And.intro (cw_o9 hI.1) ?_)
  refine Exists.intro _ (And.intro (cw_o0 hI.1) ?_)
  have k0 : (0 : Int32).toInt = 0 := rfl
  refine Exists.intro _ (And.intro (cw_o9 hI.1) (And.intro rfl ?_))
  rw [cw_p_number hI.1]
  obtain ⟨w2, ew2⟩ : ∃ z9, z9 = upd w 3 (0 : Int32) := ⟨_, rfl⟩
  rw [← ew2]
  have ew2_0 : (w2 0).toInt = (w 0).toInt := by rw [ew2]; rfl
  have ew2_1 : (w2 1).toInt = (w 1).toInt := by rw [ew2]; rfl
  have ew2_2 : (w2 2).toInt = (w 2).toInt := by rw [ew2]; rfl
  have ew2_3 : (w2 3).toInt = ((0 : Int32)).toInt := by rw [ew2]; rfl
  have pn_13 : w2 3 = (0 : Int32) := by rw [ew2, pk_us]
  have pw_13 := ew2
  have hZ2 : cw_Z w2 := by rw [ew2]; exact cw_Z_up hI.2.2.1 _ _ (by omega)
  have hI2 : cw_I K nn dn q w2 e := ⟨hI.1, by unfold cw_W; omega, hZ2, hI.2.2.2⟩
  exact ⟨rfl, fun e9 => absurd e9 (by decide), rfl, w2, e, v, f, rfl, hI2, hs, rfl, (w 3), rfl, by first | omega | (dsimp only; omega) | trivial, by exact ⟨fun i9 h9 => ⟨by rw [pw_13, pk_un (by omega)], rfl⟩, ⟨rfl, by rw [pw_13, pk_us]; rfl⟩, fun _ => rfl⟩⟩

set_option maxRecDepth 100000 in
set_option maxHeartbeats 2000000 in
theorem V_X5_answer (hI : cw_I K nn dn q w e) (hs : cw_S v f) (x1 : Int32) {o2 : Nat} (ho2 : cw_ro K o2) (p0 : 0 ≤ x1.toInt ∧ x1.toInt < 30) : pm_Mt l g 162 3 0 0 [.ref (q 9), .int x1, .ref (q o2), .ref (q 2)] (cw A0 g K nn dn q w e v f) (cw_Qt A0 g K nn dn q (fun r w2 e2 => e2 15 = e 15 ∧ ((r = some (.int 1) ∧ (((w2 0).toInt = (w 0).toInt ∧ (w2 1).toInt = (w 1).toInt ∧ (w2 2).toInt = (w 2).toInt ∧ (w2 3).toInt = (w 3).toInt) ∧ (w2 = w ∧ (∀ i9, i9 ≠ 37 → i9 ≠ 38 → e2 i9 = e i9) ∧ ∃ a9 b9 : Int32, e2 37 = upd (e 37) x1.toInt.toNat a9 ∧ e2 38 = upd (e 38) x1.toInt.toNat b9 ∧ ANR (e (o2 + 1)) (e (o2 + 2)) (e 15) (w o2).toInt (e 35 x1.toInt.toNat) (e 36 x1.toInt.toNat) a9 b9 ∧ ¬ a9 = -1))) ∨ (r = some (.int 0) ∧ (((w2 0).toInt = (w 0).toInt ∧ (w2 1).toInt = (w 1).toInt ∧ (w2 2).toInt = (w 2).toInt ∧ (w2 3).toInt = (w 3).toInt) ∧ (w2 = w ∧ (∀ i9, i9 ≠ 37 → i9 ≠ 38 → e2 i9 = e i9) ∧ ∃ a9 b9 : Int32, e2 37 = upd (e 37) x1.toInt.toNat a9 ∧ e2 38 = upd (e 38) x1.toInt.toNat b9 ∧ ANR (e (o2 + 1)) (e (o2 + 2)) (e 15) (w o2).toInt (e 35 x1.toInt.toNat) (e 36 x1.toInt.toNat) a9 b9 ∧ a9 = -1)))))) := by
  refine mt_X5_answer rfl (fun J hC => ?_)
  have ro_nn : cw_ro K nn := hI.2.1.2.1
  have ro_dn : cw_ro K dn := hI.2.1.2.2.1
  have hu1 := hI.2.1
  unfold cw_W at hu1
  have rg_x1 := pm_rng x1
  have yd_9 := ho2
  unfold cw_ro at yd_9
  have zz2 := cw_sz hI ho2
  refine hC.1 0 0 _ _ rfl _ _ _ _ _ ?_
  refine Exists.intro _ (And.intro (cw_o9 hI.1) ?_)
  have km1 : (-1 : Int32).toInt = -1 := rfl
  refine Exists.intro _ (Exists.intro _ (And.intro (cw_a37 hI.1) (And.intro (by omega) ?_)))
  rw [cw_s37 hI.1]
  obtain ⟨e2, ee2⟩ : ∃ z9, z9 = va_up e 37 (upd (e 37) (x1).toInt.toNat (-1 : Int32)) := ⟨_, rfl⟩
  rw [← ee2]
  have hI2 : cw_I K nn dn q w e2 := ⟨hI.1, hI.2.1, hI.2.2.1, by rw [ee2]; exact cw_E_up hI.2.2.2 _ _ (fun h9 _ => absurd h9 (by decide)) (fun h9 _ => absurd h9 (by decide))⟩
  have hx2 : e2 15 = e 15 := (show e2 15 = e 15 by rw [ee2]; exact if_neg (by omega)).trans rfl
  have pe_6 := ee2
  refine Exists.intro _ (And.intro (cw_o9 hI2.1) ?_)
  refine Exists.intro _ (Exists.intro _ (And.intro (cw_a38 hI2.1) (And.intro (by omega) ?_)))
  rw [cw_s38 hI2.1]
  obtain ⟨e3, ee3⟩ : ∃ z9, z9 = va_up e2 38 (upd (e2 38) (x1).toInt.toNat (-1 : Int32)) := ⟨_, rfl⟩
  rw [← ee3]
  have hI3 : cw_I K nn dn q w e3 := ⟨hI2.1, hI2.2.1, hI2.2.2.1, by rw [ee3]; exact cw_E_up hI2.2.2.2 _ _ (fun h9 _ => absurd h9 (by decide)) (fun h9 _ => absurd h9 (by decide))⟩
  have hx3 : e3 15 = e 15 := (show e3 15 = e2 15 by rw [ee3]; exact if_neg (by omega)).trans hx2
  have pe_13 := ee3
  refine hC.1 1 20 _ _ rfl _ _ _ _ _ ?_
  have en_9 : ∀ i9, i9 ≠ 37 → i9 ≠ 38 → e3 i9 = e i9 := fun i9 h9 h8 => (by rw [pe_13, va_un h8, pe_6, va_un h9])
  refine Exists.intro _ (And.intro (cw_o9 hI3.1) ?_)
  refine Exists.intro _ (Exists.intro _ (And.intro (Or.inl (cw_a35 hI3.1)) (And.intro (by omega) ?_)))
  refine And.intro (Exists.intro _ (cw_ro_o hI3.1 ho2)) (Exists.intro _ (Exists.intro _ (Exists.intro _ (Exists.intro _ (And.intro (F_X7_placeOf hI3 hs ho2 (e3 35 (x1).toInt.toNat) ) (And.intro rfl (fun r9 A9 h9 => ?_)))))))
  obtain ⟨y4, rfl, rfl, by4⟩ := h9
  have yp_9 := FST_n (by omega) by4.2
  have yp_8 := by4.1
  rw [en_9 (o2 + 2) (by omega) (by omega), en_9 35 (by decide) (by decide)] at yp_9
  refine Exists.intro _ (And.intro (cw_o9 hI3.1) ?_)
  refine Exists.intro _ (Exists.intro _ (And.intro (Or.inl (cw_a36 hI3.1)) (And.intro (by omega) ?_)))
  refine And.intro (Exists.intro _ (cw_ro_o hI3.1 ho2)) (Exists.intro _ (Exists.intro _ (Exists.intro _ (Exists.intro _ (And.intro (F_X7_placeOf hI3 hs ho2 (e3 36 (x1).toInt.toNat) ) (And.intro rfl (fun r9 A9 h9 => ?_)))))))
  obtain ⟨y6, rfl, rfl, by6⟩ := h9
  have yq_9 := FST_n (by omega) by6.2
  have yq_8 := by6.1
  rw [en_9 (o2 + 2) (by omega) (by omega), en_9 36 (by decide) (by decide)] at yq_9
  refine And.intro (fun c8 => ?_) (fun c8 => ?_)
  · skip
    have dc8 : (y4).toInt = ((-1 : Int32) : Int32).toInt := congrArg Int32.toInt c8
    refine hC.1 2 56 _ _ rfl _ _ _ _ _ ?_
    have k0 : (0 : Int32).toInt = 0 := rfl
    exact ⟨rfl, fun _ => (by decide), rfl, w, e3, v, f, rfl, hI3, hs, hx3, Or.inr ⟨rfl, by first | omega | (dsimp only; omega) | trivial, by exact ⟨rfl, fun i9 h9 h8 => (by rw [pe_13, va_un h8, pe_6, va_un h9]), -1, -1, (by rw [pe_13, va_un (by decide), pe_6, va_us]), (by rw [pe_13, va_us, pe_6, va_un (by decide)]), ANR_no yp_9 yq_9 (by omega) rfl rfl, rfl⟩⟩⟩
  · skip
    have dc8 := pm_neI c8
    refine And.intro (fun c9 => ?_) (fun c9 => ?_)
    · skip
      have dc9 := pm_neI c9
      refine hC.1 3 58 _ _ rfl _ _ _ _ _ ?_
      refine Exists.intro _ (Exists.intro _ (Exists.intro _ (Exists.intro _ (And.intro (c_J9_min_7cf53 (cw A0 g K nn dn q w e3 v f) y4 y6 ) (And.intro rfl (fun r9 A9 h9 => ?_))))))
      obtain ⟨y10, rfl, rfl, by10⟩ := h9
      refine Exists.intro _ (Exists.intro _ (Exists.intro _ (Exists.intro _ (And.intro (c_J9_max_7cf53 (cw A0 g K nn dn q w e3 v f) y4 y6 ) (And.intro rfl (fun r9 A9 h9 => ?_))))))
      obtain ⟨y12, rfl, rfl, by12⟩ := h9
      refine And.intro (Exists.intro _ (cw_o2 hI3.1)) (Exists.intro _ (Exists.intro _ (Exists.intro _ (Exists.intro _ (And.intro (F_X2_read hI3 hs ho2 y10 y12 (by omega)) (And.intro rfl (fun r9 A9 h9 => ?_)))))))
      rcases h9 with ⟨v15, f15, rfl, hs15, rfl, by14⟩
      have yr_9 := by14.2.1
      rw [en_9 (o2 + 1) (by omega) (by omega), en_9 15 (by decide) (by decide)] at yr_9
      have yk_9 := PAL_kd (fun j9 => cw_col hI ho2 j9) yr_9
      have ym_9 := PAL_ms (fun j9 => cw_col hI ho2 j9) yr_9
      refine Exists.intro _ (And.intro (cw_o9 hI3.1) ?_)
      refine Exists.intro _ (And.intro (cw_o2 hI3.1) ?_)
      refine Exists.intro _ (Exists.intro _ (And.intro (cw_a37 hI3.1) (And.intro (by omega) ?_)))
      rw [cw_s37 hI3.1]
      obtain ⟨e16, ee16⟩ : ∃ z9, z9 = va_up e3 37 (upd (e3 37) (x1).toInt.toNat (v15 2)) := ⟨_, rfl⟩
      rw [← ee16]
      have hI16 : cw_I K nn dn q w e16 := ⟨hI3.1, hI3.2.1, hI3.2.2.1, by rw [ee16]; exact cw_E_up hI3.2.2.2 _ _ (fun h9 _ => absurd h9 (by decide)) (fun h9 _ => absurd h9 (by decide))⟩
      have hx16 : e16 15 = e 15 := (show e16 15 = e3 15 by rw [ee16]; exact if_neg (by omega)).trans hx3
      have pe_86 := ee16
      refine Exists.intro _ (And.intro (cw_o9 hI16.1) ?_)
      refine Exists.intro _ (And.intro (cw_o2 hI16.1) ?_)
      refine Exists.intro _ (Exists.intro _ (And.intro (cw_a38 hI16.1) (And.intro (by omega) ?_)))
      rw [cw_s38 hI16.1]
      obtain ⟨e17, ee17⟩ : ∃ z9, z9 = va_up e16 38 (upd (e16 38) (x1).toInt.toNat (v15 4)) := ⟨_, rfl⟩
      rw [← ee17]
      have hI17 : cw_I K nn dn q w e17 := ⟨hI16.1, hI16.2.1, hI16.2.2.1, by rw [ee17]; exact cw_E_up hI16.2.2.2 _ _ (fun h9 _ => absurd h9 (by decide)) (fun h9 _ => absurd h9 (by decide))⟩
      have hx17 : e17 15 = e 15 := (show e17 15 = e16 15 by rw [ee17]; exact if_neg (by omega)).trans hx16
      have pe_96 := ee17
      have k1 : (1 : Int32).toInt = 1 := rfl
      exact ⟨rfl, fun _ => (by decide), rfl, w, e17, v15, f15, rfl, hI17, hs15, hx17, Or.inl ⟨rfl, by first | omega | (dsimp only; omega) | trivial, by exact ⟨rfl, fun i9 h9 h8 => (by rw [pe_96, va_un h8, pe_86, va_un h9, pe_13, va_un h8, pe_6, va_un h9]), _, _, (by rw [pe_96, va_un (by decide), pe_86, va_us, pe_13, va_un (by decide), pe_6, va_us, pk_uu]), (by rw [pe_96, va_us, pe_86, va_un (by decide), pe_13, va_us, pe_6, va_un (by decide), pk_uu]), ANR_yes yp_9 yq_9 (by omega) (by omega) yk_9 ym_9, m1_ne (by rw [yk_9]; omega)⟩⟩⟩
    · skip
      have dc9 : (y6).toInt = ((-1 : Int32) : Int32).toInt := congrArg Int32.toInt c9
      refine hC.1 2 56 _ _ rfl _ _ _ _ _ ?_
      have k0 : (0 : Int32).toInt = 0 := rfl
      exact ⟨rfl, fun _ => (by decide), rfl, w, e3, v, f, rfl, hI3, hs, hx3, Or.inr ⟨rfl, by first | omega | (dsimp only; omega) | trivial, by exact ⟨rfl, fun i9 h9 h8 => (by rw [pe_13, va_un h8, pe_6, va_un h9]), -1, -1, (by rw [pe_13, va_un (by decide), pe_6, va_us]), (by rw [pe_13, va_us, pe_6, va_un (by decide)]), ANR_no yp_9 yq_9 (by omega) rfl rfl, rfl⟩⟩⟩

set_option maxRecDepth 100000 in
set_option maxHeartbeats 2000000 in
theorem V_X5_answer__n (hI : cw_I K nn dn q w e) (hs : cw_S v f) (x1 : Int32) (p0 : 0 ≤ x1.toInt ∧ x1.toInt < 30) : pm_Mt l g 162 3 0 0 [.ref (q 9), .int x1, .null, .ref (q 2)] (cw A0 g K nn dn q w e v f) (cw_Qt A0 g K nn dn q (fun r w2 e2 => e2 15 = e 15 ∧ ((r = some (.int 1) ∧ (((w2 0).toInt = (w 0).toInt ∧ (w2 1).toInt = (w 1).toInt ∧ (w2 2).toInt = (w 2).toInt ∧ (w2 3).toInt = (w 3).toInt) ∧ (w2 = w ∧ (∀ i9, i9 ≠ 37 → i9 ≠ 38 → e2 i9 = e i9) ∧ ∃ a9 b9 : Int32, e2 37 = upd (e 37) x1.toInt.toNat a9 ∧ e2 38 = upd (e 38) x1.toInt.toNat b9 ∧ (a9 = -1 ∧ b9 = -1) ∧ ¬ a9 = -1))) ∨ (r = some (.int 0) ∧ (((w2 0).toInt = (w 0).toInt ∧ (w2 1).toInt = (w 1).toInt ∧ (w2 2).toInt = (w 2).toInt ∧ (w2 3).toInt = (w 3).toInt) ∧ (w2 = w ∧ (∀ i9, i9 ≠ 37 → i9 ≠ 38 → e2 i9 = e i9) ∧ ∃ a9 b9 : Int32, e2 37 = upd (e 37) x1.toInt.toNat a9 ∧ e2 38 = upd (e 38) x1.toInt.toNat b9 ∧ (a9 = -1 ∧ b9 = -1) ∧ a9 = -1)))))) := by
  refine mt_X5_answer rfl (fun J hC => ?_)
  have ro_nn : cw_ro K nn := hI.2.1.2.1
  have ro_dn : cw_ro K dn := hI.2.1.2.2.1
  have hu1 := hI.2.1
  unfold cw_W at hu1
  have rg_x1 := pm_rng x1
  refine hC.1 0 0 _ _ rfl _ _ _ _ _ ?_
  refine Exists.intro _ (And.intro (cw_o9 hI.1) ?_)
  have km1 : (-1 : Int32).toInt = -1 := rfl
  refine Exists.intro _ (Exists.intro _ (And.intro (cw_a37 hI.1) (And.intro (by omega) ?_)))
  rw [cw_s37 hI.1]
  obtain ⟨e2, ee2⟩ : ∃ z9, z9 = va_up e 37 (upd (e 37) (x1).toInt.toNat (-1 : Int32)) := ⟨_, rfl⟩
  rw [← ee2]
  have hI2 : cw_I K nn dn q w e2 := ⟨hI.1, hI.2.1, hI.2.2.1, by rw [ee2]; exact cw_E_up hI.2.2.2 _ _ (fun h9 _ => absurd h9 (by decide)) (fun h9 _ => absurd h9 (by decide))⟩
  have hx2 : e2 15 = e 15 := (show e2 15 = e 15 by rw [ee2]; exact if_neg (by omega)).trans rfl
  have pe_6 := ee2
  refine Exists.intro _ (And.intro (cw_o9 hI2.1) ?_)
  refine Exists.intro _ (Exists.intro _ (And.intro (cw_a38 hI2.1) (And.intro (by omega) ?_)))
  rw [cw_s38 hI2.1]
  obtain ⟨e3, ee3⟩ : ∃ z9, z9 = va_up e2 38 (upd (e2 38) (x1).toInt.toNat (-1 : Int32)) := ⟨_, rfl⟩
  rw [← ee3]
  have hI3 : cw_I K nn dn q w e3 := ⟨hI2.1, hI2.2.1, hI2.2.2.1, by rw [ee3]; exact cw_E_up hI2.2.2.2 _ _ (fun h9 _ => absurd h9 (by decide)) (fun h9 _ => absurd h9 (by decide))⟩
  have hx3 : e3 15 = e 15 := (show e3 15 = e2 15 by rw [ee3]; exact if_neg (by omega)).trans hx2
  have pe_13 := ee3
  have k0 : (0 : Int32).toInt = 0 := rfl
  exact ⟨rfl, fun _ => (by decide), rfl, w, e3, v, f, rfl, hI3, hs, hx3, Or.inr ⟨rfl, by first | omega | (dsimp only; omega) | trivial, by exact ⟨rfl, fun i9 h9 h8 => (by rw [pe_13, va_un h8, pe_6, va_un h9]), -1, -1, (by rw [pe_13, va_un (by decide), pe_6, va_us]), (by rw [pe_13, va_us, pe_6, va_un (by decide)]), ⟨rfl, rfl⟩, rfl⟩⟩⟩

end
end
section
section
variable {l : Launch} {g : pm_G} {A0 : pm_H} {K nn dn : Nat} {q : Nat → Nat} {w : Nat → Int32} {e : Nat → Nat → Int32} {v : Nat → Int32} {f : Nat → Nat → Int32}
set_option maxRecDepth 100000 in
set_option maxHeartbeats 2000000 in
theorem V_X10_solve (hI : cw_I K nn dn q w e) (hs : cw_S v f)   : pm_Mt l g 161 4 0 0 [.ref (q 0)] (cw A0 g K nn dn q w e v f) (cw_Qt A0 g K nn dn q (fun r w2 e2 => e2 15 = e 15 ∧ (∃ x : Int32, r = some (.int x) ∧ (((w2 0).toInt = (w 0).toInt ∧ (w2 1).toInt = (w 1).toInt ∧ (w2 2).toInt = (w 2).toInt ∧ (w2 3).toInt = (w 3).toInt) ∧ ((∀ i9, 40 ≤ i9 → w2 i9 = w i9 ∧ e2 i9 = e i9) ∧ (w2 3 = w 3 ∧ w2 2 = w 2 ∧ e2 35 = e 35 ∧ e2 36 = e 36 ∧ e2 39 = e 39) ∧ (∀ j9 : Nat, (j9 : Int) < (w 3).toInt → AKI (e (nn + 1)) (e (nn + 2)) (e 15) (w nn).toInt (w 0).toInt (cN w) (cC e) (cM e) (e 39 j9) (e 35 j9) (e 36 j9) (e2 37 j9) (e2 38 j9)) ∧ x.toInt = cnA (e2 37) (w 3).toInt.toNat))))) := by
  refine mt_X10_solve rfl (fun J hC => ?_)
  have ro_nn : cw_ro K nn := hI.2.1.2.1
  have ro_dn : cw_ro K dn := hI.2.1.2.2.1
  have hu1 := hI.2.1
  unfold cw_W at hu1
  refine hC.1 0 0 _ _ rfl _ _ _ _ _ ?_
  have k0 : (0 : Int32).toInt = 0 := rfl
  have lp3 : ∀ (n : Nat) (z1_4 : Int32) (z2_4 : Int32) (w2 : Nat → Int32) (e2 : Nat → Nat → Int32) (v2 : Nat → Int32) (f2 : Nat → Nat → Int32), cw_I K nn dn q w2 e2 → e2 15 = e 15 → cw_S v2 f2 → (0 ≤ z2_4.toInt ∧ z2_4.toInt ≤ (w 3).toInt) → (w2 = w ∧ ∀ i9, i9 ≠ 37 → i9 ≠ 38 → e2 i9 = e i9) → (0 ≤ z1_4.toInt ∧ z1_4.toInt ≤ z2_4.toInt ∧ z1_4.toInt = cnA (e2 37) z2_4.toInt.toNat) → (∀ j9 : Nat, (j9 : Int) < z2_4.toInt → AKI (e (nn + 1)) (e (nn + 2)) (e 15) (w nn).toInt (w 0).toInt (cN w) (cC e) (cM e) (e 39 j9) (e 35 j9) (e 36 j9) (e2 37 j9) (e2 38 j9)) → (w2 0).toInt = (w 0).toInt → (w2 1).toInt = (w 1).toInt → (w2 2).toInt = (w 2).toInt → (w2 3).toInt = (w 3).toInt → 200 - z2_4.toInt < (n : Int) → J 4 [some (.ref (q 0)), some (.int z1_4), some (.int z2_4), none, none] [] (cw A0 g K nn dn q w2 e2 v2 f2) 0 0 := by
    intro n
    induction n with
    | zero =>
      intro z1_4 z2_4 w2 e2 v2 f2 hI2 hx2 hs2 j0_4 j1_4 j2_4 j3_4 j4_4 j5_4 j6_4 j7_4 j8_4
      omega
    | succ n ih4 =>
      intro z1_4 z2_4 w2 e2 v2 f2 hI2 hx2 hs2 j0_4 j1_4 j2_4 j3_4 j4_4 j5_4 j6_4 j7_4 j8_4
      have en_9 := j1_4.2
      have ew_9 := j1_4.1
      have nn_9 := ro_nn
      unfold cw_ro at nn_9
      have e39_9 : e2 39 = e 39 := en_9 39 (by decide) (by decide)
      have e35_9 : e2 35 = e 35 := en_9 35 (by decide) (by decide)
      have e36_9 : e2 36 = e 36 := en_9 36 (by decide) (by decide)
      have e15_9 : e2 15 = e 15 := en_9 15 (by decide) (by decide)
      have hu5 := hI2.2.1
      unfold cw_W at hu5
      refine hC.1 1 4 _ _ rfl _ _ _ _ _ ?_
      refine Exists.intro _ (And.intro (cw_o0 hI2.1) ?_)
      refine Exists.intro _ (And.intro (cw_o9 hI2.1) ?_)
      refine And.intro (fun c6 => ?_) (fun c6 => ?_)
      · skip
        refine hC.1 5 76 _ _ rfl _ _ _ _ _ ?_
        exact ⟨rfl, fun e9 => absurd e9 (by decide), rfl, w2, e2, v2, f2, rfl, hI2, hs2, hx2, z1_4, rfl, by first | omega | (dsimp only; omega) | trivial, by exact ⟨fun i9 h9 => ⟨by rw [ew_9], en_9 i9 (by omega) (by omega)⟩, ⟨by rw [ew_9], by rw [ew_9], e35_9, e36_9, e39_9⟩, fun j9 h9 => j3_4 j9 (by rw [← ew_9] at h9; omega), by rw [show (w 3).toInt.toNat = z2_4.toInt.toNat by (rw [← ew_9]; omega)]; exact j2_4.2.2⟩⟩
      · skip
        refine Exists.intro _ (And.intro (cw_o0 hI2.1) ?_)
        refine Exists.intro _ (And.intro (cw_o9 hI2.1) ?_)
        refine Exists.intro _ (Exists.intro _ (And.intro (Or.inl (cw_a39 hI2.1)) (And.intro (by omega) ?_)))
        have km1 : (-1 : Int32).toInt = -1 := rfl
        refine And.intro (fun c7 => ?_) (fun c7 => ?_)
        · skip
          have dc7 := pm_neI c7
          refine hC.1 2 40 _ _ rfl _ _ _ _ _ ?_
          refine Exists.intro _ (And.intro (cw_o0 hI2.1) ?_)
          refine And.intro (Exists.intro _ (cw_o1 hI2.1)) (Exists.intro _ (Exists.intro _ (Exists.intro _ (Exists.intro _ (And.intro (F_X9_behind hI2 hs2 (e2 39 (z2_4).toInt.toNat) ) (And.intro rfl (fun r9 A9 h9 => ?_)))))))
          rcases h9 with ⟨rfl, ⟨rfl, hn9⟩ | ⟨o9, rfl, ho9, hn9, he9⟩⟩
          · skip
            have kn_45 := hn9
            unfold kno at hn9
            have yk_9 : ∀ x9 y9 : Int32, x9 = -1 ∧ y9 = -1 → AKI (e (nn + 1)) (e (nn + 2)) (e 15) (w nn).toInt (w 0).toInt (cN w) (cC e) (cM e) (e 39 z2_4.toInt.toNat) (e 35 z2_4.toInt.toNat) (e 36 z2_4.toInt.toNat) x9 y9 := fun x9 y9 h9 => Or.inr (Or.inr ⟨(by rw [← e39_9]; omega), (by rw [← e39_9, ← ew_9]; exact kn_45), h9.1, h9.2⟩)
            refine hC.1 3 48 _ _ rfl _ _ _ _ _ ?_
            refine Exists.intro _ (And.intro (cw_o0 hI2.1) ?_)
            refine Exists.intro _ (And.intro (cw_o0 hI2.1) ?_)
            refine And.intro (Exists.intro _ (cw_o9 hI2.1)) (Exists.intro _ (Exists.intro _ (Exists.intro _ (Exists.intro _ (And.intro (V_X5_answer__n hI2 hs2 z2_4 (by omega)) (And.intro rfl (fun r9 A9 h9 => ?_)))))))
            rcases h9 with ⟨w11, e11, v11, f11, rfl, hI11, hs11, hy11, hzy10⟩
            have hx11 : e11 15 = e 15 := hy11.trans hx2
            rcases hzy10 with ⟨rfl, by10⟩ | ⟨rfl, by10⟩
            · skip
              have k1 : (1 : Int32).toInt = 1 := rfl
              have hb_61 := by10.2
              obtain ⟨a8_9, b8_9, g1_9, g2_9, g3_9, g4_9⟩ := hb_61.2.2
              have hc_9 := cnA_1 g1_9 g4_9
              refine And.intro (fun c9 => absurd c9 (by decide)) (fun _ => ?_)
              intro m12 em_67
              try have e12 : m12.toInt = (z1_4).toInt + (1) := by rw [em_67]; exact pm_addc _ _ (1) rfl (by omega) (by omega)
              refine hC.1 4 70 _ _ rfl _ _ _ _ _ ?_
              intro m13 em_70
              try have e13 : m13.toInt = (z2_4).toInt + (1) := by rw [em_70]; exact pm_addc _ _ (1) rfl (by omega) (by omega)
              exact hC.2 [false, false, false, true, true] _ _ _ _ _ _ (ih4 m12 m13 w11 e11 v11 f11 hI11 hx11 hs11 (by omega) (by exact ⟨hb_61.1.trans ew_9, fun i9 h9 h8 => (hb_61.2.1 i9 h9 h8).trans (en_9 i9 h9 h8)⟩) (by refine ⟨by omega, by omega, ?_⟩; rw [show m13.toInt.toNat = z2_4.toInt.toNat + 1 by omega, hc_9]; omega) (by intro j9 h9; by_cases h8 : j9 = z2_4.toInt.toNat; (subst h8; rw [g1_9, g2_9, pk_us, pk_us]; exact yk_9 _ _ g3_9); (rw [g1_9, g2_9, pk_un h8, pk_un h8]; exact j3_4 j9 (by omega))) (by omega) (by omega) (by omega) (by omega) (by omega))
            · skip
              have hb_61 := by10.2
              obtain ⟨a8_9, b8_9, g1_9, g2_9, g3_9, g4_9⟩ := hb_61.2.2
              have hc_9 := cnA_0 g1_9 g4_9
              refine And.intro (fun _ => ?_) (fun c9 => absurd c9 (by decide))
              refine hC.1 4 70 _ _ rfl _ _ _ _ _ ?_
              have k1 : (1 : Int32).toInt = 1 := rfl
              intro m14 em_70
              try have e14 : m14.toInt = (z2_4).toInt + (1) := by rw [em_70]; exact pm_addc _ _ (1) rfl (by omega) (by omega)
              exact hC.2 [false, false, false, true, true] _ _ _ _ _ _ (ih4 z1_4 m14 w11 e11 v11 f11 hI11 hx11 hs11 (by omega) (by exact ⟨hb_61.1.trans ew_9, fun i9 h9 h8 => (hb_61.2.1 i9 h9 h8).trans (en_9 i9 h9 h8)⟩) (by refine ⟨by omega, by omega, ?_⟩; rw [show m14.toInt.toNat = z2_4.toInt.toNat + 1 by omega, hc_9]; omega) (by intro j9 h9; by_cases h8 : j9 = z2_4.toInt.toNat; (subst h8; rw [g1_9, g2_9, pk_us, pk_us]; exact yk_9 _ _ g3_9); (rw [g1_9, g2_9, pk_un h8, pk_un h8]; exact j3_4 j9 (by omega))) (by omega) (by omega) (by omega) (by omega) (by omega))
          · skip
            have kn_45 := hn9
            have ke_45 := he9
            have ko_45 : ∀ z9 : Nat, (z9 : Int) = 40 + 4 * (((e2 39 (z2_4).toInt.toNat)).toInt % 41) → z9 = o9 := fun z9 h9 => (by omega)
            unfold kno at hn9
            have yo_9 := ko_45 (cro ((e 39 z2_4.toInt.toNat).toInt)) (by rw [← e39_9]; exact cro_i kn_45.1)
            have oo_9 := ho9
            unfold cw_ro at oo_9
            have yk_9 : ∀ x9 y9 : Int32, ANR (e2 (o9 + 1)) (e2 (o9 + 2)) (e2 15) (w2 o9).toInt (e2 35 z2_4.toInt.toNat) (e2 36 z2_4.toInt.toNat) x9 y9 → AKI (e (nn + 1)) (e (nn + 2)) (e 15) (w nn).toInt (w 0).toInt (cN w) (cC e) (cM e) (e 39 z2_4.toInt.toNat) (e 35 z2_4.toInt.toNat) (e 36 z2_4.toInt.toNat) x9 y9 := fun x9 y9 h9 => AKI_row (by rw [← e39_9]; omega) (by rw [← e39_9, ← ew_9]; exact kn_45) yo_9 (ANR_e h9 (en_9 _ (by omega) (by omega)) (en_9 _ (by omega) (by omega)) e15_9 (by rw [ew_9]) (by rw [e35_9]) (by rw [e36_9]))
            refine hC.1 3 48 _ _ rfl _ _ _ _ _ ?_
            refine Exists.intro _ (And.intro (cw_o0 hI2.1) ?_)
            refine Exists.intro _ (And.intro (cw_o0 hI2.1) ?_)
            refine And.intro (Exists.intro _ (cw_o9 hI2.1)) (Exists.intro _ (Exists.intro _ (Exists.intro _ (Exists.intro _ (And.intro (V_X5_answer hI2 hs2 z2_4 ho9 (by omega)) (And.intro rfl (fun r9 A9 h9 => ?_)))))))
            rcases h9 with ⟨w16, e16, v16, f16, rfl, hI16, hs16, hy16, hzy15⟩
            have hx16 : e16 15 = e 15 := hy16.trans hx2
            rcases hzy15 with ⟨rfl, by15⟩ | ⟨rfl, by15⟩
            · skip
              have k1 : (1 : Int32).toInt = 1 := rfl
              have hb_61 := by15.2
              obtain ⟨a8_9, b8_9, g1_9, g2_9, g3_9, g4_9⟩ := hb_61.2.2
              have hc_9 := cnA_1 g1_9 g4_9
              refine And.intro (fun c9 => absurd c9 (by decide)) (fun _ => ?_)
              intro m17 em_67
              try have e17 : m17.toInt = (z1_4).toInt + (1) := by rw [em_67]; exact pm_addc _ _ (1) rfl (by omega) (by omega)
              refine hC.1 4 70 _ _ rfl _ _ _ _ _ ?_
              intro m18 em_70
              try have e18 : m18.toInt = (z2_4).toInt + (1) := by rw [em_70]; exact pm_addc _ _ (1) rfl (by omega) (by omega)
              exact hC.2 [false, false, false, true, true] _ _ _ _ _ _ (ih4 m17 m18 w16 e16 v16 f16 hI16 hx16 hs16 (by omega) (by exact ⟨hb_61.1.trans ew_9, fun i9 h9 h8 => (hb_61.2.1 i9 h9 h8).trans (en_9 i9 h9 h8)⟩) (by refine ⟨by omega, by omega, ?_⟩; rw [show m18.toInt.toNat = z2_4.toInt.toNat + 1 by omega, hc_9]; omega) (by intro j9 h9; by_cases h8 : j9 = z2_4.toInt.toNat; (subst h8; rw [g1_9, g2_9, pk_us, pk_us]; exact yk_9 _ _ g3_9); (rw [g1_9, g2_9, pk_un h8, pk_un h8]; exact j3_4 j9 (by omega))) (by omega) (by omega) (by omega) (by omega) (by omega))
            · skip
              have hb_61 := by15.2
              obtain ⟨a8_9, b8_9, g1_9, g2_9, g3_9, g4_9⟩ := hb_61.2.2
              have hc_9 := cnA_0 g1_9 g4_9
              refine And.intro (fun _ => ?_) (fun c9 => absurd c9 (by decide))
              refine hC.1 4 70 _ _ rfl _ _ _ _ _ ?_
              have k1 : (1 : Int32).toInt = 1 := rfl
              intro m19 em_70
              try have e19 : m19.toInt = (z2_4).toInt + (1) := by rw [em_70]; exact pm_addc _ _ (1) rfl (by omega) (by omega)
              exact hC.2 [false, false, false, true, true] _ _ _ _ _ _ (ih4 z1_4 m19 w16 e16 v16 f16 hI16 hx16 hs16 (by omega) (by exact ⟨hb_61.1.trans ew_9, fun i9 h9 h8 => (hb_61.2.1 i9 h9 h8).trans (en_9 i9 h9 h8)⟩) (by refine ⟨by omega, by omega, ?_⟩; rw [show m19.toInt.toNat = z2_4.toInt.toNat + 1 by omega, hc_9]; omega) (by intro j9 h9; by_cases h8 : j9 = z2_4.toInt.toNat; (subst h8; rw [g1_9, g2_9, pk_us, pk_us]; exact yk_9 _ _ g3_9); (rw [g1_9, g2_9, pk_un h8, pk_un h8]; exact j3_4 j9 (by omega))) (by omega) (by omega) (by omega) (by omega) (by omega))
        · skip
          have dc7 : ((e2 39 (z2_4).toInt.toNat)).toInt = ((-1 : Int32) : Int32).toInt := congrArg Int32.toInt c7
          have yk_9 : ∀ x9 y9 : Int32, ANR (e2 (nn + 1)) (e2 (nn + 2)) (e2 15) (w2 nn).toInt (e2 35 z2_4.toInt.toNat) (e2 36 z2_4.toInt.toNat) x9 y9 → AKI (e (nn + 1)) (e (nn + 2)) (e 15) (w nn).toInt (w 0).toInt (cN w) (cC e) (cM e) (e 39 z2_4.toInt.toNat) (e 35 z2_4.toInt.toNat) (e 36 z2_4.toInt.toNat) x9 y9 := fun x9 y9 h9 => Or.inl ⟨(by rw [← e39_9]; omega), ANR_e h9 (en_9 _ (by omega) (by omega)) (en_9 _ (by omega) (by omega)) e15_9 (by rw [ew_9]) (by rw [e35_9]) (by rw [e36_9])⟩
          refine Exists.intro _ (And.intro (cw_o0 hI2.1) ?_)
          refine Exists.intro _ (And.intro (cw_o1 hI2.1) ?_)
          refine hC.1 3 48 _ _ rfl _ _ _ _ _ ?_
          refine Exists.intro _ (And.intro (cw_o0 hI2.1) ?_)
          refine Exists.intro _ (And.intro (cw_o0 hI2.1) ?_)
          refine And.intro (Exists.intro _ (cw_o9 hI2.1)) (Exists.intro _ (Exists.intro _ (Exists.intro _ (Exists.intro _ (And.intro (V_X5_answer hI2 hs2 z2_4 ro_nn (by omega)) (And.intro rfl (fun r9 A9 h9 => ?_)))))))
          rcases h9 with ⟨w21, e21, v21, f21, rfl, hI21, hs21, hy21, hzy20⟩
          have hx21 : e21 15 = e 15 := hy21.trans hx2
          rcases hzy20 with ⟨rfl, by20⟩ | ⟨rfl, by20⟩
          · skip
            have k1 : (1 : Int32).toInt = 1 := rfl
            have hb_61 := by20.2
            obtain ⟨a8_9, b8_9, g1_9, g2_9, g3_9, g4_9⟩ := hb_61.2.2
            have hc_9 := cnA_1 g1_9 g4_9
            refine And.intro (fun c9 => absurd c9 (by decide)) (fun _ => ?_)
            intro m22 em_67
            try have e22 : m22.toInt = (z1_4).toInt + (1) := by rw [em_67]; exact pm_addc _ _ (1) rfl (by omega) (by omega)
            refine hC.1 4 70 _ _ rfl _ _ _ _ _ ?_
            intro m23 em_70
            try have e23 : m23.toInt = (z2_4).toInt + (1) := by rw [em_70]; exact pm_addc _ _ (1) rfl (by omega) (by omega)
            exact hC.2 [false, false, false, true, true] _ _ _ _ _ _ (ih4 m22 m23 w21 e21 v21 f21 hI21 hx21 hs21 (by omega) (by exact ⟨hb_61.1.trans ew_9, fun i9 h9 h8 => (hb_61.2.1 i9 h9 h8).trans (en_9 i9 h9 h8)⟩) (by refine ⟨by omega, by omega, ?_⟩; rw [show m23.toInt.toNat = z2_4.toInt.toNat + 1 by omega, hc_9]; omega) (by intro j9 h9; by_cases h8 : j9 = z2_4.toInt.toNat; (subst h8; rw [g1_9, g2_9, pk_us, pk_us]; exact yk_9 _ _ g3_9); (rw [g1_9, g2_9, pk_un h8, pk_un h8]; exact j3_4 j9 (by omega))) (by omega) (by omega) (by omega) (by omega) (by omega))
          · skip
            have hb_61 := by20.2
            obtain ⟨a8_9, b8_9, g1_9, g2_9, g3_9, g4_9⟩ := hb_61.2.2
            have hc_9 := cnA_0 g1_9 g4_9
            refine And.intro (fun _ => ?_) (fun c9 => absurd c9 (by decide))
            refine hC.1 4 70 _ _ rfl _ _ _ _ _ ?_
            have k1 : (1 : Int32).toInt = 1 := rfl
            intro m24 em_70
            try have e24 : m24.toInt = (z2_4).toInt + (1) := by rw [em_70]; exact pm_addc _ _ (1) rfl (by omega) (by omega)
            exact hC.2 [false, false, false, true, true] _ _ _ _ _ _ (ih4 z1_4 m24 w21 e21 v21 f21 hI21 hx21 hs21 (by omega) (by exact ⟨hb_61.1.trans ew_9, fun i9 h9 h8 => (hb_61.2.1 i9 h9 h8).trans (en_9 i9 h9 h8)⟩) (by refine ⟨by omega, by omega, ?_⟩; rw [show m24.toInt.toNat = z2_4.toInt.toNat + 1 by omega, hc_9]; omega) (by intro j9 h9; by_cases h8 : j9 = z2_4.toInt.toNat; (subst h8; rw [g1_9, g2_9, pk_us, pk_us]; exact yk_9 _ _ g3_9); (rw [g1_9, g2_9, pk_un h8, pk_un h8]; exact j3_4 j9 (by omega))) (by omega) (by omega) (by omega) (by omega) (by omega))
  exact lp3 (200 - (0 : Int32).toInt).toNat.succ (0 : Int32) (0 : Int32) w e v f hI rfl hs (by omega) (by exact ⟨rfl, fun _ _ _ => rfl⟩) (by exact ⟨by omega, by omega, rfl⟩) (by intro j9 h9; omega) (by omega) (by omega) (by omega) (by omega) (by omega)

set_option maxRecDepth 100000 in
set_option maxHeartbeats 2000000 in
theorem V_X10_about (hI : cw_I K nn dn q w e) (hs : cw_S v f) (x1 : Int32)  : pm_Mt l g 53 4 0 0 [.ref (q 0), .int x1] (cw A0 g K nn dn q w e v f) (cw_Qs A0 g K nn dn q w e (fun r v2 f2 => ∃ x : Int32, r = some (.int x) ∧ ((True) ∧ (x.toInt = ABT (w nn) (w 1) (w 0) (w 2) (w 3) (e (nn + 1)) x1.toInt)))) := by
  refine mt_X10_about rfl (fun J hC => ?_)
  have ro_nn : cw_ro K nn := hI.2.1.2.1
  have ro_dn : cw_ro K dn := hI.2.1.2.2.1
  have hu1 := hI.2.1
  unfold cw_W at hu1
  have rg_x1 := pm_rng x1
  have zz0 := cw_sz hI ro_nn
  refine hC.1 0 0 _ _ rfl _ _ _ _ _ ?_
  refine pm_swc 6 rfl (by decide) ?_ ?_
  · intro _
    refine hC.1 7 108 _ _ rfl _ _ _ _ _ ?_
    have km1 : (-1 : Int32).toInt = -1 := rfl
    exact ⟨rfl, fun e9 => absurd e9 (by decide), rfl, v, f, rfl, hs, (-1 : Int32), rfl, by exact True.intro, by exact (ABT_d (by omega)).symm⟩
  · intro i9 hi9 he9
    rcases (show i9 = 0 ∨ i9 = 1 ∨ i9 = 2 ∨ i9 = 3 ∨ i9 = 4 ∨ i9 = 5 by omega) with rfl | rfl | rfl | rfl | rfl | rfl
    · skip
      refine hC.1 1 40 _ _ rfl _ _ _ _ _ ?_
      refine Exists.intro _ (And.intro (cw_o0 hI.1) ?_)
      refine Exists.intro _ (And.intro (cw_o1 hI.1) ?_)
      refine Exists.intro _ (And.intro (cw_ro_o hI.1 ro_nn) ?_)
      have z4 := cw_sz hI ro_nn
      exact ⟨rfl, fun e9 => absurd e9 (by decide), rfl, v, f, rfl, hs, (w nn), rfl, by exact True.intro, by exact (ABT_0 (by omega)).symm⟩
    · skip
      refine hC.1 2 51 _ _ rfl _ _ _ _ _ ?_
      refine Exists.intro _ (And.intro (cw_o0 hI.1) ?_)
      refine Exists.intro _ (And.intro (cw_o1 hI.1) ?_)
      have k0 : (0 : Int32).toInt = 0 := rfl
      refine Exists.intro _ (And.intro (cw_o0 hI.1) ?_)
      refine Exists.intro _ (And.intro (cw_o1 hI.1) ?_)
      refine Exists.intro _ (And.intro (cw_ro_o hI.1 ro_nn) ?_)
      have z5 := cw_sz hI ro_nn
      have k1 : (1 : Int32).toInt = 1 := rfl
      intro m6 em_71
      try have e6 : m6.toInt = ((w nn)).toInt - (1) := by rw [em_71]; exact pm_subc _ _ (1) rfl (by omega) (by omega)
      refine And.intro (Exists.intro _ (cw_o0 hI.1)) (Exists.intro _ (Exists.intro _ (Exists.intro _ (Exists.intro _ (And.intro (F_X10_colourNumber hI hs ro_nn (0 : Int32) m6 (by omega)) (And.intro rfl (fun r9 A9 h9 => ?_)))))))
      rcases h9 with ⟨v8, f8, rfl, hs8, y7, rfl, by7⟩
      have yf_9 := by7.2
      exact ⟨rfl, fun e9 => absurd e9 (by decide), rfl, v8, f8, rfl, hs8, y7, rfl, by exact True.intro, by exact ABT_k (by omega) yf_9 (by omega) (by omega)⟩
    · skip
      refine hC.1 3 76 _ _ rfl _ _ _ _ _ ?_
      refine Exists.intro _ (And.intro (cw_o0 hI.1) ?_)
      refine Exists.intro _ (And.intro (cw_o1 hI.1) ?_)
      exact ⟨rfl, fun e9 => absurd e9 (by decide), rfl, v, f, rfl, hs, (w 1), rfl, by exact True.intro, by exact (ABT_2 (by omega)).symm⟩
    · skip
      refine hC.1 4 84 _ _ rfl _ _ _ _ _ ?_
      refine Exists.intro _ (And.intro (cw_o0 hI.1) ?_)
      refine Exists.intro _ (And.intro (cw_o1 hI.1) ?_)
      exact ⟨rfl, fun e9 => absurd e9 (by decide), rfl, v, f, rfl, hs, (w 0), rfl, by exact True.intro, by exact (ABT_3 (by omega)).symm⟩
    · skip
      refine hC.1 5 92 _ _ rfl _ _ _ _ _ ?_
      refine Exists.intro _ (And.intro (cw_o0 hI.1) ?_)
      refine Exists.intro _ (And.intro (cw_o1 hI.1) ?_)
      exact ⟨rfl, fun e9 => absurd e9 (by decide), rfl, v, f, rfl, hs, (w 2), rfl, by exact True.intro, by exact (ABT_4 (by omega)).symm⟩
    · skip
      refine hC.1 6 100 _ _ rfl _ _ _ _ _ ?_
      refine Exists.intro _ (And.intro (cw_o0 hI.1) ?_)
      refine Exists.intro _ (And.intro (cw_o9 hI.1) ?_)
      exact ⟨rfl, fun e9 => absurd e9 (by decide), rfl, v, f, rfl, hs, (w 3), rfl, by exact True.intro, by exact (ABT_5 (by omega)).symm⟩

set_option maxRecDepth 100000 in
set_option maxHeartbeats 2000000 in
theorem V_X5_tell (hI : cw_I K nn dn q w e) (hs : cw_S v f) (x1 : Int32) (x2 : Int32)  : pm_Mt l g 164 0 0 0 [.ref (q 9), .int x1, .int x2] (cw A0 g K nn dn q w e v f) (md_Qp (cw A0 g K nn dn q w e v f) (fun r => r = ASD (w 3).toInt x1.toInt x2.toInt (e 35) (e 36) (e 37) (e 38) (e 39))) := by
  refine mt_X5_tell rfl (fun J hC => ?_)
  have ro_nn : cw_ro K nn := hI.2.1.2.1
  have ro_dn : cw_ro K dn := hI.2.1.2.2.1
  have hu1 := hI.2.1
  unfold cw_W at hu1
  have rg_x1 := pm_rng x1
  have rg_x2 := pm_rng x2
  refine hC.1 0 0 _ _ rfl _ _ _ _ _ ?_
  refine And.intro (fun c2 => ?_) (fun c2 => ?_)
  · skip
    refine hC.1 1 12 _ _ rfl _ _ _ _ _ ?_
    have km1 : (-1 : Int32).toInt = -1 := rfl
    exact ⟨rfl, fun e9 => absurd e9 (by decide), rfl, (-1 : Int32), rfl, rfl, by first | (exact (ASD_n (by omega)).symm) | (exact (ASD_0 (by omega) (by omega)).symm) | (exact (ASD_1 (by omega) (by omega)).symm) | (exact (ASD_2 (by omega) (by omega)).symm) | (exact (ASD_3 (by omega) (by omega)).symm) | (exact (ASD_4 (by omega) (by omega)).symm) | (exact (ASD_d (by omega)).symm)⟩
  · skip
    refine Exists.intro _ (And.intro (cw_o9 hI.1) ?_)
    refine And.intro (fun c3 => ?_) (fun c3 => ?_)
    · skip
      refine hC.1 2 14 _ _ rfl _ _ _ _ _ ?_
      refine pm_swc 5 rfl (by decide) ?_ ?_
      · intro _
        refine hC.1 8 83 _ _ rfl _ _ _ _ _ ?_
        have km1 : (-1 : Int32).toInt = -1 := rfl
        exact ⟨rfl, fun e9 => absurd e9 (by decide), rfl, (-1 : Int32), rfl, rfl, by first | (exact (ASD_n (by omega)).symm) | (exact (ASD_0 (by omega) (by omega)).symm) | (exact (ASD_1 (by omega) (by omega)).symm) | (exact (ASD_2 (by omega) (by omega)).symm) | (exact (ASD_3 (by omega) (by omega)).symm) | (exact (ASD_4 (by omega) (by omega)).symm) | (exact (ASD_d (by omega)).symm)⟩
      · intro i9 hi9 he9
        rcases (show i9 = 0 ∨ i9 = 1 ∨ i9 = 2 ∨ i9 = 3 ∨ i9 = 4 by omega) with rfl | rfl | rfl | rfl | rfl
        · skip
          refine hC.1 3 48 _ _ rfl _ _ _ _ _ ?_
          refine Exists.intro _ (And.intro (cw_o9 hI.1) ?_)
          refine Exists.intro _ (Exists.intro _ (And.intro (Or.inl (cw_a37 hI.1)) (And.intro (by omega) ?_)))
          exact ⟨rfl, fun e9 => absurd e9 (by decide), rfl, (e 37 (x1).toInt.toNat), rfl, rfl, by first | (exact (ASD_n (by omega)).symm) | (exact (ASD_0 (by omega) (by omega)).symm) | (exact (ASD_1 (by omega) (by omega)).symm) | (exact (ASD_2 (by omega) (by omega)).symm) | (exact (ASD_3 (by omega) (by omega)).symm) | (exact (ASD_4 (by omega) (by omega)).symm) | (exact (ASD_d (by omega)).symm)⟩
        · skip
          refine hC.1 4 55 _ _ rfl _ _ _ _ _ ?_
          refine Exists.intro _ (And.intro (cw_o9 hI.1) ?_)
          refine Exists.intro _ (Exists.intro _ (And.intro (Or.inl (cw_a38 hI.1)) (And.intro (by omega) ?_)))
          exact ⟨rfl, fun e9 => absurd e9 (by decide), rfl, (e 38 (x1).toInt.toNat), rfl, rfl, by first | (exact (ASD_n (by omega)).symm) | (exact (ASD_0 (by omega) (by omega)).symm) | (exact (ASD_1 (by omega) (by omega)).symm) | (exact (ASD_2 (by omega) (by omega)).symm) | (exact (ASD_3 (by omega) (by omega)).symm) | (exact (ASD_4 (by omega) (by omega)).symm) | (exact (ASD_d (by omega)).symm)⟩
        · skip
          refine hC.1 5 62 _ _ rfl _ _ _ _ _ ?_
          refine Exists.intro _ (And.intro (cw_o9 hI.1) ?_)
          refine Exists.intro _ (Exists.intro _ (And.intro (Or.inl (cw_a35 hI.1)) (And.intro (by omega) ?_)))
          exact ⟨rfl, fun e9 => absurd e9 (by decide), rfl, (e 35 (x1).toInt.toNat), rfl, rfl, by first | (exact (ASD_n (by omega)).symm) | (exact (ASD_0 (by omega) (by omega)).symm) | (exact (ASD_1 (by omega) (by omega)).symm) | (exact (ASD_2 (by omega) (by omega)).symm) | (exact (ASD_3 (by omega) (by omega)).symm) | (exact (ASD_4 (by omega) (by omega)).symm) | (exact (ASD_d (by omega)).symm)⟩
        · skip
          refine hC.1 6 69 _ _ rfl _ _ _ _ _ ?_
          refine Exists.intro _ (And.intro (cw_o9 hI.1) ?_)
          refine Exists.intro _ (Exists.intro _ (And.intro (Or.inl (cw_a36 hI.1)) (And.intro (by omega) ?_)))
          exact ⟨rfl, fun e9 => absurd e9 (by decide), rfl, (e 36 (x1).toInt.toNat), rfl, rfl, by first | (exact (ASD_n (by omega)).symm) | (exact (ASD_0 (by omega) (by omega)).symm) | (exact (ASD_1 (by omega) (by omega)).symm) | (exact (ASD_2 (by omega) (by omega)).symm) | (exact (ASD_3 (by omega) (by omega)).symm) | (exact (ASD_4 (by omega) (by omega)).symm) | (exact (ASD_d (by omega)).symm)⟩
        · skip
          refine hC.1 7 76 _ _ rfl _ _ _ _ _ ?_
          refine Exists.intro _ (And.intro (cw_o9 hI.1) ?_)
          refine Exists.intro _ (Exists.intro _ (And.intro (Or.inl (cw_a39 hI.1)) (And.intro (by omega) ?_)))
          exact ⟨rfl, fun e9 => absurd e9 (by decide), rfl, (e 39 (x1).toInt.toNat), rfl, rfl, by first | (exact (ASD_n (by omega)).symm) | (exact (ASD_0 (by omega) (by omega)).symm) | (exact (ASD_1 (by omega) (by omega)).symm) | (exact (ASD_2 (by omega) (by omega)).symm) | (exact (ASD_3 (by omega) (by omega)).symm) | (exact (ASD_4 (by omega) (by omega)).symm) | (exact (ASD_d (by omega)).symm)⟩
    · skip
      refine hC.1 1 12 _ _ rfl _ _ _ _ _ ?_
      have km1 : (-1 : Int32).toInt = -1 := rfl
      exact ⟨rfl, fun e9 => absurd e9 (by decide), rfl, (-1 : Int32), rfl, rfl, by first | (exact (ASD_n (by omega)).symm) | (exact (ASD_0 (by omega) (by omega)).symm) | (exact (ASD_1 (by omega) (by omega)).symm) | (exact (ASD_2 (by omega) (by omega)).symm) | (exact (ASD_3 (by omega) (by omega)).symm) | (exact (ASD_4 (by omega) (by omega)).symm) | (exact (ASD_d (by omega)).symm)⟩

set_option maxRecDepth 100000 in
set_option maxHeartbeats 2000000 in
theorem V_X10_asked (hI : cw_I K nn dn q w e) (hs : cw_S v f) (x1 : Int32) (x2 : Int32)  : pm_Mt l g 163 1 0 0 [.ref (q 0), .int x1, .int x2] (cw A0 g K nn dn q w e v f) (md_Qp (cw A0 g K nn dn q w e v f) (fun r => r = ASD (w 3).toInt x1.toInt x2.toInt (e 35) (e 36) (e 37) (e 38) (e 39))) := by
  refine mt_X10_asked rfl (fun J hC => ?_)
  have ro_nn : cw_ro K nn := hI.2.1.2.1
  have ro_dn : cw_ro K dn := hI.2.1.2.2.1
  have hu1 := hI.2.1
  unfold cw_W at hu1
  have rg_x1 := pm_rng x1
  have rg_x2 := pm_rng x2
  refine hC.1 0 0 _ _ rfl _ _ _ _ _ ?_
  refine Exists.intro _ (And.intro (cw_o0 hI.1) ?_)
  refine And.intro (Exists.intro _ (cw_o9 hI.1)) (Exists.intro _ (Exists.intro _ (Exists.intro _ (Exists.intro _ (And.intro (V_X5_tell hI hs x1 x2 ) (And.intro rfl (fun r9 A9 h9 => ?_)))))))
  obtain ⟨y2, rfl, rfl, by2⟩ := h9
  exact ⟨rfl, fun e9 => absurd e9 (by decide), rfl, y2, rfl, rfl, by assumption⟩

end
end
