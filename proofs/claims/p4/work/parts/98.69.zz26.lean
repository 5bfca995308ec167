section
variable {l : Launch} {g : pm_G} {A0 : pm_H} {K nn dn : Nat} {q : Nat → Nat} {w : Nat → Int32} {e : Nat → Nat → Int32} {v : Nat → Int32} {f : Nat → Nat → Int32}
set_option maxRecDepth 100000 in
set_option maxHeartbeats 2000000 in
theorem H_X10_cut_l5 (hI : cw_I K nn dn q w e) (hs : cw_S v f) (x1 : Int32) (x2 : Int32) (p0 : (w 0).toInt < 100000) : pm_Mt l g 29 4 4 485 [.ref (q 0), .int x1, .int x2] (cw A0 g K nn dn q w e v f) (cw_Qb A0 g K nn q (fun r K2 nn2 dn2 w2 e2 => e2 15 = e 15 ∧ (∃ x : Int32, r = some (.int x) ∧ (((w2 0).toInt ≤ (w 0).toInt + 1 ∧ (w 0).toInt ≤ (w2 0).toInt) ∧ (∀ L, rp (w nn) (e (nn + 1)) (e (nn + 2)) L → (nn : Int) = 40 + 4 * ((w 0).toInt % 41) → rp (w2 nn2) (e2 (nn2 + 1)) (e2 (nn2 + 2)) ((ed_cut L x1 x2).getD L) ∧ (w2 0).toInt = (w 0).toInt + edn (ed_cut L x1 x2) ∧ (w2 1).toInt = (w 1).toInt + edn (ed_cut L x1 x2) * (0) ∧ (nn2 : Int) = 40 + 4 * ((w2 0).toInt % 41) ∧ (bd (w nn) (e (nn + 1)) (e (nn + 3)) → bd (w2 nn2) (e2 (nn2 + 1)) (e2 (nn2 + 3)))))))) := by
  refine mt_X10_cut rfl (fun J hC => ?_)
  have ro_nn : cw_ro K nn := hI.2.1.2.1
  have ro_dn : cw_ro K dn := hI.2.1.2.2.1
  have hu1 := hI.2.1
  unfold cw_W at hu1
  replace hu1 := And.intro hu1.1 (And.intro (And.intro hu1.2.1.1 hu1.2.1.2.1) (And.intro (And.intro hu1.2.2.1.1 hu1.2.2.1.2.1) (And.intro hu1.2.2.2.1 (And.intro hu1.2.2.2.2.2.1 hu1.2.2.2.2.2.2))))
  have zs2 := cw_sz hI ro_nn
  have zs3 := cw_sz hI ro_dn
  have rg_x1 := pm_rng x1
  have rg_x2 := pm_rng x2
  refine hC.1 0 0 _ _ rfl _ _ _ _ _ ?_
  refine Exists.intro _ (And.intro (cw_o0 hI.1) ?_)
  refine Exists.intro _ (And.intro (cw_o1 hI.1) ?_)
  refine And.intro (Exists.intro _ (cw_ro_o hI.1 ro_nn)) (Exists.intro _ (Exists.intro _ (Exists.intro _ (Exists.intro _ (And.intro (c_X7_isSpan hI hs ro_nn x1 x2 ) (And.intro rfl (fun r9 A9 h9 => ?_)))))))
  rcases h9 with ⟨y4, rfl, rfl, ⟨rfl, by4⟩ | ⟨rfl, by4⟩⟩
  · skip
    have k1 : (1 : Int32).toInt = 1 := rfl
    refine And.intro (fun _ => ?_) (fun c9 => absurd c9 (by decide))
    refine hC.1 1 19 _ _ rfl _ _ _ _ _ ?_
    refine Exists.intro _ (And.intro (cw_o0 hI.1) ?_)
    refine And.intro (Exists.intro _ (cw_o1 hI.1)) (Exists.intro _ (Exists.intro _ (Exists.intro _ (Exists.intro _ (And.intro (F_X9_begin hI hs  (by omega)) (And.intro rfl (fun r9 A9 h9 => ?_)))))))
    obtain ⟨K7, dn7, q7, w7, e7, rfl, rfl, hI7, hX7, hk7, hw7, hy7, hdn7, hfm7, hz7⟩ := h9
    have hq7_0 : q 0 = q7 0 := (hX7.2.1 0 (by omega)).symm
    have hq7_nn : q nn = q7 nn := (hX7.2.1 nn (by omega)).symm
    rw [hq7_0, hq7_nn]
    have hw7_0 := congrArg Int32.toInt hw7.1
    have hw7_1 := congrArg Int32.toInt hw7.2.1
    have hw7_3 := congrArg Int32.toInt hw7.2.2.2
    have ro7 : cw_ro K7 dn7 := hI7.2.1.2.2.1
    have rn7 : cw_ro K7 nn := hI7.2.1.2.1
    have hx7 : e7 15 = e 15 := hy7.trans rfl
    have hu8 := hI7.2.1
    unfold cw_W at hu8
    replace hu8 := And.intro hu8.1 (And.intro (And.intro hu8.2.1.1 hu8.2.1.2.1) (And.intro (And.intro hu8.2.2.1.1 hu8.2.2.1.2.1) (And.intro hu8.2.2.2.1 (And.intro hu8.2.2.2.2.2.1 hu8.2.2.2.2.2.2))))
    have zs9 := cw_sz hI7 rn7
    have zs10 := cw_sz hI7 ro7
    have hz9 := hz7
    have hL7 : ∀ L, rp (w nn) (e (nn + 1)) (e (nn + 2)) L → (nn : Int) = 40 + 4 * ((w 0).toInt % 41) → nn ≠ dn7 ∧ rp (w7 nn) (e7 (nn + 1)) (e7 (nn + 2)) L := hL_b ro_nn ro7 hdn7 hfm7
    refine Exists.intro _ (And.intro (cw_o0 hI7.1) ?_)
    have k0 : (0 : Int32).toInt = 0 := rfl
    intro m11 em_33
    try have e11 : m11.toInt = (x1).toInt - (1) := by rw [em_33]; exact pm_subc _ _ (1) rfl (by omega) (by omega)
    have hp_34 := hL7
    refine And.intro (Exists.intro _ (cw_o1 hI7.1)) (Exists.intro _ (Exists.intro _ (Exists.intro _ (Exists.intro _ (And.intro (F_X9_keep hI7 hs (0 : Int32) m11 ) (And.intro rfl (fun r9 A9 h9 => ?_)))))))
    rcases h9 with ⟨w13, e13, v13, f13, rfl, hI13, hs13, hy13, rfl, by12⟩
    have hx13 : e13 15 = e 15 := hy13.trans hx7
    have zs14 := cw_sz hI13 rn7
    have zs15 := cw_sz hI13 ro7
    have hb_34 := by12.2
    have hL13 : ∀ L, rp (w nn) (e (nn + 1)) (e (nn + 2)) L → (nn : Int) = 40 + 4 * ((w 0).toInt % 41) → nn ≠ dn7 ∧ rp (w13 nn) (e13 (nn + 1)) (e13 (nn + 2)) L := hL_k hL7 rn7 ro7 hb_34.1
    have sw13_0 : (w13 0).toInt = (w 0).toInt := by12.1.1.trans hw7_0
    have sw13_1 : (w13 1).toInt = (w 1).toInt := by12.1.2.1.trans hw7_1
    have sw13_3 : (w13 3).toInt = (w 3).toInt := by12.1.2.2.trans hw7_3
    clear by12
    refine Exists.intro _ (And.intro (cw_o0 hI13.1) ?_)
    intro m16 em_43
    try have e16 : m16.toInt = (x2).toInt + (1) := by rw [em_43]; exact pm_addc _ _ (1) rfl (by omega) (by omega)
    refine Exists.intro _ (And.intro (cw_ro_o hI13.1 rn7) ?_)
    have z17 := cw_sz hI13 rn7
    intro m18 em_49
    try have e18 : m18.toInt = ((w13 nn)).toInt - (1) := by rw [em_49]; exact pm_subc _ _ (1) rfl (by omega) (by omega)
    have hp_50 := hL13
    refine And.intro (Exists.intro _ (cw_o1 hI13.1)) (Exists.intro _ (Exists.intro _ (Exists.intro _ (Exists.intro _ (And.intro (F_X9_keep hI13 hs13 m16 m18 ) (And.intro rfl (fun r9 A9 h9 => ?_)))))))
    rcases h9 with ⟨w20, e20, v20, f20, rfl, hI20, hs20, hy20, rfl, by19⟩
    have hx20 : e20 15 = e 15 := hy20.trans hx13
    clear zs14 zs15
    have zs21 := cw_sz hI20 rn7
    have zs22 := cw_sz hI20 ro7
    have hb_50 := by19.2
    have hL20 : ∀ L, rp (w nn) (e (nn + 1)) (e (nn + 2)) L → (nn : Int) = 40 + 4 * ((w 0).toInt % 41) → nn ≠ dn7 ∧ rp (w20 nn) (e20 (nn + 1)) (e20 (nn + 2)) L := hL_k hL13 rn7 ro7 hb_50.1
    have sw20_0 : (w20 0).toInt = (w 0).toInt := by19.1.1.trans sw13_0
    have sw20_1 : (w20 1).toInt = (w 1).toInt := by19.1.2.1.trans sw13_1
    have sw20_3 : (w20 3).toInt = (w 3).toInt := by19.1.2.2.trans sw13_3
    clear by19 sw13_0 sw13_1 sw13_3
    refine Exists.intro _ (And.intro (cw_o0 hI20.1) ?_)
    have hp_57 := hL20
    refine And.intro (Exists.intro _ (cw_o1 hI20.1)) (Exists.intro _ (Exists.intro _ (Exists.intro _ (Exists.intro _ (And.intro (G_X9_finish hI20 hs20  (by omega) (by omega)) (And.intro rfl (fun r9 A9 h9 => ?_)))))))
    rcases h9 with ⟨w24, e24, v24, f24, rfl, hI24, hs24, hy24, y23, rfl, by23⟩
    have hx24 : e24 15 = e 15 := hy24.trans hx20
    have hu25 := hI24.2.1.2.2.2.1
    have hu26 := hI24.2.1.2.2.2.2.1
    clear zs21 zs22
    have zs27 := cw_sz hI24 ro7
    have zs28 := cw_sz hI24 ro7
    have hb_57 := by23.2
    have sw24_1 : (w24 1).toInt = (w 1).toInt := by23.1.1.trans sw20_1
    have sw24_3 : (w24 3).toInt = (w 3).toInt := by23.1.2.1.trans sw20_3
    have sp24 := by23.1.2.2
    clear by23 sw20_1 sw20_3
    exact ⟨rfl, fun e9 => absurd e9 (by decide), rfl, K7, dn7, dn7, q7, w24, e24, v24, f24, rfl, hI24, hs24, hX7, hx24, y23, rfl, by first | omega | (dsimp only; omega) | trivial, by intro L hL hN; have hl := hL.1; rw [ed_cut, if_pos (by omega)]; have q1 := hp_34 L hL hN; have z1 := q1.2.1; have t1 := hb_34.2 L ([]) (0) (x1.toInt) q1.2 q1.1 (by omega) (by omega) (by omega) (by omega) (by omega) (by first | omega | (simp only [List.length_append, List.length_nil, List.length_cons, List.length_map, List.length_reverse, nw_len, dr_len]; omega)) (rp_0 hz9); have k1 := si_len (L := L) (a := 0) (b := x1.toInt) (by omega) (by omega) (by omega); rw [List.nil_append] at t1; have q2 := hp_50 L hL hN; have z2 := q2.2.1; have t2 := hb_50.2 L (_) (x2.toInt + 1) (L.length) q2.2 q2.1 (by omega) (by omega) (by omega) (by omega) (by omega) (by first | omega | (simp only [List.length_append, List.length_nil, List.length_cons, List.length_map, List.length_reverse, nw_len, dr_len]; omega)) t1; have k2 := si_len (L := L) (a := x2.toInt + 1) (b := L.length) (by omega) (by omega) (by omega); exact ⟨hb_57.2.1 _ t2, by show _ = _ + (1 : Int); omega, by show _ = _ + (1 : Int) * _; omega, by omega, fun _ => hb_57.2.2⟩⟩
  · skip
    have k0 : (0 : Int32).toInt = 0 := rfl
    refine And.intro (fun c9 => absurd c9 (by decide)) (fun _ => ?_)
    have km1 : (-1 : Int32).toInt = -1 := rfl
    exact ⟨rfl, fun e9 => absurd e9 (by decide), rfl, K, nn, dn, q, w, e, v, f, rfl, hI, hs, cw_X_r, rfl, (-1 : Int32), rfl, by first | omega | (dsimp only; omega) | trivial, by intro L hL hN; have hl := hL.1; rw [ed_cut, if_neg (by omega)]; exact ⟨hL, by show _ = _ + (0 : Int); omega, by show _ = _ + (0 : Int) * _; omega, hN, fun h8 => h8⟩⟩
end
