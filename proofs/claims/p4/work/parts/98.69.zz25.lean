section
variable {l : Launch} {g : pm_G} {A0 : pm_H} {K nn dn : Nat} {q : Nat → Nat} {w : Nat → Int32} {e : Nat → Nat → Int32} {v : Nat → Int32} {f : Nat → Nat → Int32}
set_option maxRecDepth 100000 in
set_option maxHeartbeats 2000000 in
theorem H_X10_insert_l5 (hI : cw_I K nn dn q w e) (hs : cw_S v f) (x1 : Int32) (x2 : Int32) (p0 : (w 0).toInt < 100000) : pm_Mt l g 25 4 4 485 [.ref (q 0), .int x1, .int x2] (cw A0 g K nn dn q w e v f) (cw_Qb A0 g K nn q (fun r K2 nn2 dn2 w2 e2 => e2 15 = e 15 ∧ (∃ x : Int32, r = some (.int x) ∧ (((w2 0).toInt ≤ (w 0).toInt + 1 ∧ (w 0).toInt ≤ (w2 0).toInt) ∧ (∀ L, rp (w nn) (e (nn + 1)) (e (nn + 2)) L → (nn : Int) = 40 + 4 * ((w 0).toInt % 41) → rp (w2 nn2) (e2 (nn2 + 1)) (e2 (nn2 + 2)) ((ed_insert L (w 1) x1 x2).getD L) ∧ (w2 0).toInt = (w 0).toInt + edn (ed_insert L (w 1) x1 x2) ∧ (w2 1).toInt = (w 1).toInt + edn (ed_insert L (w 1) x1 x2) * (1) ∧ (nn2 : Int) = 40 + 4 * ((w2 0).toInt % 41) ∧ (bd (w nn) (e (nn + 1)) (e (nn + 3)) → bd (w2 nn2) (e2 (nn2 + 1)) (e2 (nn2 + 3)))))))) := by
  refine mt_X10_insert rfl (fun J hC => ?_)
  have ro_nn : cw_ro K nn := hI.2.1.2.1
  have ro_dn : cw_ro K dn := hI.2.1.2.2.1
  have hu1 := hI.2.1
  unfold cw_W at hu1
  replace hu1 := And.intro hu1.1 (And.intro (And.intro hu1.2.1.1 hu1.2.1.2.1) (And.intro (And.intro hu1.2.2.1.1 hu1.2.2.1.2.1) (And.intro hu1.2.2.2.1 (And.intro hu1.2.2.2.2.2.1 hu1.2.2.2.2.2.2))))
  have zs2 := cw_sz hI ro_nn
  have zs3 := cw_sz hI ro_dn
  have rg_x1 := pm_rng x1
  have rg_x2 := pm_rng x2
  refine hC.1 0 0 _ _ rfl _ _ _ _ _ ?_
  refine Exists.intro _ (And.intro (cw_o0 hI.1) ?_)
  refine Exists.intro _ (And.intro (cw_o1 hI.1) ?_)
  refine And.intro (Exists.intro _ (cw_ro_o hI.1 ro_nn)) (Exists.intro _ (Exists.intro _ (Exists.intro _ (Exists.intro _ (And.intro (c_X7_isGap hI hs ro_nn x1 ) (And.intro rfl (fun r9 A9 h9 => ?_)))))))
  rcases h9 with ⟨y4, rfl, rfl, ⟨rfl, by4⟩ | ⟨rfl, by4⟩⟩
  · skip
    have k1 : (1 : Int32).toInt = 1 := rfl
    refine And.intro (fun c9 => absurd c9 (by decide)) (fun _ => ?_)
    refine Exists.intro _ (Exists.intro _ (Exists.intro _ (Exists.intro _ (And.intro (c_X10_isColour (cw A0 g K nn dn q w e v f) x2 ) (And.intro rfl (fun r9 A9 h9 => ?_))))))
    rcases h9 with ⟨y6, rfl, rfl, ⟨rfl, by6⟩ | ⟨rfl, by6⟩⟩
    · skip
      refine And.intro (fun c9 => absurd c9 (by decide)) (fun _ => ?_)
      refine Exists.intro _ (And.intro (cw_o0 hI.1) ?_)
      refine And.intro (Exists.intro _ (cw_o1 hI.1)) (Exists.intro _ (Exists.intro _ (Exists.intro _ (Exists.intro _ (And.intro (c_X9_hasRoomFor hI hs (1 : Int32) (by omega)) (And.intro rfl (fun r9 A9 h9 => ?_)))))))
      rcases h9 with ⟨y8, rfl, rfl, ⟨rfl, by8⟩ | ⟨rfl, by8⟩⟩
      · skip
        refine And.intro (fun _ => ?_) (fun c9 => absurd c9 (by decide))
        refine hC.1 2 36 _ _ rfl _ _ _ _ _ ?_
        refine Exists.intro _ (And.intro (cw_o0 hI.1) ?_)
        refine And.intro (Exists.intro _ (cw_o1 hI.1)) (Exists.intro _ (Exists.intro _ (Exists.intro _ (Exists.intro _ (And.intro (F_X9_begin hI hs  (by omega)) (And.intro rfl (fun r9 A9 h9 => ?_)))))))
        obtain ⟨K11, dn11, q11, w11, e11, rfl, rfl, hI11, hX11, hk11, hw11, hy11, hdn11, hfm11, hz11⟩ := h9
        have hq11_0 : q 0 = q11 0 := (hX11.2.1 0 (by omega)).symm
        have hq11_nn : q nn = q11 nn := (hX11.2.1 nn (by omega)).symm
        rw [hq11_0, hq11_nn]
        have hw11_0 := congrArg Int32.toInt hw11.1
        have hw11_1 := congrArg Int32.toInt hw11.2.1
        have hw11_3 := congrArg Int32.toInt hw11.2.2.2
        have ro11 : cw_ro K11 dn11 := hI11.2.1.2.2.1
        have rn11 : cw_ro K11 nn := hI11.2.1.2.1
        have hx11 : e11 15 = e 15 := hy11.trans rfl
        have hu12 := hI11.2.1
        unfold cw_W at hu12
        replace hu12 := And.intro hu12.1 (And.intro (And.intro hu12.2.1.1 hu12.2.1.2.1) (And.intro (And.intro hu12.2.2.1.1 hu12.2.2.1.2.1) (And.intro hu12.2.2.2.1 (And.intro hu12.2.2.2.2.2.1 hu12.2.2.2.2.2.2))))
        have zs13 := cw_sz hI11 rn11
        have zs14 := cw_sz hI11 ro11
        have hz9 := hz11
        have hL11 : ∀ L, rp (w nn) (e (nn + 1)) (e (nn + 2)) L → (nn : Int) = 40 + 4 * ((w 0).toInt % 41) → nn ≠ dn11 ∧ rp (w11 nn) (e11 (nn + 1)) (e11 (nn + 2)) L := hL_b ro_nn ro11 hdn11 hfm11
        refine Exists.intro _ (And.intro (cw_o0 hI11.1) ?_)
        have k0 : (0 : Int32).toInt = 0 := rfl
        intro m15 em_50
        try have e15 : m15.toInt = (x1).toInt - (1) := by rw [em_50]; exact pm_subc _ _ (1) rfl (by omega) (by omega)
        have hp_51 := hL11
        refine And.intro (Exists.intro _ (cw_o1 hI11.1)) (Exists.intro _ (Exists.intro _ (Exists.intro _ (Exists.intro _ (And.intro (F_X9_keep hI11 hs (0 : Int32) m15 ) (And.intro rfl (fun r9 A9 h9 => ?_)))))))
        rcases h9 with ⟨w17, e17, v17, f17, rfl, hI17, hs17, hy17, rfl, by16⟩
        have hx17 : e17 15 = e 15 := hy17.trans hx11
        have zs18 := cw_sz hI17 rn11
        have zs19 := cw_sz hI17 ro11
        have hb_51 := by16.2
        have hL17 : ∀ L, rp (w nn) (e (nn + 1)) (e (nn + 2)) L → (nn : Int) = 40 + 4 * ((w 0).toInt % 41) → nn ≠ dn11 ∧ rp (w17 nn) (e17 (nn + 1)) (e17 (nn + 2)) L := hL_k hL11 rn11 ro11 hb_51.1
        have sw17_0 : (w17 0).toInt = (w 0).toInt := by16.1.1.trans hw11_0
        have sw17_1 : (w17 1).toInt = (w 1).toInt := by16.1.2.1.trans hw11_1
        have sw17_3 : (w17 3).toInt = (w 3).toInt := by16.1.2.2.trans hw11_3
        clear by16
        refine Exists.intro _ (And.intro (cw_o0 hI17.1) ?_)
        have wn9 : w17 1 = w 1 := pm_eqI (by omega)
        have hp_59 := hL17
        refine And.intro (Exists.intro _ (cw_o1 hI17.1)) (Exists.intro _ (Exists.intro _ (Exists.intro _ (Exists.intro _ (And.intro (F_X9_add hI17 hs17 x2 (by omega) (by omega)) (And.intro rfl (fun r9 A9 h9 => ?_)))))))
        rcases h9 with ⟨w21, e21, v21, f21, rfl, hI21, hs21, hy21, rfl, by20⟩
        have hx21 : e21 15 = e 15 := hy21.trans hx17
        have hu22 := hI21.2.1.2.2.2.2.2.1
        clear zs18 zs19
        have zs23 := cw_sz hI21 rn11
        have zs24 := cw_sz hI21 ro11
        have hb_59 := by20.2
        have hL21 : ∀ L, rp (w nn) (e (nn + 1)) (e (nn + 2)) L → (nn : Int) = 40 + 4 * ((w 0).toInt % 41) → nn ≠ dn11 ∧ rp (w21 nn) (e21 (nn + 1)) (e21 (nn + 2)) L := hL_k hL17 rn11 ro11 hb_59.1
        have sw21_0 : (w21 0).toInt = (w 0).toInt := by20.1.1.trans sw17_0
        have sw21_3 : (w21 3).toInt = (w 3).toInt := by20.1.2.1.trans sw17_3
        have sp21 := by20.1.2.2
        clear by20 sw17_0 sw17_3
        refine Exists.intro _ (And.intro (cw_o0 hI21.1) ?_)
        refine Exists.intro _ (And.intro (cw_ro_o hI21.1 rn11) ?_)
        have z25 := cw_sz hI21 rn11
        intro m26 em_72
        try have e26 : m26.toInt = ((w21 nn)).toInt - (1) := by rw [em_72]; exact pm_subc _ _ (1) rfl (by omega) (by omega)
        have hp_73 := hL21
        refine And.intro (Exists.intro _ (cw_o1 hI21.1)) (Exists.intro _ (Exists.intro _ (Exists.intro _ (Exists.intro _ (And.intro (F_X9_keep hI21 hs21 x1 m26 ) (And.intro rfl (fun r9 A9 h9 => ?_)))))))
        rcases h9 with ⟨w28, e28, v28, f28, rfl, hI28, hs28, hy28, rfl, by27⟩
        have hx28 : e28 15 = e 15 := hy28.trans hx21
        clear zs23 zs24
        have zs29 := cw_sz hI28 rn11
        have zs30 := cw_sz hI28 ro11
        have hb_73 := by27.2
        have hL28 : ∀ L, rp (w nn) (e (nn + 1)) (e (nn + 2)) L → (nn : Int) = 40 + 4 * ((w 0).toInt % 41) → nn ≠ dn11 ∧ rp (w28 nn) (e28 (nn + 1)) (e28 (nn + 2)) L := hL_k hL21 rn11 ro11 hb_73.1
        have sw28_0 : (w28 0).toInt = (w 0).toInt := by27.1.1.trans sw21_0
        have sw28_1 : (w28 1).toInt = (w21 1).toInt := by27.1.2.1
        have sw28_3 : (w28 3).toInt = (w 3).toInt := by27.1.2.2.trans sw21_3
        clear by27 sw21_0 sw21_3
        refine Exists.intro _ (And.intro (cw_o0 hI28.1) ?_)
        have hp_80 := hL28
        refine And.intro (Exists.intro _ (cw_o1 hI28.1)) (Exists.intro _ (Exists.intro _ (Exists.intro _ (Exists.intro _ (And.intro (G_X9_finish hI28 hs28  (by omega) (by omega)) (And.intro rfl (fun r9 A9 h9 => ?_)))))))
        rcases h9 with ⟨w32, e32, v32, f32, rfl, hI32, hs32, hy32, y31, rfl, by31⟩
        have hx32 : e32 15 = e 15 := hy32.trans hx28
        have hu33 := hI32.2.1.2.2.2.1
        have hu34 := hI32.2.1.2.2.2.2.1
        clear zs29 zs30
        have zs35 := cw_sz hI32 ro11
        have zs36 := cw_sz hI32 ro11
        have hb_80 := by31.2
        have sw32_1 : (w32 1).toInt = (w21 1).toInt := by31.1.1.trans sw28_1
        have sw32_3 : (w32 3).toInt = (w 3).toInt := by31.1.2.1.trans sw28_3
        have sp32 := by31.1.2.2
        clear by31 sw28_1 sw28_3
        exact ⟨rfl, fun e9 => absurd e9 (by decide), rfl, K11, dn11, dn11, q11, w32, e32, v32, f32, rfl, hI32, hs32, hX11, hx32, y31, rfl, by first | omega | (dsimp only; omega) | trivial, by intro L hL hN; have hl := hL.1; rw [ed_insert, if_pos (by omega)]; have q1 := hp_51 L hL hN; have z1 := q1.2.1; have t1 := hb_51.2 L ([]) (0) (x1.toInt) q1.2 q1.1 (by omega) (by omega) (by omega) (by omega) (by omega) (by first | omega | (simp only [List.length_append, List.length_nil, List.length_cons, List.length_map, List.length_reverse, nw_len, dr_len]; omega)) (rp_0 hz9); have k1 := si_len (L := L) (a := 0) (b := x1.toInt) (by omega) (by omega) (by omega); rw [List.nil_append] at t1; have t2 := hb_59.2 _ t1 (by first | omega | (simp only [List.length_append, List.length_nil, List.length_cons, List.length_map, List.length_reverse, nw_len, dr_len]; omega)); rw [wn9] at t2; have q3 := hp_73 L hL hN; have z3 := q3.2.1; have t3 := hb_73.2 L (_) (x1.toInt) (L.length) q3.2 q3.1 (by omega) (by omega) (by omega) (by omega) (by omega) (by first | omega | (simp only [List.length_append, List.length_nil, List.length_cons, List.length_map, List.length_reverse, nw_len, dr_len]; omega)) t2; have k3 := si_len (L := L) (a := x1.toInt) (b := L.length) (by omega) (by omega) (by omega); exact ⟨hb_80.2.1 _ t3, by show _ = _ + (1 : Int); omega, by show _ = _ + (1 : Int) * _; omega, by omega, fun _ => hb_80.2.2⟩⟩
      · skip
        have k0 : (0 : Int32).toInt = 0 := rfl
        refine And.intro (fun c9 => absurd c9 (by decide)) (fun _ => ?_)
        refine hC.1 1 34 _ _ rfl _ _ _ _ _ ?_
        have km1 : (-1 : Int32).toInt = -1 := rfl
        exact ⟨rfl, fun e9 => absurd e9 (by decide), rfl, K, nn, dn, q, w, e, v, f, rfl, hI, hs, cw_X_r, rfl, (-1 : Int32), rfl, by first | omega | (dsimp only; omega) | trivial, by intro L hL hN; have hl := hL.1; rw [ed_insert, if_neg (by omega)]; exact ⟨hL, by show _ = _ + (0 : Int); omega, by show _ = _ + (0 : Int) * _; omega, hN, fun h8 => h8⟩⟩
    · skip
      have k0 : (0 : Int32).toInt = 0 := rfl
      refine And.intro (fun _ => ?_) (fun c9 => absurd c9 (by decide))
      refine hC.1 1 34 _ _ rfl _ _ _ _ _ ?_
      have km1 : (-1 : Int32).toInt = -1 := rfl
      exact ⟨rfl, fun e9 => absurd e9 (by decide), rfl, K, nn, dn, q, w, e, v, f, rfl, hI, hs, cw_X_r, rfl, (-1 : Int32), rfl, by first | omega | (dsimp only; omega) | trivial, by intro L hL hN; have hl := hL.1; rw [ed_insert, if_neg (by omega)]; exact ⟨hL, by show _ = _ + (0 : Int); omega, by show _ = _ + (0 : Int) * _; omega, hN, fun h8 => h8⟩⟩
  · skip
    have k0 : (0 : Int32).toInt = 0 := rfl
    refine And.intro (fun _ => ?_) (fun c9 => absurd c9 (by decide))
    refine hC.1 1 34 _ _ rfl _ _ _ _ _ ?_
    have km1 : (-1 : Int32).toInt = -1 := rfl
    exact ⟨rfl, fun e9 => absurd e9 (by decide), rfl, K, nn, dn, q, w, e, v, f, rfl, hI, hs, cw_X_r, rfl, (-1 : Int32), rfl, by first | omega | (dsimp only; omega) | trivial, by intro L hL hN; have hl := hL.1; rw [ed_insert, if_neg (by omega)]; exact ⟨hL, by show _ = _ + (0 : Int); omega, by show _ = _ + (0 : Int) * _; omega, hN, fun h8 => h8⟩⟩
end
