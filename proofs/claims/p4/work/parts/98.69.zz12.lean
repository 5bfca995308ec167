section
variable {l : Launch} {g : pm_G} {A0 : pm_H} {K nn dn : Nat} {q : Nat → Nat} {w : Nat → Int32} {e : Nat → Nat → Int32} {v : Nat → Int32} {f : Nat → Nat → Int32}
set_option maxRecDepth 100000 in
set_option maxHeartbeats 2000000 in
theorem H_X10_copy_l5 (hI : cw_I K nn dn q w e) (hs : cw_S v f) (x1 : Int32) (x2 : Int32) (x3 : Int32) (p0 : (w 0).toInt < 100000) : pm_Mt l g 36 4 4 485 [.ref (q 0), .int x1, .int x2, .int x3] (cw A0 g K nn dn q w e v f) (cw_Qb A0 g K nn q (fun r K2 nn2 dn2 w2 e2 => e2 15 = e 15 ∧ (∃ x : Int32, r = some (.int x) ∧ (((w2 0).toInt ≤ (w 0).toInt + 1 ∧ (w 0).toInt ≤ (w2 0).toInt) ∧ (∀ L, rp (w nn) (e (nn + 1)) (e (nn + 2)) L → (nn : Int) = 40 + 4 * ((w 0).toInt % 41) → rp (w2 nn2) (e2 (nn2 + 1)) (e2 (nn2 + 2)) ((ed_copy L (w 1) x1 x2 x3).getD L) ∧ (w2 0).toInt = (w 0).toInt + edn (ed_copy L (w 1) x1 x2 x3) ∧ (w2 1).toInt = (w 1).toInt + edn (ed_copy L (w 1) x1 x2 x3) * (x2.toInt - x1.toInt + 1) ∧ (nn2 : Int) = 40 + 4 * ((w2 0).toInt % 41) ∧ (bd (w nn) (e (nn + 1)) (e (nn + 3)) → bd (w2 nn2) (e2 (nn2 + 1)) (e2 (nn2 + 3)))))))) := by
  refine mt_X10_copy rfl (fun J hC => ?_)
  have ro_nn : cw_ro K nn := hI.2.1.2.1
  have ro_dn : cw_ro K dn := hI.2.1.2.2.1
  have hu1 := hI.2.1
  unfold cw_W at hu1
  replace hu1 := And.intro hu1.1 (And.intro (And.intro hu1.2.1.1 hu1.2.1.2.1) (And.intro (And.intro hu1.2.2.1.1 hu1.2.2.1.2.1) (And.intro hu1.2.2.2.1 (And.intro hu1.2.2.2.2.2.1 hu1.2.2.2.2.2.2))))
  have zs2 := cw_sz hI ro_nn
  have zs3 := cw_sz hI ro_dn
  have rg_x1 := pm_rng x1
  have rg_x2 := pm_rng x2
  have rg_x3 := pm_rng x3
  refine hC.1 0 0 _ _ rfl _ _ _ _ _ ?_
  refine Exists.intro _ (And.intro (cw_o0 hI.1) ?_)
  refine Exists.intro _ (And.intro (cw_o1 hI.1) ?_)
  refine And.intro (Exists.intro _ (cw_ro_o hI.1 ro_nn)) (Exists.intro _ (Exists.intro _ (Exists.intro _ (Exists.intro _ (And.intro (c_X7_isSpan hI hs ro_nn x1 x2 ) (And.intro rfl (fun r9 A9 h9 => ?_)))))))
  rcases h9 with ⟨y4, rfl, rfl, ⟨rfl, by4⟩ | ⟨rfl, by4⟩⟩
  · skip
    have k1 : (1 : Int32).toInt = 1 := rfl
    refine And.intro (fun c9 => absurd c9 (by decide)) (fun _ => ?_)
    refine And.intro (Exists.intro _ (cw_ro_o hI.1 ro_nn)) (Exists.intro _ (Exists.intro _ (Exists.intro _ (Exists.intro _ (And.intro (c_X7_isGap hI hs ro_nn x3 ) (And.intro rfl (fun r9 A9 h9 => ?_)))))))
    rcases h9 with ⟨y6, rfl, rfl, ⟨rfl, by6⟩ | ⟨rfl, by6⟩⟩
    · skip
      refine And.intro (fun c9 => absurd c9 (by decide)) (fun _ => ?_)
      refine Exists.intro _ (And.intro (cw_o0 hI.1) ?_)
      intro m8 em_34
      try have e8 : m8.toInt = (x2).toInt - (x1).toInt := by rw [em_34]; exact pm_sub _ _ (by omega) (by omega)
      intro m9 em_36
      try have e9 : m9.toInt = (m8).toInt + (1) := by rw [em_36]; exact pm_addc _ _ (1) rfl (by omega) (by omega)
      refine And.intro (Exists.intro _ (cw_o1 hI.1)) (Exists.intro _ (Exists.intro _ (Exists.intro _ (Exists.intro _ (And.intro (c_X9_hasRoomFor hI hs m9 (by omega)) (And.intro rfl (fun r9 A9 h9 => ?_)))))))
      rcases h9 with ⟨y10, rfl, rfl, ⟨rfl, by10⟩ | ⟨rfl, by10⟩⟩
      · skip
        refine And.intro (fun _ => ?_) (fun c9 => absurd c9 (by decide))
        refine hC.1 2 45 _ _ rfl _ _ _ _ _ ?_
        refine Exists.intro _ (And.intro (cw_o0 hI.1) ?_)
        refine And.intro (Exists.intro _ (cw_o1 hI.1)) (Exists.intro _ (Exists.intro _ (Exists.intro _ (Exists.intro _ (And.intro (F_X9_begin hI hs  (by omega)) (And.intro rfl (fun r9 A9 h9 => ?_)))))))
        obtain ⟨K13, dn13, q13, w13, e13, rfl, rfl, hI13, hX13, hk13, hw13, hy13, hdn13, hfm13, hz13⟩ := h9
        have hq13_0 : q 0 = q13 0 := (hX13.2.1 0 (by omega)).symm
        have hq13_nn : q nn = q13 nn := (hX13.2.1 nn (by omega)).symm
        rw [hq13_0, hq13_nn]
        have hw13_0 := congrArg Int32.toInt hw13.1
        have hw13_1 := congrArg Int32.toInt hw13.2.1
        have hw13_3 := congrArg Int32.toInt hw13.2.2.2
        have ro13 : cw_ro K13 dn13 := hI13.2.1.2.2.1
        have rn13 : cw_ro K13 nn := hI13.2.1.2.1
        have hx13 : e13 15 = e 15 := hy13.trans rfl
        have hu14 := hI13.2.1
        unfold cw_W at hu14
        replace hu14 := And.intro hu14.1 (And.intro (And.intro hu14.2.1.1 hu14.2.1.2.1) (And.intro (And.intro hu14.2.2.1.1 hu14.2.2.1.2.1) (And.intro hu14.2.2.2.1 (And.intro hu14.2.2.2.2.2.1 hu14.2.2.2.2.2.2))))
        have zs15 := cw_sz hI13 rn13
        have zs16 := cw_sz hI13 ro13
        have hz9 := hz13
        have hL13 : ∀ L, rp (w nn) (e (nn + 1)) (e (nn + 2)) L → (nn : Int) = 40 + 4 * ((w 0).toInt % 41) → nn ≠ dn13 ∧ rp (w13 nn) (e13 (nn + 1)) (e13 (nn + 2)) L := hL_b ro_nn ro13 hdn13 hfm13
        refine Exists.intro _ (And.intro (cw_o0 hI13.1) ?_)
        have k0 : (0 : Int32).toInt = 0 := rfl
        intro m17 em_59
        try have e17 : m17.toInt = (x3).toInt - (1) := by rw [em_59]; exact pm_subc _ _ (1) rfl (by omega) (by omega)
        have hp_60 := hL13
        refine And.intro (Exists.intro _ (cw_o1 hI13.1)) (Exists.intro _ (Exists.intro _ (Exists.intro _ (Exists.intro _ (And.intro (F_X9_keep hI13 hs (0 : Int32) m17 ) (And.intro rfl (fun r9 A9 h9 => ?_)))))))
        rcases h9 with ⟨w19, e19, v19, f19, rfl, hI19, hs19, hy19, rfl, by18⟩
        have hx19 : e19 15 = e 15 := hy19.trans hx13
        have zs20 := cw_sz hI19 rn13
        have zs21 := cw_sz hI19 ro13
        have hb_60 := by18.2
        have hL19 : ∀ L, rp (w nn) (e (nn + 1)) (e (nn + 2)) L → (nn : Int) = 40 + 4 * ((w 0).toInt % 41) → nn ≠ dn13 ∧ rp (w19 nn) (e19 (nn + 1)) (e19 (nn + 2)) L := hL_k hL13 rn13 ro13 hb_60.1
        have sw19_0 : (w19 0).toInt = (w 0).toInt := by18.1.1.trans hw13_0
        have sw19_1 : (w19 1).toInt = (w 1).toInt := by18.1.2.1.trans hw13_1
        have sw19_3 : (w19 3).toInt = (w 3).toInt := by18.1.2.2.trans hw13_3
        clear by18
        have lp23 : ∀ (n : Nat) (z5_66 : Int32) (w22 : Nat → Int32) (e22 : Nat → Nat → Int32) (v22 : Nat → Int32) (f22 : Nat → Nat → Int32), cw_I K13 nn dn13 q13 w22 e22 → e22 15 = e 15 → (∀ L, rp (w nn) (e (nn + 1)) (e (nn + 2)) L → (nn : Int) = 40 + 4 * ((w 0).toInt % 41) → nn ≠ dn13 ∧ rp (w22 nn) (e22 (nn + 1)) (e22 (nn + 2)) L) → cw_S v22 f22 → (x1.toInt ≤ z5_66.toInt ∧ z5_66.toInt ≤ x2.toInt + 1) → ((w22 1).toInt = (w 1).toInt + (z5_66.toInt - x1.toInt)) → (∀ L, rp (w nn) (e (nn + 1)) (e (nn + 2)) L → (nn : Int) = 40 + 4 * ((w 0).toInt % 41) → rp (w22 dn13) (e22 (dn13 + 1)) (e22 (dn13 + 2)) (si L 0 x3.toInt ++ nw_l (w 1) ((si L x1.toInt z5_66.toInt).map Prod.fst))) → (w22 0).toInt = (w 0).toInt → (w22 3).toInt = (w 3).toInt → 200 - z5_66.toInt < (n : Int) → J 66 [some (.ref (q13 0)), some (.int x1), some (.int x2), some (.int x3), some (.ref (q13 nn)), some (.int z5_66)] [] (cw A0 g K13 nn dn13 q13 w22 e22 v22 f22) 4 485 := by
          intro n
          induction n with
          | zero =>
            intro z5_66 w22 e22 v22 f22 hI22 hx22 hL22 hs22 j0_66 j1_66 j2_66 j3_66 j4_66 j5_66
            clear hu14 zs15 zs16 zs20 zs21 sw19_0 sw19_1 sw19_3
            omega
          | succ n ih24 =>
            intro z5_66 w22 e22 v22 f22 hI22 hx22 hL22 hs22 j0_66 j1_66 j2_66 j3_66 j4_66 j5_66
            clear hu14 zs15 zs16 zs20 zs21 sw19_0 sw19_1 sw19_3
            obtain ⟨g66, eg66⟩ : ∃ z9, z9 = w22 1 := ⟨_, rfl⟩
            have hu25 := hI22.2.1
            unfold cw_W at hu25
            replace hu25 := And.intro hu25.1 (And.intro (And.intro hu25.2.1.1 hu25.2.1.2.1) (And.intro (And.intro hu25.2.2.1.1 hu25.2.2.1.2.1) (And.intro hu25.2.2.2.1 (And.intro hu25.2.2.2.2.2.1 hu25.2.2.2.2.2.2))))
            have zs26 := cw_sz hI22 rn13
            have zs27 := cw_sz hI22 ro13
            refine hC.1 3 66 _ _ rfl _ _ _ _ _ ?_
            refine And.intro (fun c28 => ?_) (fun c28 => ?_)
            · skip
              refine hC.1 4 93 _ _ rfl _ _ _ _ _ ?_
              refine Exists.intro _ (And.intro (cw_o0 hI22.1) ?_)
              refine Exists.intro _ (And.intro (cw_ro_o hI22.1 rn13) ?_)
              have z29 := cw_sz hI22 rn13
              intro m30 em_104
              try have e30 : m30.toInt = ((w22 nn)).toInt - (1) := by rw [em_104]; exact pm_subc _ _ (1) rfl (by omega) (by omega)
              have hp_105 := hL22
              refine And.intro (Exists.intro _ (cw_o1 hI22.1)) (Exists.intro _ (Exists.intro _ (Exists.intro _ (Exists.intro _ (And.intro (F_X9_keep hI22 hs22 x3 m30 ) (And.intro rfl (fun r9 A9 h9 => ?_)))))))
              rcases h9 with ⟨w32, e32, v32, f32, rfl, hI32, hs32, hy32, rfl, by31⟩
              have hx32 : e32 15 = e 15 := hy32.trans hx22
              have zs33 := cw_sz hI32 rn13
              have zs34 := cw_sz hI32 ro13
              have hb_105 := by31.2
              have hL32 : ∀ L, rp (w nn) (e (nn + 1)) (e (nn + 2)) L → (nn : Int) = 40 + 4 * ((w 0).toInt % 41) → nn ≠ dn13 ∧ rp (w32 nn) (e32 (nn + 1)) (e32 (nn + 2)) L := hL_k hL22 rn13 ro13 hb_105.1
              have sw32_0 : (w32 0).toInt = (w22 0).toInt := by31.1.1
              have sw32_1 : (w32 1).toInt = (w22 1).toInt := by31.1.2.1
              have sw32_3 : (w32 3).toInt = (w22 3).toInt := by31.1.2.2
              clear by31
              refine Exists.intro _ (And.intro (cw_o0 hI32.1) ?_)
              have hp_112 := hL32
              refine And.intro (Exists.intro _ (cw_o1 hI32.1)) (Exists.intro _ (Exists.intro _ (Exists.intro _ (Exists.intro _ (And.intro (G_X9_finish hI32 hs32  (by omega) (by omega)) (And.intro rfl (fun r9 A9 h9 => ?_)))))))
              rcases h9 with ⟨w36, e36, v36, f36, rfl, hI36, hs36, hy36, y35, rfl, by35⟩
              have hx36 : e36 15 = e 15 := hy36.trans hx32
              have hu37 := hI36.2.1.2.2.2.1
              have hu38 := hI36.2.1.2.2.2.2.1
              clear zs33 zs34
              have zs39 := cw_sz hI36 ro13
              have zs40 := cw_sz hI36 ro13
              have hb_112 := by35.2
              have sw36_1 : (w36 1).toInt = (w22 1).toInt := by35.1.1.trans sw32_1
              have sw36_3 : (w36 3).toInt = (w22 3).toInt := by35.1.2.1.trans sw32_3
              have sp36 := by35.1.2.2
              clear by35 sw32_1 sw32_3
              exact ⟨rfl, fun e9 => absurd e9 (by decide), rfl, K13, dn13, dn13, q13, w36, e36, v36, f36, rfl, hI36, hs36, hX13, hx36, y35, rfl, by first | omega | (dsimp only; omega) | trivial, by intro L hL hN; have hl := hL.1; rw [ed_copy, if_pos (by omega)]; have t2 := j2_66 L hL hN; rw [show z5_66.toInt = x2.toInt + 1 by omega] at t2; have s1 := si_len (L := L) (a := 0) (b := x3.toInt) (by omega) (by omega) (by omega); have s2 := si_len (L := L) (a := x1.toInt) (b := x2.toInt + 1) (by omega) (by omega) (by omega); have q3 := hp_105 L hL hN; have z3 := q3.2.1; have t3 := hb_105.2 L (_) (x3.toInt) (L.length) q3.2 q3.1 (by omega) (by omega) (by omega) (by omega) (by omega) (by first | omega | (simp only [List.length_append, List.length_nil, List.length_cons, List.length_map, List.length_reverse, nw_len, dr_len]; omega)) t2; have k3 := si_len (L := L) (a := x3.toInt) (b := L.length) (by omega) (by omega) (by omega); exact ⟨hb_112.2.1 _ t3, by show _ = _ + (1 : Int); omega, by show _ = _ + (1 : Int) * _; omega, by omega, fun _ => hb_112.2.2⟩⟩
            · skip
              refine Exists.intro _ (And.intro (cw_o0 hI22.1) ?_)
              refine Exists.intro _ (And.intro (cw_ro_o hI22.1 rn13) ?_)
              refine Exists.intro _ (Exists.intro _ (And.intro (Or.inl (cw_ro_1 hI22.1 rn13)) (And.intro (by omega) ?_)))
              have w41 := cw_col hI22 rn13 (z5_66).toInt.toNat
              have hp_84 := hL22
              refine And.intro (Exists.intro _ (cw_o1 hI22.1)) (Exists.intro _ (Exists.intro _ (Exists.intro _ (Exists.intro _ (And.intro (F_X9_add hI22 hs22 (e22 (nn + 1) (z5_66).toInt.toNat) (by omega) (by omega)) (And.intro rfl (fun r9 A9 h9 => ?_)))))))
              rcases h9 with ⟨w43, e43, v43, f43, rfl, hI43, hs43, hy43, rfl, by42⟩
              have hx43 : e43 15 = e 15 := hy43.trans hx22
              have hu44 := hI43.2.1.2.2.2.2.2.1
              have zs45 := cw_sz hI43 rn13
              have zs46 := cw_sz hI43 ro13
              have hb_84 := by42.2
              have hL43 : ∀ L, rp (w nn) (e (nn + 1)) (e (nn + 2)) L → (nn : Int) = 40 + 4 * ((w 0).toInt % 41) → nn ≠ dn13 ∧ rp (w43 nn) (e43 (nn + 1)) (e43 (nn + 2)) L := hL_k hL22 rn13 ro13 hb_84.1
              have sw43_0 : (w43 0).toInt = (w22 0).toInt := by42.1.1
              have sw43_3 : (w43 3).toInt = (w22 3).toInt := by42.1.2.1
              have sp43 := by42.1.2.2
              clear by42
              intro m47 em_87
              try have e47 : m47.toInt = (z5_66).toInt + (1) := by rw [em_87]; exact pm_addc _ _ (1) rfl (by omega) (by omega)
              exact ih24 m47 w43 e43 v43 f43 hI43 hx43 hL43 hs43 (by omega) (by omega) (by intro L hL hN; have hl := hL.1; have q2 := hp_84 L hL hN; have z2 := q2.2.1; have s2 := si_len (L := L) (a := 0) (b := x3.toInt) (by omega) (by omega) (by omega); have s3 := si_len (L := L) (a := x1.toInt) (b := z5_66.toInt) (by omega) (by omega) (by omega); have t2 := hb_84.2 _ (j2_66 L hL hN) (by first | omega | (simp only [List.length_append, List.length_nil, List.length_cons, List.length_map, List.length_reverse, nw_len, dr_len]; omega)); rw [← eg66] at t2; rw [show m47.toInt = z5_66.toInt + 1 by omega, si_s q2.2 (a := x1.toInt) (z := z5_66.toInt) (by omega) (by omega) (by omega), List.map_append, List.map_cons, List.map_nil, nw_app (g2 := g66) (by rw [eg66, List.length_map]; omega) (by rw [List.length_map]; omega), ← List.append_assoc]; exact t2) (by omega) (by omega) (by omega)
        exact lp23 (200 - x1.toInt).toNat.succ x1 w19 e19 v19 f19 hI19 hx19 hL19 hs19 (by omega) (by omega) (by intro L hL hN; have hl := hL.1; have q1 := hp_60 L hL hN; have z1 := q1.2.1; have t1 := hb_60.2 L ([]) (0) (x3.toInt) q1.2 q1.1 (by omega) (by omega) (by omega) (by omega) (by omega) (by first | omega | (simp only [List.length_append, List.length_nil, List.length_cons, List.length_map, List.length_reverse, nw_len, dr_len]; omega)) (rp_0 hz9); have k1 := si_len (L := L) (a := 0) (b := x3.toInt) (by omega) (by omega) (by omega); rw [List.nil_append] at t1; rw [si_n (L := L) (a := x1.toInt) (b := x1.toInt) (Int.le_refl _)]; show rp _ _ _ (_ ++ []); rw [List.append_nil]; exact t1) (by omega) (by omega) (by omega)
      · skip
        have k0 : (0 : Int32).toInt = 0 := rfl
        refine And.intro (fun c9 => absurd c9 (by decide)) (fun _ => ?_)
        refine hC.1 1 43 _ _ rfl _ _ _ _ _ ?_
        have km1 : (-1 : Int32).toInt = -1 := rfl
        exact ⟨rfl, fun e9 => absurd e9 (by decide), rfl, K, nn, dn, q, w, e, v, f, rfl, hI, hs, cw_X_r, rfl, (-1 : Int32), rfl, by first | omega | (dsimp only; omega) | trivial, by intro L hL hN; have hl := hL.1; rw [ed_copy, if_neg (by omega)]; exact ⟨hL, by show _ = _ + (0 : Int); omega, by show _ = _ + (0 : Int) * _; omega, hN, fun h8 => h8⟩⟩
    · skip
      have k0 : (0 : Int32).toInt = 0 := rfl
      refine And.intro (fun _ => ?_) (fun c9 => absurd c9 (by decide))
      refine hC.1 1 43 _ _ rfl _ _ _ _ _ ?_
      have km1 : (-1 : Int32).toInt = -1 := rfl
      exact ⟨rfl, fun e9 => absurd e9 (by decide), rfl, K, nn, dn, q, w, e, v, f, rfl, hI, hs, cw_X_r, rfl, (-1 : Int32), rfl, by first | omega | (dsimp only; omega) | trivial, by intro L hL hN; have hl := hL.1; rw [ed_copy, if_neg (by omega)]; exact ⟨hL, by show _ = _ + (0 : Int); omega, by show _ = _ + (0 : Int) * _; omega, hN, fun h8 => h8⟩⟩
  · skip
    have k0 : (0 : Int32).toInt = 0 := rfl
    refine And.intro (fun _ => ?_) (fun c9 => absurd c9 (by decide))
    refine hC.1 1 43 _ _ rfl _ _ _ _ _ ?_
    have km1 : (-1 : Int32).toInt = -1 := rfl
    exact ⟨rfl, fun e9 => absurd e9 (by decide), rfl, K, nn, dn, q, w, e, v, f, rfl, hI, hs, cw_X_r, rfl, (-1 : Int32), rfl, by first | omega | (dsimp only; omega) | trivial, by intro L hL hN; have hl := hL.1; rw [ed_copy, if_neg (by omega)]; exact ⟨hL, by show _ = _ + (0 : Int); omega, by show _ = _ + (0 : Int) * _; omega, hN, fun h8 => h8⟩⟩
end
