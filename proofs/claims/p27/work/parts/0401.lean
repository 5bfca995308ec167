section
variable {l : Launch} {g : pm_G} {A0 : pm_H} {K nn dn : Nat} {q : Nat → Nat} {w : Nat → Int32} {e : Nat → Nat → Int32} {v : Nat → Int32} {f : Nat → Nat → Int32}
set_option maxRecDepth 100000 in
set_option maxHeartbeats 2000000 in
theorem H_X10_copy (hI : cw_I K nn dn q w e) (hs : cw_S v f) (x1 : Int32) (x2 : Int32) (x3 : Int32) (p0 : (w 0).toInt < 100000) : pm_Mt l g 36 4 4 485 [.ref (q 0), .int x1, .int x2, .int x3] (cw A0 g K nn dn q w e v f) (cw_Qb A0 g K nn q (fun r K2 nn2 dn2 w2 e2 => e2 15 = e 15 ∧ (∃ x : Int32, r = some (.int x) ∧ (((w2 0).toInt ≤ (w 0).toInt + 1 ∧ (w 0).toInt ≤ (w2 0).toInt) ∧ (∀ L, rp (w nn) (e (nn + 1)) (e (nn + 2)) L → (nn : Int) = 40 + 4 * ((w 0).toInt % 41) → rp (w2 nn2) (e2 (nn2 + 1)) (e2 (nn2 + 2)) ((ed_copy L (w 1) x1 x2 x3).getD L) ∧ (w2 0).toInt = (w 0).toInt + edn (ed_copy L (w 1) x1 x2 x3) ∧ (w2 1).toInt = (w 1).toInt + edn (ed_copy L (w 1) x1 x2 x3) * (x2.toInt - x1.toInt + 1) ∧ (nn2 : Int) = 40 + 4 * ((w2 0).toInt % 41) ∧ (bd (w nn) (e (nn + 1)) (e (nn + 3)) → bd (w2 nn2) (e2 (nn2 + 1)) (e2 (nn2 + 3)))))))) := by
  refine mt_X10_copy rfl (fun J hC => ?_)
  have ro_nn : cw_ro K nn := hI.2.1.2.1
  have ro_dn : cw_ro K dn := hI.2.1.2.2.1
  have hu1 := hI.2.1
  unfold cw_W at hu1
  have zs2 := cw_sz hI ro_nn
  have zs3 := cw_sz hI ro_dn
  have rg_x1 := pm_rng x1
  have rg_x2 := pm_rng x2
  have rg_x3 := pm_rng x3
  refine hC.1 0 0 _ _ rfl _ _ _ _ _ ?_
  refine Exists.intro _ (And.intro (cw_o0 hI.1) ?_)
  refine Exists.intro _ (And.intro (cw_o1 hI.1) ?_)
  refine And.intro (Exists.intro _ (cw_ro_o hI.1 ro_nn)) (Exists.intro _ (Exists.intro _ (Exists.intro _ (Exists.intro _ (And.intro (c_X7_isSpan hI hs ro_nn x1 x2 ) (And.intro rfl (fun r9 A9 h9 => ?_)))))))
  rcases h9 with ⟨y4, rfl, rfl, ⟨rfl, by4⟩ | ⟨rfl, by4⟩⟩
  · skip
    have k1 : (1 : Int32).toInt = 1 := rfl
    refine And.intro (fun c9 => absurd c9 (by decide)) (fun _ => ?_)
    refine And.intro (Exists.intro _ (cw_ro_o hI.1 ro_nn)) (Exists.intro _ (Exists.intro _ (Exists.intro _ (Exists.intro _ (And.intro (c_X7_isGap hI hs ro_nn x3 ) (And.intro rfl (fun r9 A9 h9 => ?_)))))))
    rcases h9 with ⟨y6, rfl, rfl, ⟨rfl, by6⟩ | ⟨rfl, by6⟩⟩
    · skip
      refine And.intro (fun c9 => absurd c9 (by decide)) (fun _ => ?_)
      refine Exists.intro _ (And.intro (cw_o0 hI.1) ?_)
      intro m8 em_34
      try have e8 : m8.toInt = (x2).toInt - (x1).toInt := by rw [em_34]; exact pm_sub _ _ (by omega) (by omega)
      intro m9 em_36
      try have e9 : m9.toInt = (m8).toInt + (1) := by rw [em_36]; exact pm_addc _ _ (1) rfl (by omega) (by omega)
      refine And.intro (Exists.intro _ (cw_o1 hI.1)) (Exists.intro _ (Exists.intro _ (Exists.intro _ (Exists.intro _ (And.intro (c_X9_hasRoomFor hI hs m9 (by omega)) (And.intro rfl (fun r9 A9 h9 => ?_)))))))
      rcases h9 with ⟨y10, rfl, rfl, ⟨rfl, by10⟩ | ⟨rfl, by10⟩⟩
      · skip
        refine And.intro (fun _ => ?_) (fun c9 => absurd c9 (by decide))
        refine hC.1 2 45 _ _ rfl _ _ _ _ _ ?_
        refine Exists.intro _ (And.intro (cw_o0 hI.1) ?_)
        refine And.intro (Exists.intro _ (cw_o1 hI.1)) (Exists.intro _ (Exists.intro _ (Exists.intro _ (Exists.intro _ (And.intro (F_X9_begin hI hs  (by omega)) (And.intro rfl (fun r9 A9 h9 => ?_)))))))
        obtain ⟨K13, dn13, q13, w13, e13, rfl, rfl, hI13, hX13, hk13, hw13, hy13, hdn13, hfm13, hz13⟩ := h9
        have hq13_0 : q 0 = q13 0 := (hX13.2.1 0 (by omega)).symm
        have hq13_nn : q nn = q13 nn := (hX13.2.1 nn (by omega)).symm
        rw [hq13_0, hq13_nn]
        have hw13_0 := congrArg Int32.toInt hw13.1
        have hw13_1 := congrArg Int32.toInt hw13.2.1
        have hw13_3 := congrArg Int32.toInt hw13.2.2.2
        have ro13 : cw_ro K13 dn13 := hI13.2.1.2.2.1
        have rn13 : cw_ro K13 nn := hI13.2.1.2.1
        have hx13 : e13 15 = e 15 := hy13.trans rfl
        have hu14 := hI13.2.1
        unfold cw_W at hu14
        have zs15 := cw_sz hI13 rn13
        have zs16 := cw_sz hI13 ro13
        have hz9 := hz13
        have hL13 : ∀ L, rp (w nn) (e (nn + 1)) (e (nn + 2)) L → (nn : Int) = 40 + 4 * ((w 0).toInt % 41) → nn ≠ dn13 ∧ rp (w13 nn) (e13 (nn + 1)) (e13 (nn + 2)) L := hL_b ro_nn ro13 hdn13 hfm13
        refine Exists.intro _ (And.intro (cw_o0 hI13.1) ?_)
        have k0 : (0 : Int32).toInt = 0 := rfl
        intro m17 em_59
        try have e17 : m17.toInt = (x3).toInt - (1) := by rw [em_59]; exact pm_subc _ _ (1) rfl (by omega) (by omega)
        have hp_60 := hL13
        refine And.intro (Exists.intro _ (cw_o1 hI13.1)) (Exists.intro _ (Exists.intro _ (Exists.intro _ (Exists.intro _ (And.intro (F_X9_keep hI13 hs (0 : Int32) m17 ) (And.intro rfl (fun r9 A9 h9 => ?_)))))))
        rcases h9 with ⟨w19, e19, v19, f19, rfl, hI19, hs19, hy19, rfl, by18⟩
        have hx19 : e19 15 = e 15 := hy19.trans hx13
        have hu20 := hI19.2.1
        unfold cw_W at hu20
        have zs21 := cw_sz hI19 rn13
        have zs22 := cw_sz hI19 ro13
        clear hu14 zs15 zs16
        have hb_60 := by18.2
        have hL19 : ∀ L, rp (w nn) (e (nn + 1)) (e (nn + 2)) L → (nn : Int) = 40 + 4 * ((w 0).toInt % 41) → nn ≠ dn13 ∧ rp (w19 nn) (e19 (nn + 1)) (e19 (nn + 2)) L := hL_k hL13 rn13 ro13 hb_60.1
        have lp24 : ∀ (n : Nat) (z5_66 : Int32) (w23 : Nat → Int32) (e23 : Nat → Nat → Int32) (v23 : Nat → Int32) (f23 : Nat → Nat → Int32), cw_I K13 nn dn13 q13 w23 e23 → e23 15 = e 15 → (∀ L, rp (w nn) (e (nn + 1)) (e (nn + 2)) L → (nn : Int) = 40 + 4 * ((w 0).toInt % 41) → nn ≠ dn13 ∧ rp (w23 nn) (e23 (nn + 1)) (e23 (nn + 2)) L) → cw_S v23 f23 → (x1.toInt ≤ z5_66.toInt ∧ z5_66.toInt ≤ x2.toInt + 1) → ((w23 1).toInt = (w 1).toInt + (z5_66.toInt - x1.toInt)) → (∀ L, rp (w nn) (e (nn + 1)) (e (nn + 2)) L → (nn : Int) = 40 + 4 * ((w 0).toInt % 41) → rp (w23 dn13) (e23 (dn13 + 1)) (e23 (dn13 + 2)) (si L 0 x3.toInt ++ nw_l (w 1) ((si L x1.toInt z5_66.toInt).map Prod.fst))) → (w23 0).toInt = (w 0).toInt → (w23 3).toInt = (w 3).toInt → 200 - z5_66.toInt < (n : Int) → J 66 [some (.ref (q13 0)), some (.int x1), some (.int x2), some (.int x3), some (.ref (q13 nn)), some (.int z5_66)] [] (cw A0 g K13 nn dn13 q13 w23 e23 v23 f23) 4 485 := by
          intro n
          induction n with
          | zero =>
            intro z5_66 w23 e23 v23 f23 hI23 hx23 hL23 hs23 j0_66 j1_66 j2_66 j3_66 j4_66 j5_66
            omega
          | succ n ih25 =>
            intro z5_66 w23 e23 v23 f23 hI23 hx23 hL23 hs23 j0_66 j1_66 j2_66 j3_66 j4_66 j5_66
            obtain ⟨g66, eg66⟩ : ∃ z9, z9 = w23 1 := ⟨_, rfl⟩
            have hu26 := hI23.2.1
            unfold cw_W at hu26
            have zs27 := cw_sz hI23 rn13
            have zs28 := cw_sz hI23 ro13
            clear hu20 zs21 zs22
            refine hC.1 3 66 _ _ rfl _ _ _ _ _ ?_
            refine And.intro (fun c29 => ?_) (fun c29 => ?_)
            · skip
              refine hC.1 4 93 _ _ rfl _ _ _ _ _ ?_
              refine Exists.intro _ (And.intro (cw_o0 hI23.1) ?_)
              refine Exists.intro _ (And.intro (cw_ro_o hI23.1 rn13) ?_)
              have z30 := cw_sz hI23 rn13
              intro m31 em_104
              try have e31 : m31.toInt = ((w23 nn)).toInt - (1) := by rw [em_104]; exact pm_subc _ _ (1) rfl (by omega) (by omega)
              have hp_105 := hL23
              refine And.intro (Exists.intro _ (cw_o1 hI23.1)) (Exists.intro _ (Exists.intro _ (Exists.intro _ (Exists.intro _ (And.intro (F_X9_keep hI23 hs23 x3 m31 ) (And.intro rfl (fun r9 A9 h9 => ?_)))))))
              rcases h9 with ⟨w33, e33, v33, f33, rfl, hI33, hs33, hy33, rfl, by32⟩
              have hx33 : e33 15 = e 15 := hy33.trans hx23
              have hu34 := hI33.2.1
              unfold cw_W at hu34
              have zs35 := cw_sz hI33 rn13
              have zs36 := cw_sz hI33 ro13
              clear hu26 zs27 zs28
              have hb_105 := by32.2
              have hL33 : ∀ L, rp (w nn) (e (nn + 1)) (e (nn + 2)) L → (nn : Int) = 40 + 4 * ((w 0).toInt % 41) → nn ≠ dn13 ∧ rp (w33 nn) (e33 (nn + 1)) (e33 (nn + 2)) L := hL_k hL23 rn13 ro13 hb_105.1
              refine Exists.intro _ (And.intro (cw_o0 hI33.1) ?_)
              have hp_112 := hL33
              refine And.intro (Exists.intro _ (cw_o1 hI33.1)) (Exists.intro _ (Exists.intro _ (Exists.intro _ (Exists.intro _ (And.intro (G_X9_finish hI33 hs33  (by omega) (by omega)) (And.intro rfl (fun r9 A9 h9 => ?_)))))))
              rcases h9 with ⟨w38, e38, v38, f38, rfl, hI38, hs38, hy38, y37, rfl, by37⟩
              have hx38 : e38 15 = e 15 := hy38.trans hx33
              have hu39 := hI38.2.1
              unfold cw_W at hu39
              have zs40 := cw_sz hI38 ro13
              have zs41 := cw_sz hI38 ro13
              clear hu34 zs35 zs36
              have hb_112 := by37.2
              exact ⟨rfl, fun e9 => absurd e9 (by decide), rfl, K13, dn13, dn13, q13, w38, e38, v38, f38, rfl, hI38, hs38, hX13, hx38, y37, rfl, by first | omega | (dsimp only; omega) | trivial, by intro L hL hN; have hl := hL.1; rw [ed_copy, if_pos (by omega)]; have t2 := j2_66 L hL hN; rw [show z5_66.toInt = x2.toInt + 1 by omega] at t2; have s1 := si_len (L := L) (a := 0) (b := x3.toInt) (by omega) (by omega) (by omega); have s2 := si_len (L := L) (a := x1.toInt) (b := x2.toInt + 1) (by omega) (by omega) (by omega); have q3 := hp_105 L hL hN; have z3 := q3.2.1; have t3 := hb_105.2 L (_) (x3.toInt) (L.length) q3.2 q3.1 (by omega) (by omega) (by omega) (by omega) (by omega) (by first | omega | (simp only [List.length_append, List.length_nil, List.length_cons, List.length_map, List.length_reverse, nw_len, dr_len]; omega)) t2; have k3 := si_len (L := L) (a := x3.toInt) (b := L.length) (by omega) (by omega) (by omega); exact ⟨hb_112.2.1 _ t3, by show _ = _ + (1 : Int); omega, by show _ = _ + (1 : Int) * _; omega, by omega, fun _ => hb_112.2.2⟩⟩
            · skip
              refine Exists.intro _ (And.intro (cw_o0 hI23.1) ?_)
              refine Exists.intro _ (And.intro (cw_ro_o hI23.1 rn13) ?_)
              refine Exists.intro _ (Exists.intro _ (And.intro (Or.inl (cw_ro_1 hI23.1 rn13)) (And.intro (by omega) ?_)))
              have w42 := cw_col hI23 rn13 (z5_66).toInt.toNat
              have hp_84 := hL23
              refine And.intro (Exists.intro _ (cw_o1 hI23.1)) (Exists.intro _ (Exists.intro _ (Exists.intro _ (Exists.intro _ (And.intro (F_X9_add hI23 hs23 (e23 (nn + 1) (z5_66).toInt.toNat) (by omega) (by omega)) (And.intro rfl (fun r9 A9 h9 => ?_)))))))
              rcases h9 with ⟨w44, e44, v44, f44, rfl, hI44, hs44, hy44, rfl, by43⟩
              have hx44 : e44 15 = e 15 := hy44.trans hx23
              have hu45 := hI44.2.1
              unfold cw_W at hu45
              have zs46 := cw_sz hI44 rn13
              have zs47 := cw_sz hI44 ro13
              clear hu26 zs27 zs28
              have hb_84 := by43.2
              have hL44 : ∀ L, rp (w nn) (e (nn + 1)) (e (nn + 2)) L → (nn : Int) = 40 + 4 * ((w 0).toInt % 41) → nn ≠ dn13 ∧ rp (w44 nn) (e44 (nn + 1)) (e44 (nn + 2)) L := hL_k hL23 rn13 ro13 hb_84.1
              intro m48 em_87
              try have e48 : m48.toInt = (z5_66).toInt + (1) := by rw [em_87]; exact pm_addc _ _ (1) rfl (by omega) (by omega)
              exact ih25 m48 w44 e44 v44 f44 hI44 hx44 hL44 hs44 (by omega) (by omega) (by intro L hL hN; have hl := hL.1; have q2 := hp_84 L hL hN; have z2 := q2.2.1; have s2 := si_len (L := L) (a := 0) (b := x3.toInt) (by omega) (by omega) (by omega); have s3 := si_len (L := L) (a := x1.toInt) (b := z5_66.toInt) (by omega) (by omega) (by omega); have t2 := hb_84.2 _ (j2_66 L hL hN) (by first | omega | (simp only [List.length_append, List.length_nil, List.length_cons, List.length_map, List.length_reverse, nw_len, dr_len]; omega)); rw [← eg66] at t2; rw [show m48.toInt = z5_66.toInt + 1 by omega, si_s q2.2 (a := x1.toInt) (z := z5_66.toInt) (by omega) (by omega) (by omega), List.map_append, List.map_cons, List.map_nil, nw_app (g2 := g66) (by rw [eg66, List.length_map]; omega) (by rw [List.length_map]; omega), ← List.append_assoc]; exact t2) (by omega) (by omega) (by omega)
        exact lp24 (200 - x1.toInt).toNat.succ x1 w19 e19 v19 f19 hI19 hx19 hL19 hs19 (by omega) (by omega) (by intro L hL hN; have hl := hL.1; have q1 := hp_60 L hL hN; have z1 := q1.2.1; have t1 := hb_60.2 L ([]) (0) (x3.toInt) q1.2 q1.1 (by omega) (by omega) (by omega) (by omega) (by omega) (by first | omega | (simp only [List.length_append, List.length_nil, List.length_cons, List.length_map, List.length_reverse, nw_len, dr_len]; omega)) (rp_0 hz9); have k1 := si_len (L := L) (a := 0) (b := x3.toInt) (by omega) (by omega) (by omega); rw [List.nil_append] at t1; rw [si_n (L := L) (a := x1.toInt) (b := x1.toInt) (Int.le_refl _)]; show rp _ _ _ (_ ++ []); rw [List.append_nil]; exact t1) (by omega) (by omega) (by omega)
      · skip
        have k0 : (0 : Int32).toInt = 0 := rfl
        refine And.intro (fun c9 => absurd c9 (by decide)) (fun _ => ?_)
        refine hC.1 1 43 _ _ rfl _ _ _ _ _ ?_
        have km1 : (-1 : Int32).toInt = -1 := rfl
        exact ⟨rfl, fun e9 => absurd e9 (by decide), rfl, K, nn, dn, q, w, e, v, f, rfl, hI, hs, cw_X_r, rfl, (-1 : Int32), rfl, by first | omega | (dsimp only; omega) | trivial, by intro L hL hN; have hl := hL.1; rw [ed_copy, if_neg (by omega)]; exact ⟨hL, by show _ = _ + (0 : Int); omega, by show _ = _ + (0 : Int) * _; omega, hN, fun h8 => h8⟩⟩
    · skip
      have k0 : (0 : Int32).toInt = 0 := rfl
      refine And.intro (fun _ => ?_) (fun c9 => absurd c9 (by decide))
      refine hC.1 1 43 _ _ rfl _ _ _ _ _ ?_
      have km1 : (-1 : Int32).toInt = -1 := rfl
      exact ⟨rfl, fun e9 => absurd e9 (by decide), rfl, K, nn, dn, q, w, e, v, f, rfl, hI, hs, cw_X_r, rfl, (-1 : Int32), rfl, by first | omega | (dsimp only; omega) | trivial, by intro L hL hN; have hl := hL.1; rw [ed_copy, if_neg (by omega)]; exact ⟨hL, by show _ = _ + (0 : Int); omega, by show _ = _ + (0 : Int) * _; omega, hN, fun h8 => h8⟩⟩
  · skip
    have k0 : (0 : Int32).toInt = 0 := rfl
    refine And.intro (fun _ => ?_) (fun c9 => absurd c9 (by decide))
    refine hC.1 1 43 _ _ rfl _ _ _ _ _ ?_
    have km1 : (-1 : Int32).toInt = -1 := rfl
    exact ⟨rfl, fun e9 => absurd e9 (by decide), rfl, K, nn, dn, q, w, e, v, f, rfl, hI, hs, cw_X_r, rfl, (-1 : Int32), rfl, by first | omega | (dsimp only; omega) | trivial, by intro L hL hN; have hl := hL.1; rw [ed_copy, if_neg (by omega)]; exact ⟨hL, by show _ = _ + (0 : Int); omega, by show _ = _ + (0 : Int) * _; omega, hN, fun h8 => h8⟩⟩

end
