section
variable {l : Launch} {g : pm_G} {A0 : pm_H} {K nn dn : Nat} {q : Nat → Nat} {w : Nat → Int32} {e : Nat → Nat → Int32} {v : Nat → Int32} {f : Nat → Nat → Int32}
set_option maxRecDepth 100000 in
set_option maxHeartbeats 2000000 in
theorem H_X10_turn (hI : cw_I K nn dn q w e) (hs : cw_S v f) (x1 : Int32) (x2 : Int32) (p0 : (w 0).toInt < 100000) : pm_Mt l g 30 4 4 485 [.ref (q 0), .int x1, .int x2] (cw A0 g K nn dn q w e v f) (cw_Qb A0 g K nn q (fun r K2 nn2 dn2 w2 e2 => e2 15 = e 15 ∧ (∃ x : Int32, r = some (.int x) ∧ (((w2 0).toInt ≤ (w 0).toInt + 1 ∧ (w 0).toInt ≤ (w2 0).toInt) ∧ (∀ L, rp (w nn) (e (nn + 1)) (e (nn + 2)) L → (nn : Int) = 40 + 4 * ((w 0).toInt % 41) → rp (w2 nn2) (e2 (nn2 + 1)) (e2 (nn2 + 2)) ((ed_turn L x1 x2).getD L) ∧ (w2 0).toInt = (w 0).toInt + edn (ed_turn L x1 x2) ∧ (w2 1).toInt = (w 1).toInt + edn (ed_turn L x1 x2) * (0) ∧ (nn2 : Int) = 40 + 4 * ((w2 0).toInt % 41) ∧ (bd (w nn) (e (nn + 1)) (e (nn + 3)) → bd (w2 nn2) (e2 (nn2 + 1)) (e2 (nn2 + 3)))))))) := by
  refine mt_X10_turn rfl (fun J hC => ?_)
  have ro_nn : cw_ro K nn := hI.2.1.2.1
  have ro_dn : cw_ro K dn := hI.2.1.2.2.1
  have hu1 := hI.2.1
  unfold cw_W at hu1
  have zs2 := cw_sz hI ro_nn
  have zs3 := cw_sz hI ro_dn
  have rg_x1 := pm_rng x1
  have rg_x2 := pm_rng x2
  refine hC.1 0 0 _ _ rfl _ _ _ _ _ ?_
  refine Exists.intro _ (And.intro (cw_o0 hI.1) ?_)
  refine Exists.intro _ (And.intro (cw_o1 hI.1) ?_)
  refine And.intro (Exists.intro _ (cw_ro_o hI.1 ro_nn)) (Exists.intro _ (Exists.intro _ (Exists.intro _ (Exists.intro _ (And.intro (c_X7_isSpan hI hs ro_nn x1 x2 ) (And.intro rfl (fun r9 A9 h9 => ?_)))))))
  rcases h9 with ⟨y4, rfl, rfl, ⟨rfl, by4⟩ | ⟨rfl, by4⟩⟩
  · skip
    have k1 : (1 : Int32).toInt = 1 := rfl
    refine And.intro (fun _ => ?_) (fun c9 => absurd c9 (by decide))
    refine hC.1 1 19 _ _ rfl _ _ _ _ _ ?_
    refine Exists.intro _ (And.intro (cw_o0 hI.1) ?_)
    refine And.intro (Exists.intro _ (cw_o1 hI.1)) (Exists.intro _ (Exists.intro _ (Exists.intro _ (Exists.intro _ (And.intro (F_X9_begin hI hs  (by omega)) (And.intro rfl (fun r9 A9 h9 => ?_)))))))
    obtain ⟨K7, dn7, q7, w7, e7, rfl, rfl, hI7, hX7, hk7, hw7, hy7, hdn7, hfm7, hz7⟩ := h9
    have hq7_0 : q 0 = q7 0 := (hX7.2.1 0 (by omega)).symm
    have hq7_nn : q nn = q7 nn := (hX7.2.1 nn (by omega)).symm
    rw [hq7_0, hq7_nn]
    have hw7_0 := congrArg Int32.toInt hw7.1
    have hw7_1 := congrArg Int32.toInt hw7.2.1
    have hw7_3 := congrArg Int32.toInt hw7.2.2.2
    have ro7 : cw_ro K7 dn7 := hI7.2.1.2.2.1
    have rn7 : cw_ro K7 nn := hI7.2.1.2.1
    have hx7 : e7 15 = e 15 := hy7.trans rfl
    have hu8 := hI7.2.1
    unfold cw_W at hu8
    have zs9 := cw_sz hI7 rn7
    have zs10 := cw_sz hI7 ro7
    have hz9 := hz7
    have hL7 : ∀ L, rp (w nn) (e (nn + 1)) (e (nn + 2)) L → (nn : Int) = 40 + 4 * ((w 0).toInt % 41) → nn ≠ dn7 ∧ rp (w7 nn) (e7 (nn + 1)) (e7 (nn + 2)) L := hL_b ro_nn ro7 hdn7 hfm7
    refine Exists.intro _ (And.intro (cw_o0 hI7.1) ?_)
    have k0 : (0 : Int32).toInt = 0 := rfl
    intro m11 em_33
    try have e11 : m11.toInt = (x1).toInt - (1) := by rw [em_33]; exact pm_subc _ _ (1) rfl (by omega) (by omega)
    have hp_34 := hL7
    refine And.intro (Exists.intro _ (cw_o1 hI7.1)) (Exists.intro _ (Exists.intro _ (Exists.intro _ (Exists.intro _ (And.intro (F_X9_keep hI7 hs (0 : Int32) m11 ) (And.intro rfl (fun r9 A9 h9 => ?_)))))))
    rcases h9 with ⟨w13, e13, v13, f13, rfl, hI13, hs13, hy13, rfl, by12⟩
    have hx13 : e13 15 = e 15 := hy13.trans hx7
    have hu14 := hI13.2.1
    unfold cw_W at hu14
    have zs15 := cw_sz hI13 rn7
    have zs16 := cw_sz hI13 ro7
    clear hu8 zs9 zs10
    have hb_34 := by12.2
    have hL13 : ∀ L, rp (w nn) (e (nn + 1)) (e (nn + 2)) L → (nn : Int) = 40 + 4 * ((w 0).toInt % 41) → nn ≠ dn7 ∧ rp (w13 nn) (e13 (nn + 1)) (e13 (nn + 2)) L := hL_k hL7 rn7 ro7 hb_34.1
    have lp18 : ∀ (n : Nat) (z4_40 : Int32) (w17 : Nat → Int32) (e17 : Nat → Nat → Int32) (v17 : Nat → Int32) (f17 : Nat → Nat → Int32), cw_I K7 nn dn7 q7 w17 e17 → e17 15 = e 15 → (∀ L, rp (w nn) (e (nn + 1)) (e (nn + 2)) L → (nn : Int) = 40 + 4 * ((w 0).toInt % 41) → nn ≠ dn7 ∧ rp (w17 nn) (e17 (nn + 1)) (e17 (nn + 2)) L) → cw_S v17 f17 → (x1.toInt - 1 ≤ z4_40.toInt ∧ z4_40.toInt ≤ x2.toInt) → (∀ L, rp (w nn) (e (nn + 1)) (e (nn + 2)) L → (nn : Int) = 40 + 4 * ((w 0).toInt % 41) → rp (w17 dn7) (e17 (dn7 + 1)) (e17 (dn7 + 2)) (si L 0 x1.toInt ++ (si L (z4_40.toInt + 1) (x2.toInt + 1)).reverse)) → (w17 0).toInt = (w 0).toInt → (w17 1).toInt = (w 1).toInt → (w17 3).toInt = (w 3).toInt → z4_40.toInt + 1 < (n : Int) → J 40 [some (.ref (q7 0)), some (.int x1), some (.int x2), some (.ref (q7 nn)), some (.int z4_40)] [] (cw A0 g K7 nn dn7 q7 w17 e17 v17 f17) 4 485 := by
      intro n
      induction n with
      | zero =>
        intro z4_40 w17 e17 v17 f17 hI17 hx17 hL17 hs17 j0_40 j1_40 j2_40 j3_40 j4_40 j5_40
        omega
      | succ n ih19 =>
        intro z4_40 w17 e17 v17 f17 hI17 hx17 hL17 hs17 j0_40 j1_40 j2_40 j3_40 j4_40 j5_40
        have hu20 := hI17.2.1
        unfold cw_W at hu20
        have zs21 := cw_sz hI17 rn7
        have zs22 := cw_sz hI17 ro7
        clear hu14 zs15 zs16
        refine hC.1 2 40 _ _ rfl _ _ _ _ _ ?_
        refine And.intro (fun c23 => ?_) (fun c23 => ?_)
        · skip
          refine hC.1 3 63 _ _ rfl _ _ _ _ _ ?_
          refine Exists.intro _ (And.intro (cw_o0 hI17.1) ?_)
          intro m24 em_69
          try have e24 : m24.toInt = (x2).toInt + (1) := by rw [em_69]; exact pm_addc _ _ (1) rfl (by omega) (by omega)
          refine Exists.intro _ (And.intro (cw_ro_o hI17.1 rn7) ?_)
          have z25 := cw_sz hI17 rn7
          intro m26 em_75
          try have e26 : m26.toInt = ((w17 nn)).toInt - (1) := by rw [em_75]; exact pm_subc _ _ (1) rfl (by omega) (by omega)
          have hp_76 := hL17
          refine And.intro (Exists.intro _ (cw_o1 hI17.1)) (Exists.intro _ (Exists.intro _ (Exists.intro _ (Exists.intro _ (And.intro (F_X9_keep hI17 hs17 m24 m26 ) (And.intro rfl (fun r9 A9 h9 => ?_)))))))
          rcases h9 with ⟨w28, e28, v28, f28, rfl, hI28, hs28, hy28, rfl, by27⟩
          have hx28 : e28 15 = e 15 := hy28.trans hx17
          have hu29 := hI28.2.1
          unfold cw_W at hu29
          have zs30 := cw_sz hI28 rn7
          have zs31 := cw_sz hI28 ro7
          clear hu20 zs21 zs22
          have hb_76 := by27.2
          have hL28 : ∀ L, rp (w nn) (e (nn + 1)) (e (nn + 2)) L → (nn : Int) = 40 + 4 * ((w 0).toInt % 41) → nn ≠ dn7 ∧ rp (w28 nn) (e28 (nn + 1)) (e28 (nn + 2)) L := hL_k hL17 rn7 ro7 hb_76.1
          refine Exists.intro _ (And.intro (cw_o0 hI28.1) ?_)
          have hp_83 := hL28
          refine And.intro (Exists.intro _ (cw_o1 hI28.1)) (Exists.intro _ (Exists.intro _ (Exists.intro _ (Exists.intro _ (And.intro (G_X9_finish hI28 hs28  (by omega) (by omega)) (And.intro rfl (fun r9 A9 h9 => ?_)))))))
          rcases h9 with ⟨w33, e33, v33, f33, rfl, hI33, hs33, hy33, y32, rfl, by32⟩
          have hx33 : e33 15 = e 15 := hy33.trans hx28
          have hu34 := hI33.2.1
          unfold cw_W at hu34
          have zs35 := cw_sz hI33 ro7
          have zs36 := cw_sz hI33 ro7
          clear hu29 zs30 zs31
          have hb_83 := by32.2
          exact ⟨rfl, fun e9 => absurd e9 (by decide), rfl, K7, dn7, dn7, q7, w33, e33, v33, f33, rfl, hI33, hs33, hX7, hx33, y32, rfl, by first | omega | (dsimp only; omega) | trivial, by intro L hL hN; have hl := hL.1; rw [ed_turn, if_pos (by omega)]; have t2 := j1_40 L hL hN; rw [show z4_40.toInt + 1 = x1.toInt by omega] at t2; have s1 := si_len (L := L) (a := 0) (b := x1.toInt) (by omega) (by omega) (by omega); have s2 := si_len (L := L) (a := x1.toInt) (b := x2.toInt + 1) (by omega) (by omega) (by omega); have q3 := hp_76 L hL hN; have z3 := q3.2.1; have t3 := hb_76.2 L (_) (x2.toInt + 1) (L.length) q3.2 q3.1 (by omega) (by omega) (by omega) (by omega) (by omega) (by first | omega | (simp only [List.length_append, List.length_nil, List.length_cons, List.length_map, List.length_reverse, nw_len, dr_len]; omega)) t2; have k3 := si_len (L := L) (a := x2.toInt + 1) (b := L.length) (by omega) (by omega) (by omega); exact ⟨hb_83.2.1 _ t3, by show _ = _ + (1 : Int); omega, by show _ = _ + (1 : Int) * _; omega, by omega, fun _ => hb_83.2.2⟩⟩
        · skip
          refine Exists.intro _ (And.intro (cw_o0 hI17.1) ?_)
          have hp_54 := hL17
          refine And.intro (Exists.intro _ (cw_o1 hI17.1)) (Exists.intro _ (Exists.intro _ (Exists.intro _ (Exists.intro _ (And.intro (F_X9_keep hI17 hs17 z4_40 z4_40 ) (And.intro rfl (fun r9 A9 h9 => ?_)))))))
          rcases h9 with ⟨w38, e38, v38, f38, rfl, hI38, hs38, hy38, rfl, by37⟩
          have hx38 : e38 15 = e 15 := hy38.trans hx17
          have hu39 := hI38.2.1
          unfold cw_W at hu39
          have zs40 := cw_sz hI38 rn7
          have zs41 := cw_sz hI38 ro7
          clear hu20 zs21 zs22
          have hb_54 := by37.2
          have hL38 : ∀ L, rp (w nn) (e (nn + 1)) (e (nn + 2)) L → (nn : Int) = 40 + 4 * ((w 0).toInt % 41) → nn ≠ dn7 ∧ rp (w38 nn) (e38 (nn + 1)) (e38 (nn + 2)) L := hL_k hL17 rn7 ro7 hb_54.1
          have km1 : (-1 : Int32).toInt = -1 := rfl
          intro m42 em_57
          try have e42 : m42.toInt = (z4_40).toInt + (-1) := by rw [em_57]; exact pm_addc _ _ (-1) rfl (by omega) (by omega)
          exact ih19 m42 w38 e38 v38 f38 hI38 hx38 hL38 hs38 (by omega) (by intro L hL hN; have hl := hL.1; have q2 := hp_54 L hL hN; have z2 := q2.2.1; have s2 := si_len (L := L) (a := 0) (b := x1.toInt) (by omega) (by omega) (by omega); have s3 := si_len (L := L) (a := z4_40.toInt + 1) (b := x2.toInt + 1) (by omega) (by omega) (by omega); have t2 := hb_54.2 L _ z4_40.toInt (z4_40.toInt + 1) q2.2 q2.1 rfl rfl (by omega) (by omega) (by omega) (by first | omega | (simp only [List.length_append, List.length_nil, List.length_cons, List.length_map, List.length_reverse, nw_len, dr_len]; omega)) (j1_40 L hL hN); rw [show m42.toInt + 1 = z4_40.toInt by omega, si_app (L := L) (a := z4_40.toInt) (m := z4_40.toInt + 1) (b := x2.toInt + 1) (by omega) (by omega) (by omega), List.reverse_append, si_r1 q2.2 (by omega) (by omega), ← List.append_assoc]; exact t2) (by omega) (by omega) (by omega) (by omega)
    exact lp18 (x2.toInt + 1).toNat.succ x2 w13 e13 v13 f13 hI13 hx13 hL13 hs13 (by omega) (by intro L hL hN; have hl := hL.1; have q1 := hp_34 L hL hN; have z1 := q1.2.1; have t1 := hb_34.2 L ([]) (0) (x1.toInt) q1.2 q1.1 (by omega) (by omega) (by omega) (by omega) (by omega) (by first | omega | (simp only [List.length_append, List.length_nil, List.length_cons, List.length_map, List.length_reverse, nw_len, dr_len]; omega)) (rp_0 hz9); have k1 := si_len (L := L) (a := 0) (b := x1.toInt) (by omega) (by omega) (by omega); rw [List.nil_append] at t1; rw [si_n (L := L) (a := x2.toInt + 1) (b := x2.toInt + 1) (Int.le_refl _)]; show rp _ _ _ (_ ++ []); rw [List.append_nil]; exact t1) (by omega) (by omega) (by omega) (by omega)
  · skip
    have k0 : (0 : Int32).toInt = 0 := rfl
    refine And.intro (fun c9 => absurd c9 (by decide)) (fun _ => ?_)
    have km1 : (-1 : Int32).toInt = -1 := rfl
    exact ⟨rfl, fun e9 => absurd e9 (by decide), rfl, K, nn, dn, q, w, e, v, f, rfl, hI, hs, cw_X_r, rfl, (-1 : Int32), rfl, by first | omega | (dsimp only; omega) | trivial, by intro L hL hN; have hl := hL.1; rw [ed_turn, if_neg (by omega)]; exact ⟨hL, by show _ = _ + (0 : Int); omega, by show _ = _ + (0 : Int) * _; omega, hN, fun h8 => h8⟩⟩

end
