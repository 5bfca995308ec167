section
section
variable {l : Launch} {g : pm_G} {A0 : pm_H} {K nn dn : Nat} {q : Nat → Nat} {w : Nat → Int32} {e : Nat → Nat → Int32} {v : Nat → Int32} {f : Nat → Nat → Int32}
set_option maxRecDepth 100000 in
set_option maxHeartbeats 2000000 in
theorem H_X10_sort (hI : cw_I K nn dn q w e) (hs : cw_S v f) (x1 : Int32) (x2 : Int32) (p0 : (w 0).toInt < 100000) : pm_Mt l g 32 5 4 485 [.ref (q 0), .int x1, .int x2] (cw A0 g K nn dn q w e v f) (cw_Qb A0 g K nn q (fun r K2 nn2 dn2 w2 e2 => e2 15 = e 15 ∧ (∃ x : Int32, r = some (.int x) ∧ (((w2 0).toInt ≤ (w 0).toInt + 1 ∧ (w 0).toInt ≤ (w2 0).toInt) ∧ (∀ L, rp (w nn) (e (nn + 1)) (e (nn + 2)) L → (nn : Int) = 40 + 4 * ((w 0).toInt % 41) → rp (w2 nn2) (e2 (nn2 + 1)) (e2 (nn2 + 2)) ((ed_sort L x1 x2).getD L) ∧ (w2 0).toInt = (w 0).toInt + edn (ed_sort L x1 x2) ∧ (w2 1).toInt = (w 1).toInt + edn (ed_sort L x1 x2) * (0) ∧ (nn2 : Int) = 40 + 4 * ((w2 0).toInt % 41) ∧ (bd (w nn) (e (nn + 1)) (e (nn + 3)) → bd (w2 nn2) (e2 (nn2 + 1)) (e2 (nn2 + 3)))))))) := by
  refine mt_X10_sort rfl (fun J hC => ?_)
  have ro_nn : cw_ro K nn := hI.2.1.2.1
  have ro_dn : cw_ro K dn := hI.2.1.2.2.1
  have hu1 := hI.2.1
  unfold cw_W at hu1
  replace hu1 := And.intro hu1.1 (And.intro (And.intro hu1.2.1.1 hu1.2.1.2.1) (And.intro (And.intro hu1.2.2.1.1 hu1.2.2.1.2.1) (And.intro hu1.2.2.2.1 (And.intro hu1.2.2.2.2.2.1 hu1.2.2.2.2.2.2))))
  have zs2 := cw_sz hI ro_nn
  have zs3 := cw_sz hI ro_dn
  have rg_x1 := pm_rng x1
  have rg_x2 := pm_rng x2
  refine hC.1 0 0 _ _ rfl _ _ _ _ _ ?_
  refine Exists.intro _ (And.intro (cw_o0 hI.1) ?_)
  refine Exists.intro _ (And.intro (cw_o1 hI.1) ?_)
  refine And.intro (Exists.intro _ (cw_ro_o hI.1 ro_nn)) (Exists.intro _ (Exists.intro _ (Exists.intro _ (Exists.intro _ (And.intro (c_X7_isSpan hI hs ro_nn x1 x2 ) (And.intro rfl (fun r9 A9 h9 => ?_)))))))
  rcases h9 with ⟨y4, rfl, rfl, ⟨rfl, by4⟩ | ⟨rfl, by4⟩⟩
  · skip
    have k1 : (1 : Int32).toInt = 1 := rfl
    refine And.intro (fun _ => ?_) (fun c9 => absurd c9 (by decide))
    refine hC.1 1 19 _ _ rfl _ _ _ _ _ ?_
    refine Exists.intro _ (And.intro (cw_o0 hI.1) ?_)
    refine And.intro (Exists.intro _ (cw_o1 hI.1)) (Exists.intro _ (Exists.intro _ (Exists.intro _ (Exists.intro _ (And.intro (F_X9_begin hI hs  (by omega)) (And.intro rfl (fun r9 A9 h9 => ?_)))))))
    obtain ⟨K7, dn7, q7, w7, e7, rfl, rfl, hI7, hX7, hk7, hw7, hy7, hdn7, hfm7, hz7⟩ := h9
    have hq7_0 : q 0 = q7 0 := (hX7.2.1 0 (by omega)).symm
    have hq7_nn : q nn = q7 nn := (hX7.2.1 nn (by omega)).symm
    rw [hq7_0, hq7_nn]
    have hw7_0 := congrArg Int32.toInt hw7.1
    have hw7_1 := congrArg Int32.toInt hw7.2.1
    have hw7_3 := congrArg Int32.toInt hw7.2.2.2
    have ro7 : cw_ro K7 dn7 := hI7.2.1.2.2.1
    have rn7 : cw_ro K7 nn := hI7.2.1.2.1
    have hx7 : e7 15 = e 15 := hy7.trans rfl
    have hu8 := hI7.2.1
    unfold cw_W at hu8
    replace hu8 := And.intro hu8.1 (And.intro (And.intro hu8.2.1.1 hu8.2.1.2.1) (And.intro (And.intro hu8.2.2.1.1 hu8.2.2.1.2.1) (And.intro hu8.2.2.2.1 (And.intro hu8.2.2.2.2.2.1 hu8.2.2.2.2.2.2))))
    have zs9 := cw_sz hI7 rn7
    have zs10 := cw_sz hI7 ro7
    have hz9 := hz7
    have hL7 : ∀ L, rp (w nn) (e (nn + 1)) (e (nn + 2)) L → (nn : Int) = 40 + 4 * ((w 0).toInt % 41) → nn ≠ dn7 ∧ rp (w7 nn) (e7 (nn + 1)) (e7 (nn + 2)) L := hL_b ro_nn ro7 hdn7 hfm7
    refine Exists.intro _ (And.intro (cw_o0 hI7.1) ?_)
    have k0 : (0 : Int32).toInt = 0 := rfl
    intro m11 em_33
    try have e11 : m11.toInt = (x1).toInt - (1) := by rw [em_33]; exact pm_subc _ _ (1) rfl (by omega) (by omega)
    have hp_34 := hL7
    refine And.intro (Exists.intro _ (cw_o1 hI7.1)) (Exists.intro _ (Exists.intro _ (Exists.intro _ (Exists.intro _ (And.intro (F_X9_keep hI7 hs (0 : Int32) m11 ) (And.intro rfl (fun r9 A9 h9 => ?_)))))))
    rcases h9 with ⟨w13, e13, v13, f13, rfl, hI13, hs13, hy13, rfl, by12⟩
    have hx13 : e13 15 = e 15 := hy13.trans hx7
    have zs14 := cw_sz hI13 rn7
    have zs15 := cw_sz hI13 ro7
    have hb_34 := by12.2
    have hL13 : ∀ L, rp (w nn) (e (nn + 1)) (e (nn + 2)) L → (nn : Int) = 40 + 4 * ((w 0).toInt % 41) → nn ≠ dn7 ∧ rp (w13 nn) (e13 (nn + 1)) (e13 (nn + 2)) L := hL_k hL7 rn7 ro7 hb_34.1
    have sw13_0 : (w13 0).toInt = (w 0).toInt := by12.1.1.trans hw7_0
    have sw13_1 : (w13 1).toInt = (w 1).toInt := by12.1.2.1.trans hw7_1
    have sw13_3 : (w13 3).toInt = (w 3).toInt := by12.1.2.2.trans hw7_3
    clear by12
    have lp17 : ∀ (n : Nat) (z4_40 : Int32) (w16 : Nat → Int32) (e16 : Nat → Nat → Int32) (v16 : Nat → Int32) (f16 : Nat → Nat → Int32), cw_I K7 nn dn7 q7 w16 e16 → e16 15 = e 15 → (∀ L, rp (w nn) (e (nn + 1)) (e (nn + 2)) L → (nn : Int) = 40 + 4 * ((w 0).toInt % 41) → nn ≠ dn7 ∧ rp (w16 nn) (e16 (nn + 1)) (e16 (nn + 2)) L) → cw_S v16 f16 → (0 ≤ z4_40.toInt ∧ z4_40.toInt ≤ 24) → (∀ L, rp (w nn) (e (nn + 1)) (e (nn + 2)) L → (nn : Int) = 40 + 4 * ((w 0).toInt % 41) → rp (w16 dn7) (e16 (dn7 + 1)) (e16 (dn7 + 2)) (si L 0 x1.toInt ++ st_l (si L x1.toInt (x2.toInt + 1)) z4_40.toInt.toNat)) → (w16 0).toInt = (w 0).toInt → (w16 1).toInt = (w 1).toInt → (w16 3).toInt = (w 3).toInt → 200 - z4_40.toInt < (n : Int) → J 40 [some (.ref (q7 0)), some (.int x1), some (.int x2), some (.ref (q7 nn)), some (.int z4_40)] [] (cw A0 g K7 nn dn7 q7 w16 e16 v16 f16) 4 485 := by
      intro n
      induction n with
      | zero =>
        intro z4_40 w16 e16 v16 f16 hI16 hx16 hL16 hs16 j0_40 j1_40 j2_40 j3_40 j4_40 j5_40
        clear hu8 zs9 zs10 zs14 zs15 sw13_0 sw13_1 sw13_3
        omega
      | succ n ih18 =>
        intro z4_40 w16 e16 v16 f16 hI16 hx16 hL16 hs16 j0_40 j1_40 j2_40 j3_40 j4_40 j5_40
        clear hu8 zs9 zs10 zs14 zs15 sw13_0 sw13_1 sw13_3
        have hu19 := hI16.2.1
        unfold cw_W at hu19
        replace hu19 := And.intro hu19.1 (And.intro (And.intro hu19.2.1.1 hu19.2.1.2.1) (And.intro (And.intro hu19.2.2.1.1 hu19.2.2.1.2.1) (And.intro hu19.2.2.2.1 (And.intro hu19.2.2.2.2.2.1 hu19.2.2.2.2.2.2))))
        have zs20 := cw_sz hI16 rn7
        have zs21 := cw_sz hI16 ro7
        refine hC.1 2 40 _ _ rfl _ _ _ _ _ ?_
        have k24 : (24 : Int32).toInt = 24 := rfl
        refine And.intro (fun c22 => ?_) (fun c22 => ?_)
        · skip
          refine hC.1 3 64 _ _ rfl _ _ _ _ _ ?_
          refine Exists.intro _ (And.intro (cw_o0 hI16.1) ?_)
          intro m23 em_70
          try have e23 : m23.toInt = (x2).toInt + (1) := by rw [em_70]; exact pm_addc _ _ (1) rfl (by omega) (by omega)
          refine Exists.intro _ (And.intro (cw_ro_o hI16.1 rn7) ?_)
          have z24 := cw_sz hI16 rn7
          intro m25 em_76
          try have e25 : m25.toInt = ((w16 nn)).toInt - (1) := by rw [em_76]; exact pm_subc _ _ (1) rfl (by omega) (by omega)
          have hp_77 := hL16
          refine And.intro (Exists.intro _ (cw_o1 hI16.1)) (Exists.intro _ (Exists.intro _ (Exists.intro _ (Exists.intro _ (And.intro (F_X9_keep hI16 hs16 m23 m25 ) (And.intro rfl (fun r9 A9 h9 => ?_)))))))
          rcases h9 with ⟨w27, e27, v27, f27, rfl, hI27, hs27, hy27, rfl, by26⟩
          have hx27 : e27 15 = e 15 := hy27.trans hx16
          have zs28 := cw_sz hI27 rn7
          have zs29 := cw_sz hI27 ro7
          have hb_77 := by26.2
          have hL27 : ∀ L, rp (w nn) (e (nn + 1)) (e (nn + 2)) L → (nn : Int) = 40 + 4 * ((w 0).toInt % 41) → nn ≠ dn7 ∧ rp (w27 nn) (e27 (nn + 1)) (e27 (nn + 2)) L := hL_k hL16 rn7 ro7 hb_77.1
          have sw27_0 : (w27 0).toInt = (w16 0).toInt := by26.1.1
          have sw27_1 : (w27 1).toInt = (w16 1).toInt := by26.1.2.1
          have sw27_3 : (w27 3).toInt = (w16 3).toInt := by26.1.2.2
          clear by26
          refine Exists.intro _ (And.intro (cw_o0 hI27.1) ?_)
          have hp_84 := hL27
          refine And.intro (Exists.intro _ (cw_o1 hI27.1)) (Exists.intro _ (Exists.intro _ (Exists.intro _ (Exists.intro _ (And.intro (G_X9_finish hI27 hs27  (by omega) (by omega)) (And.intro rfl (fun r9 A9 h9 => ?_)))))))
          rcases h9 with ⟨w31, e31, v31, f31, rfl, hI31, hs31, hy31, y30, rfl, by30⟩
          have hx31 : e31 15 = e 15 := hy31.trans hx27
          have hu32 := hI31.2.1.2.2.2.1
          have hu33 := hI31.2.1.2.2.2.2.1
          clear zs28 zs29
          have zs34 := cw_sz hI31 ro7
          have zs35 := cw_sz hI31 ro7
          have hb_84 := by30.2
          have sw31_1 : (w31 1).toInt = (w16 1).toInt := by30.1.1.trans sw27_1
          have sw31_3 : (w31 3).toInt = (w16 3).toInt := by30.1.2.1.trans sw27_3
          have sp31 := by30.1.2.2
          clear by30 sw27_1 sw27_3
          exact ⟨rfl, fun e9 => absurd e9 (by decide), rfl, K7, dn7, dn7, q7, w31, e31, v31, f31, rfl, hI31, hs31, hX7, hx31, y30, rfl, by first | omega | (dsimp only; omega) | trivial, by intro L hL hN; have hl := hL.1; rw [ed_sort, if_pos (by omega)]; have t2 := j1_40 L hL hN; rw [show z4_40.toInt.toNat = 24 by omega] at t2; have h6 := st_len (si L x1.toInt (x2.toInt + 1)) 24; have s1 := si_len (L := L) (a := 0) (b := x1.toInt) (by omega) (by omega) (by omega); have s2 := si_len (L := L) (a := x1.toInt) (b := x2.toInt + 1) (by omega) (by omega) (by omega); have q3 := hp_77 L hL hN; have z3 := q3.2.1; have t3 := hb_77.2 L (_) (x2.toInt + 1) (L.length) q3.2 q3.1 (by omega) (by omega) (by omega) (by omega) (by omega) (by first | omega | (simp only [List.length_append, List.length_nil, List.length_cons, List.length_map, List.length_reverse, nw_len, dr_len]; omega)) t2; have k3 := si_len (L := L) (a := x2.toInt + 1) (b := L.length) (by omega) (by omega) (by omega); exact ⟨hb_84.2.1 _ t3, by show _ = _ + (1 : Int); omega, by show _ = _ + (1 : Int) * _; omega, by omega, fun _ => hb_84.2.2⟩⟩
        · skip
          refine Exists.intro _ (And.intro (cw_o0 hI16.1) ?_)
          have hp_55 := hL16
          refine And.intro (Exists.intro _ (cw_o1 hI16.1)) (Exists.intro _ (Exists.intro _ (Exists.intro _ (Exists.intro _ (And.intro (F_X9_keepThoseOf hI16 hs16 z4_40 x1 x2 (by omega)) (And.intro rfl (fun r9 A9 h9 => ?_)))))))
          rcases h9 with ⟨w37, e37, v37, f37, rfl, hI37, hs37, hy37, rfl, by36⟩
          have hx37 : e37 15 = e 15 := hy37.trans hx16
          have zs38 := cw_sz hI37 rn7
          have zs39 := cw_sz hI37 ro7
          have hb_55 := by36.2
          have hL37 : ∀ L, rp (w nn) (e (nn + 1)) (e (nn + 2)) L → (nn : Int) = 40 + 4 * ((w 0).toInt % 41) → nn ≠ dn7 ∧ rp (w37 nn) (e37 (nn + 1)) (e37 (nn + 2)) L := hL_k hL16 rn7 ro7 hb_55.1
          have sw37_0 : (w37 0).toInt = (w16 0).toInt := by36.1.1
          have sw37_1 : (w37 1).toInt = (w16 1).toInt := by36.1.2.1
          have sw37_3 : (w37 3).toInt = (w16 3).toInt := by36.1.2.2
          clear by36
          intro m40 em_58
          try have e40 : m40.toInt = (z4_40).toInt + (1) := by rw [em_58]; exact pm_addc _ _ (1) rfl (by omega) (by omega)
          exact ih18 m40 w37 e37 v37 f37 hI37 hx37 hL37 hs37 (by omega) (by intro L hL hN; have hl := hL.1; have q2 := hp_55 L hL hN; have z2 := q2.2.1; have s2 := si_len (L := L) (a := 0) (b := x1.toInt) (by omega) (by omega) (by omega); have s3 := si_len (L := L) (a := x1.toInt) (b := x2.toInt + 1) (by omega) (by omega) (by omega); have h6 := st_len (si L x1.toInt (x2.toInt + 1)) (z4_40.toInt.toNat + 1); have h7 : st_l (si L x1.toInt (x2.toInt + 1)) (z4_40.toInt.toNat + 1) = st_l (si L x1.toInt (x2.toInt + 1)) z4_40.toInt.toNat ++ (si L x1.toInt (x2.toInt + 1)).filter (fun p => decide (p.1.toInt = z4_40.toInt)) := (by show _ ++ List.filter (fun p : pl_P => decide (p.1.toInt = ((z4_40.toInt.toNat : Nat) : Int))) _ = _; rw [show ((z4_40.toInt.toNat : Nat) : Int) = z4_40.toInt by omega]); rw [h7, List.length_append] at h6; have t2 := hb_55.2 L _ x1.toInt (x2.toInt + 1) q2.2 q2.1 rfl rfl (by omega) (by omega) (by omega) (by first | omega | (simp only [List.length_append, List.length_nil, List.length_cons, List.length_map, List.length_reverse, nw_len, dr_len]; omega)) (j1_40 L hL hN); rw [show m40.toInt.toNat = z4_40.toInt.toNat + 1 by omega, h7, ← List.append_assoc]; exact t2) (by omega) (by omega) (by omega) (by omega)
    exact lp17 (200 - (0 : Int32).toInt).toNat.succ (0 : Int32) w13 e13 v13 f13 hI13 hx13 hL13 hs13 (by omega) (by intro L hL hN; have hl := hL.1; have q1 := hp_34 L hL hN; have z1 := q1.2.1; have t1 := hb_34.2 L ([]) (0) (x1.toInt) q1.2 q1.1 (by omega) (by omega) (by omega) (by omega) (by omega) (by first | omega | (simp only [List.length_append, List.length_nil, List.length_cons, List.length_map, List.length_reverse, nw_len, dr_len]; omega)) (rp_0 hz9); have k1 := si_len (L := L) (a := 0) (b := x1.toInt) (by omega) (by omega) (by omega); rw [List.nil_append] at t1; show rp _ _ _ (_ ++ []); rw [List.append_nil]; exact t1) (by omega) (by omega) (by omega) (by omega)
  · skip
    have k0 : (0 : Int32).toInt = 0 := rfl
    refine And.intro (fun c9 => absurd c9 (by decide)) (fun _ => ?_)
    have km1 : (-1 : Int32).toInt = -1 := rfl
    exact ⟨rfl, fun e9 => absurd e9 (by decide), rfl, K, nn, dn, q, w, e, v, f, rfl, hI, hs, cw_X_r, rfl, (-1 : Int32), rfl, by first | omega | (dsimp only; omega) | trivial, by intro L hL hN; have hl := hL.1; rw [ed_sort, if_neg (by omega)]; exact ⟨hL, by show _ = _ + (0 : Int); omega, by show _ = _ + (0 : Int) * _; omega, hN, fun h8 => h8⟩⟩

set_option maxRecDepth 100000 in
set_option maxHeartbeats 2000000 in
theorem H_X10_draw (hI : cw_I K nn dn q w e) (hs : cw_S v f) (x1 : Int32) (x2 : Int32) (x3 : Int32) (p0 : (w 0).toInt < 100000) : pm_Mt l g 40 4 4 485 [.ref (q 0), .int x1, .int x2, .int x3] (cw A0 g K nn dn q w e v f) (cw_Qb A0 g K nn q (fun r K2 nn2 dn2 w2 e2 => e2 15 = e 15 ∧ (∃ x : Int32, r = some (.int x) ∧ (((w2 0).toInt ≤ (w 0).toInt + 1 ∧ (w 0).toInt ≤ (w2 0).toInt) ∧ (∀ L, rp (w nn) (e (nn + 1)) (e (nn + 2)) L → (nn : Int) = 40 + 4 * ((w 0).toInt % 41) → rp (w2 nn2) (e2 (nn2 + 1)) (e2 (nn2 + 2)) ((ed_draw L (w 1) x1 x2 x3).getD L) ∧ (w2 0).toInt = (w 0).toInt + edn (ed_draw L (w 1) x1 x2 x3) ∧ (w2 1).toInt = (w 1).toInt + edn (ed_draw L (w 1) x1 x2 x3) * (x2.toInt) ∧ (nn2 : Int) = 40 + 4 * ((w2 0).toInt % 41) ∧ (bd (w nn) (e (nn + 1)) (e (nn + 3)) → bd (w2 nn2) (e2 (nn2 + 1)) (e2 (nn2 + 3)))))))) := by
  refine mt_X10_draw rfl (fun J hC => ?_)
  have ro_nn : cw_ro K nn := hI.2.1.2.1
  have ro_dn : cw_ro K dn := hI.2.1.2.2.1
  have hu1 := hI.2.1
  unfold cw_W at hu1
  replace hu1 := And.intro hu1.1 (And.intro (And.intro hu1.2.1.1 hu1.2.1.2.1) (And.intro (And.intro hu1.2.2.1.1 hu1.2.2.1.2.1) (And.intro hu1.2.2.2.1 (And.intro hu1.2.2.2.2.2.1 hu1.2.2.2.2.2.2))))
  have zs2 := cw_sz hI ro_nn
  have zs3 := cw_sz hI ro_dn
  have rg_x1 := pm_rng x1
  have rg_x2 := pm_rng x2
  have rg_x3 := pm_rng x3
  refine hC.1 0 0 _ _ rfl _ _ _ _ _ ?_
  refine And.intro (fun c4 => ?_) (fun c4 => ?_)
  · skip
    refine hC.1 1 27 _ _ rfl _ _ _ _ _ ?_
    have k0 : (0 : Int32).toInt = 0 := rfl
    refine hC.1 2 28 _ _ rfl _ _ _ _ _ ?_
    refine And.intro (fun _ => ?_) (fun c9 => absurd c9 (by decide))
    refine hC.1 3 57 _ _ rfl _ _ _ _ _ ?_
    have km1 : (-1 : Int32).toInt = -1 := rfl
    exact ⟨rfl, fun e9 => absurd e9 (by decide), rfl, K, nn, dn, q, w, e, v, f, rfl, hI, hs, cw_X_r, rfl, (-1 : Int32), rfl, by first | omega | (dsimp only; omega) | trivial, by intro L hL hN; have hl := hL.1; rw [ed_draw, if_neg (by omega)]; exact ⟨hL, by show _ = _ + (0 : Int); omega, by show _ = _ + (0 : Int) * _; omega, hN, fun h8 => h8⟩⟩
  · skip
    have k9999 : (9999 : Int32).toInt = 9999 := rfl
    refine And.intro (fun c5 => ?_) (fun c5 => ?_)
    · skip
      refine hC.1 1 27 _ _ rfl _ _ _ _ _ ?_
      have k0 : (0 : Int32).toInt = 0 := rfl
      refine hC.1 2 28 _ _ rfl _ _ _ _ _ ?_
      refine And.intro (fun _ => ?_) (fun c9 => absurd c9 (by decide))
      refine hC.1 3 57 _ _ rfl _ _ _ _ _ ?_
      have km1 : (-1 : Int32).toInt = -1 := rfl
      exact ⟨rfl, fun e9 => absurd e9 (by decide), rfl, K, nn, dn, q, w, e, v, f, rfl, hI, hs, cw_X_r, rfl, (-1 : Int32), rfl, by first | omega | (dsimp only; omega) | trivial, by intro L hL hN; have hl := hL.1; rw [ed_draw, if_neg (by omega)]; exact ⟨hL, by show _ = _ + (0 : Int); omega, by show _ = _ + (0 : Int) * _; omega, hN, fun h8 => h8⟩⟩
    · skip
      have k1 : (1 : Int32).toInt = 1 := rfl
      refine And.intro (fun c6 => ?_) (fun c6 => ?_)
      · skip
        refine hC.1 1 27 _ _ rfl _ _ _ _ _ ?_
        have k0 : (0 : Int32).toInt = 0 := rfl
        refine hC.1 2 28 _ _ rfl _ _ _ _ _ ?_
        refine And.intro (fun _ => ?_) (fun c9 => absurd c9 (by decide))
        refine hC.1 3 57 _ _ rfl _ _ _ _ _ ?_
        have km1 : (-1 : Int32).toInt = -1 := rfl
        exact ⟨rfl, fun e9 => absurd e9 (by decide), rfl, K, nn, dn, q, w, e, v, f, rfl, hI, hs, cw_X_r, rfl, (-1 : Int32), rfl, by first | omega | (dsimp only; omega) | trivial, by intro L hL hN; have hl := hL.1; rw [ed_draw, if_neg (by omega)]; exact ⟨hL, by show _ = _ + (0 : Int); omega, by show _ = _ + (0 : Int) * _; omega, hN, fun h8 => h8⟩⟩
      · skip
        have k160 : (160 : Int32).toInt = 160 := rfl
        refine And.intro (fun c7 => ?_) (fun c7 => ?_)
        · skip
          refine hC.1 1 27 _ _ rfl _ _ _ _ _ ?_
          have k0 : (0 : Int32).toInt = 0 := rfl
          refine hC.1 2 28 _ _ rfl _ _ _ _ _ ?_
          refine And.intro (fun _ => ?_) (fun c9 => absurd c9 (by decide))
          refine hC.1 3 57 _ _ rfl _ _ _ _ _ ?_
          have km1 : (-1 : Int32).toInt = -1 := rfl
          exact ⟨rfl, fun e9 => absurd e9 (by decide), rfl, K, nn, dn, q, w, e, v, f, rfl, hI, hs, cw_X_r, rfl, (-1 : Int32), rfl, by first | omega | (dsimp only; omega) | trivial, by intro L hL hN; have hl := hL.1; rw [ed_draw, if_neg (by omega)]; exact ⟨hL, by show _ = _ + (0 : Int); omega, by show _ = _ + (0 : Int) * _; omega, hN, fun h8 => h8⟩⟩
        · skip
          refine hC.1 2 28 _ _ rfl _ _ _ _ _ ?_
          refine And.intro (fun c9 => absurd c9 (by decide)) (fun _ => ?_)
          refine And.intro (fun c8 => ?_) (fun c8 => ?_)
          · skip
            refine hC.1 3 57 _ _ rfl _ _ _ _ _ ?_
            have km1 : (-1 : Int32).toInt = -1 := rfl
            exact ⟨rfl, fun e9 => absurd e9 (by decide), rfl, K, nn, dn, q, w, e, v, f, rfl, hI, hs, cw_X_r, rfl, (-1 : Int32), rfl, by first | omega | (dsimp only; omega) | trivial, by intro L hL hN; have hl := hL.1; rw [ed_draw, if_neg (by omega)]; exact ⟨hL, by show _ = _ + (0 : Int); omega, by show _ = _ + (0 : Int) * _; omega, hN, fun h8 => h8⟩⟩
          · skip
            have k24 : (24 : Int32).toInt = 24 := rfl
            refine And.intro (fun c9 => ?_) (fun c9 => ?_)
            · skip
              refine hC.1 3 57 _ _ rfl _ _ _ _ _ ?_
              have km1 : (-1 : Int32).toInt = -1 := rfl
              exact ⟨rfl, fun e9 => absurd e9 (by decide), rfl, K, nn, dn, q, w, e, v, f, rfl, hI, hs, cw_X_r, rfl, (-1 : Int32), rfl, by first | omega | (dsimp only; omega) | trivial, by intro L hL hN; have hl := hL.1; rw [ed_draw, if_neg (by omega)]; exact ⟨hL, by show _ = _ + (0 : Int); omega, by show _ = _ + (0 : Int) * _; omega, hN, fun h8 => h8⟩⟩
            · skip
              refine Exists.intro _ (And.intro (cw_o0 hI.1) ?_)
              refine And.intro (Exists.intro _ (cw_o1 hI.1)) (Exists.intro _ (Exists.intro _ (Exists.intro _ (Exists.intro _ (And.intro (c_X9_hasRoomFor hI hs x2 (by omega)) (And.intro rfl (fun r9 A9 h9 => ?_)))))))
              rcases h9 with ⟨y10, rfl, rfl, ⟨rfl, by10⟩ | ⟨rfl, by10⟩⟩
              · skip
                refine And.intro (fun _ => ?_) (fun c9 => absurd c9 (by decide))
                refine hC.1 4 59 _ _ rfl _ _ _ _ _ ?_
                refine Exists.intro _ (And.intro (cw_o0 hI.1) ?_)
                refine And.intro (Exists.intro _ (cw_o1 hI.1)) (Exists.intro _ (Exists.intro _ (Exists.intro _ (Exists.intro _ (And.intro (F_X9_begin hI hs  (by omega)) (And.intro rfl (fun r9 A9 h9 => ?_)))))))
                obtain ⟨K13, dn13, q13, w13, e13, rfl, rfl, hI13, hX13, hk13, hw13, hy13, hdn13, hfm13, hz13⟩ := h9
                have hq13_0 : q 0 = q13 0 := (hX13.2.1 0 (by omega)).symm
                rw [hq13_0]
                have hw13_0 := congrArg Int32.toInt hw13.1
                have hw13_1 := congrArg Int32.toInt hw13.2.1
                have hw13_3 := congrArg Int32.toInt hw13.2.2.2
                have ro13 : cw_ro K13 dn13 := hI13.2.1.2.2.1
                have rn13 : cw_ro K13 nn := hI13.2.1.2.1
                have hx13 : e13 15 = e 15 := hy13.trans rfl
                have hu14 := hI13.2.1
                unfold cw_W at hu14
                replace hu14 := And.intro hu14.1 (And.intro (And.intro hu14.2.1.1 hu14.2.1.2.1) (And.intro (And.intro hu14.2.2.1.1 hu14.2.2.1.2.1) (And.intro hu14.2.2.2.1 (And.intro hu14.2.2.2.2.2.1 hu14.2.2.2.2.2.2))))
                have zs15 := cw_sz hI13 rn13
                have zs16 := cw_sz hI13 ro13
                have hz9 := hz13
                have hL13 : ∀ L, rp (w nn) (e (nn + 1)) (e (nn + 2)) L → (nn : Int) = 40 + 4 * ((w 0).toInt % 41) → nn ≠ dn13 ∧ rp (w13 nn) (e13 (nn + 1)) (e13 (nn + 2)) L := hL_b ro_nn ro13 hdn13 hfm13
                refine Exists.intro _ (And.intro (cw_o0 hI13.1) ?_)
                have k0 : (0 : Int32).toInt = 0 := rfl
                refine Exists.intro _ (And.intro (cw_o0 hI13.1) ?_)
                refine Exists.intro _ (And.intro (cw_o1 hI13.1) ?_)
                refine Exists.intro _ (And.intro (cw_ro_o hI13.1 rn13) ?_)
                have z17 := cw_sz hI13 rn13
                intro m18 em_82
                try have e18 : m18.toInt = ((w13 nn)).toInt - (1) := by rw [em_82]; exact pm_subc _ _ (1) rfl (by omega) (by omega)
                have hp_83 := hL13
                refine And.intro (Exists.intro _ (cw_o1 hI13.1)) (Exists.intro _ (Exists.intro _ (Exists.intro _ (Exists.intro _ (And.intro (F_X9_keep hI13 hs (0 : Int32) m18 ) (And.intro rfl (fun r9 A9 h9 => ?_)))))))
                rcases h9 with ⟨w20, e20, v20, f20, rfl, hI20, hs20, hy20, rfl, by19⟩
                have hx20 : e20 15 = e 15 := hy20.trans hx13
                have zs21 := cw_sz hI20 rn13
                have zs22 := cw_sz hI20 ro13
                have hb_83 := by19.2
                have hL20 : ∀ L, rp (w nn) (e (nn + 1)) (e (nn + 2)) L → (nn : Int) = 40 + 4 * ((w 0).toInt % 41) → nn ≠ dn13 ∧ rp (w20 nn) (e20 (nn + 1)) (e20 (nn + 2)) L := hL_k hL13 rn13 ro13 hb_83.1
                have sw20_0 : (w20 0).toInt = (w 0).toInt := by19.1.1.trans hw13_0
                have sw20_1 : (w20 1).toInt = (w 1).toInt := by19.1.2.1.trans hw13_1
                have sw20_3 : (w20 3).toInt = (w 3).toInt := by19.1.2.2.trans hw13_3
                clear by19
                have lp24 : ∀ (n : Nat) (z5_92 : Int32) (z6_92 : Int32) (w23 : Nat → Int32) (e23 : Nat → Nat → Int32) (v23 : Nat → Int32) (f23 : Nat → Nat → Int32), cw_I K13 nn dn13 q13 w23 e23 → e23 15 = e 15 → (∀ L, rp (w nn) (e (nn + 1)) (e (nn + 2)) L → (nn : Int) = 40 + 4 * ((w 0).toInt % 41) → nn ≠ dn13 ∧ rp (w23 nn) (e23 (nn + 1)) (e23 (nn + 2)) L) → cw_S v23 f23 → (0 ≤ z6_92.toInt ∧ z6_92.toInt ≤ x2.toInt) → (0 ≤ z5_92.toInt ∧ z5_92.toInt ≤ 10006) → ((w23 1).toInt = (w 1).toInt + z6_92.toInt) → (z5_92.toInt = ds x1.toInt z6_92.toInt.toNat) → (∀ L, rp (w nn) (e (nn + 1)) (e (nn + 2)) L → (nn : Int) = 40 + 4 * ((w 0).toInt % 41) → rp (w23 dn13) (e23 (dn13 + 1)) (e23 (dn13 + 2)) (L ++ nw_l (w 1) (dr_l x1.toInt x3.toInt z6_92.toInt.toNat))) → (w23 0).toInt = (w 0).toInt → (w23 3).toInt = (w 3).toInt → 200 - z6_92.toInt < (n : Int) → J 92 [some (.ref (q13 0)), some (.int x1), some (.int x2), some (.int x3), some (.int (1 : Int32)), some (.int z5_92), some (.int z6_92)] [] (cw A0 g K13 nn dn13 q13 w23 e23 v23 f23) 4 485 := by
                  intro n
                  induction n with
                  | zero =>
                    intro z5_92 z6_92 w23 e23 v23 f23 hI23 hx23 hL23 hs23 j0_92 j1_92 j2_92 j3_92 j4_92 j5_92 j6_92 j7_92
                    clear hu14 zs15 zs16 zs21 zs22 sw20_0 sw20_1 sw20_3
                    omega
                  | succ n ih25 =>
                    intro z5_92 z6_92 w23 e23 v23 f23 hI23 hx23 hL23 hs23 j0_92 j1_92 j2_92 j3_92 j4_92 j5_92 j6_92 j7_92
                    clear hu14 zs15 zs16 zs21 zs22 sw20_0 sw20_1 sw20_3
                    obtain ⟨g92, eg92⟩ : ∃ z9, z9 = w23 1 := ⟨_, rfl⟩
                    have hu26 := hI23.2.1
                    unfold cw_W at hu26
                    replace hu26 := And.intro hu26.1 (And.intro (And.intro hu26.2.1.1 hu26.2.1.2.1) (And.intro (And.intro hu26.2.2.1.1 hu26.2.2.1.2.1) (And.intro hu26.2.2.2.1 (And.intro hu26.2.2.2.2.2.1 hu26.2.2.2.2.2.2))))
                    have zs27 := cw_sz hI23 rn13
                    have zs28 := cw_sz hI23 ro13
                    refine hC.1 5 92 _ _ rfl _ _ _ _ _ ?_
                    refine And.intro (fun c29 => ?_) (fun c29 => ?_)
                    · skip
                      refine hC.1 6 130 _ _ rfl _ _ _ _ _ ?_
                      refine Exists.intro _ (And.intro (cw_o0 hI23.1) ?_)
                      have hp_134 := hL23
                      refine And.intro (Exists.intro _ (cw_o1 hI23.1)) (Exists.intro _ (Exists.intro _ (Exists.intro _ (Exists.intro _ (And.intro (G_X9_finish hI23 hs23  (by omega) (by omega)) (And.intro rfl (fun r9 A9 h9 => ?_)))))))
                      rcases h9 with ⟨w31, e31, v31, f31, rfl, hI31, hs31, hy31, y30, rfl, by30⟩
                      have hx31 : e31 15 = e 15 := hy31.trans hx23
                      have hu32 := hI31.2.1.2.2.2.1
                      have hu33 := hI31.2.1.2.2.2.2.1
                      have zs34 := cw_sz hI31 ro13
                      have zs35 := cw_sz hI31 ro13
                      have hb_134 := by30.2
                      have sw31_1 : (w31 1).toInt = (w23 1).toInt := by30.1.1
                      have sw31_3 : (w31 3).toInt = (w23 3).toInt := by30.1.2.1
                      have sp31 := by30.1.2.2
                      clear by30
                      exact ⟨rfl, fun e9 => absurd e9 (by decide), rfl, K13, dn13, dn13, q13, w31, e31, v31, f31, rfl, hI31, hs31, hX13, hx31, y30, rfl, by first | omega | (dsimp only; omega) | trivial, by intro L hL hN; have hl := hL.1; rw [ed_draw, if_pos (by omega)]; have t2 := j4_92 L hL hN; rw [show z6_92.toInt.toNat = x2.toInt.toNat by omega] at t2; exact ⟨hb_134.2.1 _ t2, by show _ = _ + (1 : Int); omega, by show _ = _ + (1 : Int) * _; omega, by omega, fun _ => hb_134.2.2⟩⟩
                    · skip
                      have k137 : (137 : Int32).toInt = 137 := rfl
                      intro m36 em_103
                      try have e36 : m36.toInt = (z5_92).toInt * (137) := by rw [em_103]; exact pm_mulc _ _ (137) rfl (by omega) (by omega)
                      have k71 : (71 : Int32).toInt = 71 := rfl
                      intro m37 em_106
                      try have e37 : m37.toInt = (m36).toInt + (71) := by rw [em_106]; exact pm_addc _ _ (71) rfl (by omega) (by omega)
                      have k10007 : (10007 : Int32).toInt = 10007 := rfl
                      refine And.intro (by decide) ?_
                      intro m38 em_110
                      have e38 : 0 ≤ m38.toInt ∧ m38.toInt < 10007 ∧ m38.toInt = (m37).toInt % 10007 := by rw [em_110]; exact pm_remc _ _ 10007 rfl (by omega) (by decide)
                      have hd1 : ds x1.toInt (z6_92.toInt.toNat + 1) = m38.toInt := by show (137 * ds x1.toInt z6_92.toInt.toNat + 71) % 10007 = _; rw [← j3_92]; omega
                      refine Exists.intro _ (And.intro (cw_o0 hI23.1) ?_)
                      refine And.intro (fun e9 => by have e8 := congrArg Int32.toInt e9; have e7 : (0 : Int32).toInt = 0 := rfl; omega) ?_
                      intro m39 em_120
                      try have e39 := pm_rem m38 x3 (by omega) (by omega)
                      try rw [← em_120] at e39
                      obtain ⟨cc9, hcc9⟩ : ∃ z9, z9 = m39 := ⟨_, rfl⟩
                      have ecc := pm_rem m38 x3 (by omega) (by omega)
                      rw [← em_120, ← hcc9] at ecc
                      have hp_121 := hL23
                      refine And.intro (Exists.intro _ (cw_o1 hI23.1)) (Exists.intro _ (Exists.intro _ (Exists.intro _ (Exists.intro _ (And.intro (F_X9_add hI23 hs23 m39 (by omega) (by omega)) (And.intro rfl (fun r9 A9 h9 => ?_)))))))
                      rcases h9 with ⟨w41, e41, v41, f41, rfl, hI41, hs41, hy41, rfl, by40⟩
                      have hx41 : e41 15 = e 15 := hy41.trans hx23
                      have hu42 := hI41.2.1.2.2.2.2.2.1
                      have zs43 := cw_sz hI41 rn13
                      have zs44 := cw_sz hI41 ro13
                      have hb_121 := by40.2
                      have hL41 : ∀ L, rp (w nn) (e (nn + 1)) (e (nn + 2)) L → (nn : Int) = 40 + 4 * ((w 0).toInt % 41) → nn ≠ dn13 ∧ rp (w41 nn) (e41 (nn + 1)) (e41 (nn + 2)) L := hL_k hL23 rn13 ro13 hb_121.1
                      have sw41_0 : (w41 0).toInt = (w23 0).toInt := by40.1.1
                      have sw41_3 : (w41 3).toInt = (w23 3).toInt := by40.1.2.1
                      have sp41 := by40.1.2.2
                      clear by40
                      intro m45 em_124
                      try have e45 : m45.toInt = (z6_92).toInt + (1) := by rw [em_124]; exact pm_addc _ _ (1) rfl (by omega) (by omega)
                      exact ih25 m38 m45 w41 e41 v41 f41 hI41 hx41 hL41 hs41 (by omega) (by omega) (by omega) (by rw [show m45.toInt.toNat = z6_92.toInt.toNat + 1 by omega, hd1]) (by intro L hL hN; have hl := hL.1; have t2 := hb_121.2 _ (j4_92 L hL hN) (by first | omega | (simp only [List.length_append, List.length_nil, List.length_cons, List.length_map, List.length_reverse, nw_len, dr_len]; omega)); rw [← eg92] at t2; have h5 : Int32.ofInt (m38.toInt % x3.toInt) = cc9 := (by rw [← ecc.2.2, Int32.ofInt_toInt]); rw [show m45.toInt.toNat = z6_92.toInt.toNat + 1 by omega, dr_s, hd1, nw_app (g2 := g92) (by rw [eg92, dr_len]; omega) (by rw [dr_len]; omega), ← List.append_assoc, h5, hcc9]; exact t2) (by omega) (by omega) (by omega)
                exact lp24 (200 - (0 : Int32).toInt).toNat.succ x1 (0 : Int32) w20 e20 v20 f20 hI20 hx20 hL20 hs20 (by omega) (by omega) (by omega) (by rfl) (by intro L hL hN; have hl := hL.1; have q1 := hp_83 L hL hN; have z1 := q1.2.1; have t1 := hb_83.2 L ([]) (0) (L.length) q1.2 q1.1 (by omega) (by omega) (by omega) (by omega) (by omega) (by first | omega | (simp only [List.length_append, List.length_nil, List.length_cons, List.length_map, List.length_reverse, nw_len, dr_len]; omega)) (rp_0 hz9); have k1 := si_len (L := L) (a := 0) (b := L.length) (by omega) (by omega) (by omega); rw [List.nil_append] at t1; rw [si_all] at t1; show rp _ _ _ (L ++ []); rw [List.append_nil]; exact t1) (by omega) (by omega) (by omega)
              · skip
                have k0 : (0 : Int32).toInt = 0 := rfl
                refine And.intro (fun c9 => absurd c9 (by decide)) (fun _ => ?_)
                refine hC.1 3 57 _ _ rfl _ _ _ _ _ ?_
                have km1 : (-1 : Int32).toInt = -1 := rfl
                exact ⟨rfl, fun e9 => absurd e9 (by decide), rfl, K, nn, dn, q, w, e, v, f, rfl, hI, hs, cw_X_r, rfl, (-1 : Int32), rfl, by first | omega | (dsimp only; omega) | trivial, by intro L hL hN; have hl := hL.1; rw [ed_draw, if_neg (by omega)]; exact ⟨hL, by show _ = _ + (0 : Int); omega, by show _ = _ + (0 : Int) * _; omega, hN, fun h8 => h8⟩⟩

end
end
section
/-! what is told of a row, as functions of its colours c, names m, number n: at, colour, close -/
theorem lastEq_eq {c d : Nat → Int32} {x : Int32} : ∀ k : Nat, (∀ j, j < k → c j = d j) → lastEq c x k = lastEq d x k
  | 0, _ => rfl
  | k + 1, h => by
    have ih := lastEq_eq (x := x) k (fun j hj => h j (by omega))
    show (if c k = x then (k : Int) else lastEq c x k) = (if d k = x then (k : Int) else lastEq d x k)
    rw [h k (by omega), ih]
end
section
/-! colours by their bits: the k-th, those with more than a part -/
noncomputable def bf (s : Int32) (j : Nat) : Int32 := if bt s j = true then 1 else 0
theorem bf_1 {s : Int32} {j : Nat} : bf s j = 1 ↔ bt s j = true := by
  unfold bf
  by_cases h : bt s j = true
  · rw [if_pos h]; exact ⟨fun _ => h, fun _ => rfl⟩
  · rw [if_neg h]; exact ⟨fun e => absurd e (by decide), fun e => absurd e h⟩
theorem an_1 {s c : Int32} (h : 0 ≤ c.toInt ∧ c.toInt ≤ 31) : s &&& ((1 : Int32) <<< (c &&& 31)) = 0 ↔ bt s c.toInt.toNat = false := by
  constructor
  · intro e
    have h1 := b_and s ((1 : Int32) <<< (c &&& 31)) c.toInt.toNat
    rw [e, b_0, b_one h (by omega), decide_eq_true rfl, Bool.and_true] at h1
    exact h1.symm
  · intro e
    refine b_ext (fun i hi => ?_)
    rw [b_and, b_one h hi, b_0]
    by_cases q : i = c.toInt.toNat
    · rw [q, e]; rfl
    · rw [decide_eq_false q, Bool.and_false]
theorem by1 {s c : Int32} (h : 0 ≤ c.toInt ∧ c.toInt ≤ 31) (e : ¬ s &&& ((1 : Int32) <<< (c &&& 31)) = 0) : bf s c.toInt.toNat = 1 := by
  refine bf_1.mpr ?_
  cases q : bt s c.toInt.toNat with
  | true => rfl
  | false => exact absurd ((an_1 h).mpr q) e
end
section
/-! spans alike by pattern -/
noncomputable def stp (c : Nat → Int32) (l : Int) (p : Nat) : Int := if l ≤ lastEq c (c p) p then (p : Int) - lastEq c (c p) p else 0
theorem stp_eq {c d : Nat → Int32} {n l : Int} {p : Nat} (hc : ∀ j : Nat, (j : Int) < n → c j = d j) (hp : (p : Int) < n) : stp c l p = stp d l p := by
  unfold stp
  rw [hc p hp, lastEq_eq p (fun j hj => hc j (by omega))]
noncomputable def gp (c : Nat → Int32) (p : Nat) : Int := if lastEq c (c p) p < 0 then 268435456 else (p : Int) - lastEq c (c p) p
theorem stp_0 {c : Nat → Int32} {a n : Int} {p : Nat} (hp : (p : Int) = a + n) (h0 : 0 ≤ a) (h : n < gp c p) : stp c a p = 0 := by
  unfold gp at h
  unfold stp
  by_cases e : lastEq c (c p) p < 0
  · rw [if_neg (by omega)]
  · rw [if_neg e] at h; rw [if_neg (by omega)]
theorem stp_1 {c : Nat → Int32} {a n : Int} {p : Nat} (hp : (p : Int) = a + n) (hn : n ≤ 1000) (h : ¬ n < gp c p) : stp c a p = gp c p := by
  unfold gp at h ⊢
  unfold stp
  by_cases e : lastEq c (c p) p < 0
  · rw [if_pos e] at h; omega
  · rw [if_neg e] at h ⊢; rw [if_pos (by omega)]
/-! sets of spans of one length -/
end
section
section
variable {l : Launch} {g : pm_G} {A0 : pm_H} {K nn dn : Nat} {q : Nat → Nat} {w : Nat → Int32} {e : Nat → Nat → Int32} {v : Nat → Int32} {f : Nat → Nat → Int32}
set_option maxRecDepth 100000 in
set_option maxHeartbeats 2000000 in
theorem F_X4_stepWithin (hI : cw_I K nn dn q w e) (hs : cw_S v f) {o0 : Nat} (ho0 : cw_ro K o0) (x1 : Int32) (x2 : Int32) (p0 : 0 ≤ x2.toInt ∧ x2.toInt < (w o0).toInt) (p1 : bd (w o0) (e (o0 + 1)) (e (o0 + 3))) : pm_Mt l g 137 0 0 0 [.ref (q o0), .int x1, .int x2] (cw A0 g K nn dn q w e v f) (md_Qp (cw A0 g K nn dn q w e v f) (fun r => r.toInt = stp (e (o0 + 1)) x1.toInt x2.toInt.toNat)) := by
  refine mt_X4_stepWithin rfl (fun J hC => ?_)
  have ro_nn : cw_ro K nn := hI.2.1.2.1
  have ro_dn : cw_ro K dn := hI.2.1.2.2.1
  have hu1 := hI.2.1
  unfold cw_W at hu1
  have rg_x1 := pm_rng x1
  have rg_x2 := pm_rng x2
  have zz0 := cw_sz hI ho0
  refine hC.1 0 0 _ _ rfl _ _ _ _ _ ?_
  refine Exists.intro _ (And.intro (cw_ro_o hI.1 ho0) ?_)
  have ba_9 := p1 x2.toInt.toNat (by omega)
  have lt_9 := lastEq_lt (e (o0 + 1)) ((e (o0 + 1)) x2.toInt.toNat) x2.toInt.toNat
  refine Exists.intro _ (Exists.intro _ (And.intro (Or.inl (cw_ro_3 hI.1 ho0)) (And.intro (by omega) ?_)))
  have w2 := cw_ahd hI ho0 (x2).toInt.toNat
  refine And.intro (fun c3 => ?_) (fun c3 => ?_)
  · skip
    refine hC.1 1 21 _ _ rfl _ _ _ _ _ ?_
    have k0 : (0 : Int32).toInt = 0 := rfl
    refine hC.1 2 22 _ _ rfl _ _ _ _ _ ?_
    exact ⟨rfl, fun e9 => absurd e9 (by decide), rfl, (0 : Int32), rfl, rfl, by unfold stp; first | (rw [if_pos (by omega)]; omega) | (rw [if_neg (by omega)]; rfl)⟩
  · skip
    refine Exists.intro _ (And.intro (cw_ro_o hI.1 ho0) ?_)
    refine Exists.intro _ (Exists.intro _ (And.intro (Or.inl (cw_ro_3 hI.1 ho0)) (And.intro (by omega) ?_)))
    have w4 := cw_ahd hI ho0 (x2).toInt.toNat
    intro m5 em_17
    try have e5 : m5.toInt = (x2).toInt - ((e (o0 + 3) (x2).toInt.toNat)).toInt := by rw [em_17]; exact pm_sub _ _ (by omega) (by omega)
    refine hC.1 2 22 _ _ rfl _ _ _ _ _ ?_
    exact ⟨rfl, fun e9 => absurd e9 (by decide), rfl, m5, rfl, rfl, by unfold stp; first | (rw [if_pos (by omega)]; omega) | (rw [if_neg (by omega)]; rfl)⟩

end
end
section
section
variable {l : Launch} {g : pm_G} {A0 : pm_H} {h : Nat} {q : Nat → Nat}
set_option maxRecDepth 100000 in
set_option maxHeartbeats 2000000 in
theorem G_X11_layGaps (D : md_D h q) (v : Nat → Int32) (f : Nat → Nat → Int32) (hv : md_V v) (hf : md_F f)  : pm_Mt l g 268 1 0 0 [.ref h] (md A0 g h q v f) (md_Qv A0 g h q f (fun v2 f2 => f2 0 = f 0 ∧ f2 1 = f 1 ∧ ((v2 0).toInt = (v 0).toInt ∧ (v2 1).toInt = (v 1).toInt ∧ (v2 2).toInt = (v 2).toInt ∧ (v2 3).toInt = (v 3).toInt ∧ (v2 4).toInt = (v 4).toInt ∧ (v2 6).toInt = (v 6).toInt) ∧ (∀ p : Nat, (p : Int) < (v 0).toInt → (f2 17 p).toInt = gp (f 0) p))) := by
  refine mt_X11_layGaps rfl (fun J hC => ?_)
  have hv9 := hv
  unfold md_V at hv9
  refine hC.1 0 0 _ _ rfl _ _ _ _ _ ?_
  have k0 : (0 : Int32).toInt = 0 := rfl
  have lp2 : ∀ (n : Nat) (z1_2 : Int32) (v1 : Nat → Int32) (f1 : Nat → Nat → Int32), md_V v1 → md_F f1 → f1 2 = f 2 → f1 0 = f 0 → f1 1 = f 1 → (0 ≤ z1_2.toInt ∧ z1_2.toInt ≤ (v 0).toInt) → (∀ p : Nat, (p : Int) < z1_2.toInt → (f1 17 p).toInt = gp (f 0) p) → (v1 0).toInt = (v 0).toInt → (v1 1).toInt = (v 1).toInt → (v1 2).toInt = (v 2).toInt → (v1 3).toInt = (v 3).toInt → (v1 4).toInt = (v 4).toInt → (v1 6).toInt = (v 6).toInt → 200 - z1_2.toInt < (n : Int) → J 2 [some (.ref h), some (.int z1_2)] [] (md A0 g h q v1 f1) 0 0 := by
    intro n
    induction n with
    | zero =>
      intro z1_2 v1 f1 hv1 hf1 hw1 hr1_0 hr1_1 j0_2 j1_2 j2_2 j3_2 j4_2 j5_2 j6_2 j7_2 j8_2
      omega
    | succ n ih3 =>
      intro z1_2 v1 f1 hv1 hf1 hw1 hr1_0 hr1_1 j0_2 j1_2 j2_2 j3_2 j4_2 j5_2 j6_2 j7_2 j8_2
      refine hC.1 1 2 _ _ rfl _ _ _ _ _ ?_
      refine Exists.intro _ (And.intro md_o ?_)
      refine And.intro (fun c5 => ?_) (fun c5 => ?_)
      · skip
        refine hC.1 4 42 _ _ rfl _ _ _ _ _ ?_
        exact ⟨rfl, rfl, v1, f1, rfl, rfl, hv1, hf1, hw1, hr1_0, hr1_1, by first | omega | (dsimp only; omega) | trivial, by intro p9 h9; exact j1_2 p9 (by omega)⟩
      · skip
        refine Exists.intro _ (And.intro md_o ?_)
        refine And.intro (Exists.intro _ md_o) (Exists.intro _ (Exists.intro _ (Exists.intro _ (Exists.intro _ (And.intro (c_X11_ahead D v1 f1 hv1 hf1 z1_2 (by omega)) (And.intro rfl (fun r9 A9 h9 => ?_)))))))
        obtain ⟨y6, rfl, rfl, by6⟩ := h9
        have ya_9 : y6.toInt = lastEq (f 0) (f 0 z1_2.toInt.toNat) z1_2.toInt.toNat := (by rw [by6, hr1_0])
        have lt_9 := lastEq_lt (f 0) (f 0 z1_2.toInt.toNat) z1_2.toInt.toNat
        refine And.intro (fun c7 => ?_) (fun c7 => ?_)
        · skip
          refine hC.1 2 28 _ _ rfl _ _ _ _ _ ?_
          refine And.intro (Exists.intro _ md_o) (Exists.intro _ (Exists.intro _ (Exists.intro _ (Exists.intro _ (And.intro (c_X11_ahead D v1 f1 hv1 hf1 z1_2 (by omega)) (And.intro rfl (fun r9 A9 h9 => ?_)))))))
          obtain ⟨y8, rfl, rfl, by8⟩ := h9
          have yb_9 : y8.toInt = lastEq (f 0) (f 0 z1_2.toInt.toNat) z1_2.toInt.toNat := (by rw [by8, hr1_0])
          intro m9 em_34
          try have e9 : m9.toInt = (z1_2).toInt - (y8).toInt := by rw [em_34]; exact pm_sub _ _ (by omega) (by omega)
          refine hC.1 3 35 _ _ rfl _ _ _ _ _ ?_
          refine Exists.intro _ (Exists.intro _ (And.intro (md_a_gaps D) (And.intro (by omega) ?_)))
          rw [md_s_gaps D]
          obtain ⟨f10, ef10⟩ : ∃ z9, z9 = va_up f1 17 (upd (f1 17) (z1_2).toInt.toNat m9) := ⟨_, rfl⟩
          rw [← ef10]
          have pf_35 : f10 17 = upd (f1 17) (z1_2).toInt.toNat m9 := by rw [ef10]; exact if_pos rfl
          have pg_35 : ∀ i9, i9 ≠ 17 → f10 i9 = f1 i9 := fun i9 h9 => by rw [ef10]; exact if_neg h9
          have hf10 : md_F f10 := by rw [ef10]; exact md_F_st hf1 17 _ _ (md_rng _ _ (by decide))
          have hw10 : f10 2 = f 2 := (show f10 2 = f1 2 by rw [ef10]; rfl).trans hw1
          have hr10_0 : f10 0 = f 0 := (show f10 0 = f1 0 by rw [ef10]; rfl).trans hr1_0
          have hr10_1 : f10 1 = f 1 := (show f10 1 = f1 1 by rw [ef10]; rfl).trans hr1_1
          have k1 : (1 : Int32).toInt = 1 := rfl
          intro m11 em_36
          try have e11 : m11.toInt = (z1_2).toInt + (1) := by rw [em_36]; exact pm_addc _ _ (1) rfl (by omega) (by omega)
          exact ih3 m11 v1 f10 hv1 hf10 hw10 hr10_0 hr10_1 (by omega) (by intro p9 h9; rw [pf_35]; by_cases h8 : p9 = z1_2.toInt.toNat; (rw [h8, pk_us]; unfold gp; first | (rw [if_pos (by omega)]; rfl) | (rw [if_neg (by omega)]; omega)); (rw [pk_un h8]; exact j1_2 p9 (by omega))) (by omega) (by omega) (by omega) (by omega) (by omega) (by omega) (by omega)
        · skip
          have k268435456 : (268435456 : Int32).toInt = 268435456 := rfl
          refine hC.1 3 35 _ _ rfl _ _ _ _ _ ?_
          refine Exists.intro _ (Exists.intro _ (And.intro (md_a_gaps D) (And.intro (by omega) ?_)))
          rw [md_s_gaps D]
          obtain ⟨f12, ef12⟩ : ∃ z9, z9 = va_up f1 17 (upd (f1 17) (z1_2).toInt.toNat (268435456 : Int32)) := ⟨_, rfl⟩
          rw [← ef12]
          have pf_35 : f12 17 = upd (f1 17) (z1_2).toInt.toNat (268435456 : Int32) := by rw [ef12]; exact if_pos rfl
          have pg_35 : ∀ i9, i9 ≠ 17 → f12 i9 = f1 i9 := fun i9 h9 => by rw [ef12]; exact if_neg h9
          have hf12 : md_F f12 := by rw [ef12]; exact md_F_st hf1 17 _ _ (md_rng _ _ (by decide))
          have hw12 : f12 2 = f 2 := (show f12 2 = f1 2 by rw [ef12]; rfl).trans hw1
          have hr12_0 : f12 0 = f 0 := (show f12 0 = f1 0 by rw [ef12]; rfl).trans hr1_0
          have hr12_1 : f12 1 = f 1 := (show f12 1 = f1 1 by rw [ef12]; rfl).trans hr1_1
          have k1 : (1 : Int32).toInt = 1 := rfl
          intro m13 em_36
          try have e13 : m13.toInt = (z1_2).toInt + (1) := by rw [em_36]; exact pm_addc _ _ (1) rfl (by omega) (by omega)
          exact ih3 m13 v1 f12 hv1 hf12 hw12 hr12_0 hr12_1 (by omega) (by intro p9 h9; rw [pf_35]; by_cases h8 : p9 = z1_2.toInt.toNat; (rw [h8, pk_us]; unfold gp; first | (rw [if_pos (by omega)]; rfl) | (rw [if_neg (by omega)]; omega)); (rw [pk_un h8]; exact j1_2 p9 (by omega))) (by omega) (by omega) (by omega) (by omega) (by omega) (by omega) (by omega)
  exact lp2 (200 - (0 : Int32).toInt).toNat.succ (0 : Int32) v f hv hf rfl rfl rfl (by omega) (by intro p9 h9; omega) (by omega) (by omega) (by omega) (by omega) (by omega) (by omega) (by omega)

end
end
section
section
variable {l : Launch} {g : pm_G} {A0 : pm_H} {h : Nat} {q : Nat → Nat}
set_option maxRecDepth 100000 in
set_option maxHeartbeats 2000000 in
theorem F_X11_matched (D : md_D h q) (v : Nat → Int32) (f : Nat → Nat → Int32) (hv : md_V v) (hf : md_F f) (x1 : Int32) (x2 : Int32) (x3 : Int32) (p0 : 0 ≤ x1.toInt ∧ x1.toInt ≤ 160) (p1 : 0 ≤ x2.toInt ∧ x2.toInt ≤ 160) (p2 : x3.toInt ≤ 160) (p3 : ∀ p : Nat, (p : Int) < (v 0).toInt → (f 17 p).toInt = gp (f 0) p) : pm_Mt l g 269 0 0 0 [.ref h, .int x1, .int x2, .int x3] (md A0 g h q v f) (md_Qp (md A0 g h q v f) (fun r => (0 ≤ r.toInt ∧ r.toInt ≤ 160) ∧ (r.toInt = 0 ∨ (r.toInt ≤ x3.toInt ∧ x1.toInt + r.toInt ≤ (v 0).toInt ∧ x2.toInt + r.toInt ≤ (v 0).toInt)) ∧ (∀ i : Nat, (i : Int) < r.toInt → stp (f 0) x1.toInt (x1.toInt.toNat + i) = stp (f 0) x2.toInt (x2.toInt.toNat + i)) ∧ (r.toInt < x3.toInt → x1.toInt + r.toInt < (v 0).toInt → x2.toInt + r.toInt < (v 0).toInt → ¬ stp (f 0) x1.toInt (x1.toInt.toNat + r.toInt.toNat) = stp (f 0) x2.toInt (x2.toInt.toNat + r.toInt.toNat)))) := by
  refine mt_X11_matched rfl (fun J hC => ?_)
  have hv9 := hv
  unfold md_V at hv9
  have rg_x1 := pm_rng x1
  have rg_x2 := pm_rng x2
  have rg_x3 := pm_rng x3
  refine hC.1 0 0 _ _ rfl _ _ _ _ _ ?_
  have k0 : (0 : Int32).toInt = 0 := rfl
  have lp1 : ∀ (n : Nat) (z4_3 : Int32), (0 ≤ z4_3.toInt ∧ z4_3.toInt ≤ 160) → (z4_3.toInt = 0 ∨ (z4_3.toInt ≤ x3.toInt ∧ x1.toInt + z4_3.toInt ≤ (v 0).toInt ∧ x2.toInt + z4_3.toInt ≤ (v 0).toInt)) → (∀ i : Nat, (i : Int) < z4_3.toInt → stp (f 0) x1.toInt (x1.toInt.toNat + i) = stp (f 0) x2.toInt (x2.toInt.toNat + i)) → 200 - z4_3.toInt < (n : Int) → J 3 [some (.ref h), some (.int x1), some (.int x2), some (.int x3), some (.int z4_3)] [] (md A0 g h q v f) 0 0 := by
    intro n
    induction n with
    | zero =>
      intro z4_3 j0_3 j1_3 j2_3 j3_3
      omega
    | succ n ih2 =>
      intro z4_3 j0_3 j1_3 j2_3 j3_3
      refine hC.1 1 3 _ _ rfl _ _ _ _ _ ?_
      refine And.intro (fun c3 => ?_) (fun c3 => ?_)
      · skip
        refine hC.1 6 94 _ _ rfl _ _ _ _ _ ?_
        exact ⟨rfl, fun e9 => absurd e9 (by decide), rfl, z4_3, rfl, rfl, by refine ⟨by omega, j1_3, j2_3, fun h9 h8 h7 => ?_⟩; first | (exact absurd h9 (by omega)) | (exact absurd h8 (by omega)) | (exact absurd h7 (by omega)) | (intro h6; rw [ys_1, ys_2] at h6; first | (exact absurd h6 (by assumption)) | omega)⟩
      · skip
        intro m4 em_12
        try have e4 : m4.toInt = (x1).toInt + (z4_3).toInt := by rw [em_12]; exact pm_add _ _ (by omega) (by omega)
        refine Exists.intro _ (And.intro md_o ?_)
        refine And.intro (fun c5 => ?_) (fun c5 => ?_)
        · skip
          refine hC.1 6 94 _ _ rfl _ _ _ _ _ ?_
          exact ⟨rfl, fun e9 => absurd e9 (by decide), rfl, z4_3, rfl, rfl, by refine ⟨by omega, j1_3, j2_3, fun h9 h8 h7 => ?_⟩; first | (exact absurd h9 (by omega)) | (exact absurd h8 (by omega)) | (exact absurd h7 (by omega)) | (intro h6; rw [ys_1, ys_2] at h6; first | (exact absurd h6 (by assumption)) | omega)⟩
        · skip
          intro m6 em_23
          try have e6 : m6.toInt = (x2).toInt + (z4_3).toInt := by rw [em_23]; exact pm_add _ _ (by omega) (by omega)
          refine Exists.intro _ (And.intro md_o ?_)
          refine And.intro (fun c7 => ?_) (fun c7 => ?_)
          · skip
            refine hC.1 6 94 _ _ rfl _ _ _ _ _ ?_
            exact ⟨rfl, fun e9 => absurd e9 (by decide), rfl, z4_3, rfl, rfl, by refine ⟨by omega, j1_3, j2_3, fun h9 h8 h7 => ?_⟩; first | (exact absurd h9 (by omega)) | (exact absurd h8 (by omega)) | (exact absurd h7 (by omega)) | (intro h6; rw [ys_1, ys_2] at h6; first | (exact absurd h6 (by assumption)) | omega)⟩
          · skip
            refine Exists.intro _ (And.intro md_o ?_)
            intro m8 em_38
            try have e8 : m8.toInt = (x1).toInt + (z4_3).toInt := by rw [em_38]; exact pm_add _ _ (by omega) (by omega)
            have yk_1 : (f 17 (m8).toInt.toNat).toInt = gp (f 0) (x1.toInt.toNat + z4_3.toInt.toNat) := (by have h9 : (m8).toInt.toNat = x1.toInt.toNat + z4_3.toInt.toNat := (by omega); rw [h9]; exact p3 _ (by omega))
            refine Exists.intro _ (Exists.intro _ (And.intro (Or.inl (md_a_gaps D)) (And.intro (by omega) ?_)))
            refine And.intro (fun c9 => ?_) (fun c9 => ?_)
            · skip
              refine hC.1 2 49 _ _ rfl _ _ _ _ _ ?_
              refine Exists.intro _ (And.intro md_o ?_)
              intro m10 em_56
              try have e10 : m10.toInt = (x1).toInt + (z4_3).toInt := by rw [em_56]; exact pm_add _ _ (by omega) (by omega)
              have yk_2 : (f 17 (m10).toInt.toNat).toInt = gp (f 0) (x1.toInt.toNat + z4_3.toInt.toNat) := (by have h9 : (m10).toInt.toNat = x1.toInt.toNat + z4_3.toInt.toNat := (by omega); rw [h9]; exact p3 _ (by omega))
              refine Exists.intro _ (Exists.intro _ (And.intro (Or.inl (md_a_gaps D)) (And.intro (by omega) ?_)))
              refine hC.1 3 58 _ _ rfl _ _ _ _ _ ?_
              have ys_1 : stp (f 0) x1.toInt (x1.toInt.toNat + z4_3.toInt.toNat) = ((f 17 (m10).toInt.toNat)).toInt := (by first | (exact (stp_1 (n := z4_3.toInt) (by omega) (by omega) (by omega)).trans yk_2.symm) | (exact (stp_0 (n := z4_3.toInt) (by omega) (by omega) (by omega)).trans rfl))
              refine Exists.intro _ (And.intro md_o ?_)
              intro m11 em_65
              try have e11 : m11.toInt = (x2).toInt + (z4_3).toInt := by rw [em_65]; exact pm_add _ _ (by omega) (by omega)
              have yk_3 : (f 17 (m11).toInt.toNat).toInt = gp (f 0) (x2.toInt.toNat + z4_3.toInt.toNat) := (by have h9 : (m11).toInt.toNat = x2.toInt.toNat + z4_3.toInt.toNat := (by omega); rw [h9]; exact p3 _ (by omega))
              refine Exists.intro _ (Exists.intro _ (And.intro (Or.inl (md_a_gaps D)) (And.intro (by omega) ?_)))
              refine And.intro (fun c12 => ?_) (fun c12 => ?_)
              · skip
                refine hC.1 4 76 _ _ rfl _ _ _ _ _ ?_
                refine Exists.intro _ (And.intro md_o ?_)
                intro m13 em_83
                try have e13 : m13.toInt = (x2).toInt + (z4_3).toInt := by rw [em_83]; exact pm_add _ _ (by omega) (by omega)
                have yk_4 : (f 17 (m13).toInt.toNat).toInt = gp (f 0) (x2.toInt.toNat + z4_3.toInt.toNat) := (by have h9 : (m13).toInt.toNat = x2.toInt.toNat + z4_3.toInt.toNat := (by omega); rw [h9]; exact p3 _ (by omega))
                refine Exists.intro _ (Exists.intro _ (And.intro (Or.inl (md_a_gaps D)) (And.intro (by omega) ?_)))
                refine hC.1 5 85 _ _ rfl _ _ _ _ _ ?_
                have ys_2 : stp (f 0) x2.toInt (x2.toInt.toNat + z4_3.toInt.toNat) = ((f 17 (m13).toInt.toNat)).toInt := (by first | (exact (stp_1 (n := z4_3.toInt) (by omega) (by omega) (by omega)).trans yk_4.symm) | (exact (stp_0 (n := z4_3.toInt) (by omega) (by omega) (by omega)).trans rfl))
                refine And.intro (fun c14 => ?_) (fun c14 => ?_)
                · skip
                  have dc14 := pm_neI c14
                  refine hC.1 6 94 _ _ rfl _ _ _ _ _ ?_
                  exact ⟨rfl, fun e9 => absurd e9 (by decide), rfl, z4_3, rfl, rfl, by refine ⟨by omega, j1_3, j2_3, fun h9 h8 h7 => ?_⟩; first | (exact absurd h9 (by omega)) | (exact absurd h8 (by omega)) | (exact absurd h7 (by omega)) | (intro h6; rw [ys_1, ys_2] at h6; first | (exact absurd h6 (by assumption)) | omega)⟩
                · skip
                  have dc14 : ((f 17 (m10).toInt.toNat)).toInt = ((f 17 (m13).toInt.toNat) : Int32).toInt := congrArg Int32.toInt c14
                  have k1 : (1 : Int32).toInt = 1 := rfl
                  intro m15 em_88
                  try have e15 : m15.toInt = (z4_3).toInt + (1) := by rw [em_88]; exact pm_addc _ _ (1) rfl (by omega) (by omega)
                  exact ih2 m15 (by omega) (by omega) (by intro i9 h9; by_cases h8 : i9 = z4_3.toInt.toNat; (subst h8; refine ys_1.trans (Eq.trans ?_ ys_2.symm); first | rfl | assumption | omega); (exact j2_3 i9 (by omega))) (by omega)
              · skip
                refine hC.1 5 85 _ _ rfl _ _ _ _ _ ?_
                have ys_2 : stp (f 0) x2.toInt (x2.toInt.toNat + z4_3.toInt.toNat) = ((0 : Int32)).toInt := (by first | (exact (stp_1 (n := z4_3.toInt) (by omega) (by omega) (by omega)).trans yk_4.symm) | (exact (stp_0 (n := z4_3.toInt) (by omega) (by omega) (by omega)).trans rfl))
                refine And.intro (fun c16 => ?_) (fun c16 => ?_)
                · skip
                  have dc16 := pm_neI c16
                  refine hC.1 6 94 _ _ rfl _ _ _ _ _ ?_
                  exact ⟨rfl, fun e9 => absurd e9 (by decide), rfl, z4_3, rfl, rfl, by refine ⟨by omega, j1_3, j2_3, fun h9 h8 h7 => ?_⟩; first | (exact absurd h9 (by omega)) | (exact absurd h8 (by omega)) | (exact absurd h7 (by omega)) | (intro h6; rw [ys_1, ys_2] at h6; first | (exact absurd h6 (by assumption)) | omega)⟩
                · skip
                  have dc16 : ((f 17 (m10).toInt.toNat)).toInt = ((0 : Int32) : Int32).toInt := congrArg Int32.toInt c16
                  have k1 : (1 : Int32).toInt = 1 := rfl
                  intro m17 em_88
                  try have e17 : m17.toInt = (z4_3).toInt + (1) := by rw [em_88]; exact pm_addc _ _ (1) rfl (by omega) (by omega)
                  exact ih2 m17 (by omega) (by omega) (by intro i9 h9; by_cases h8 : i9 = z4_3.toInt.toNat; (subst h8; refine ys_1.trans (Eq.trans ?_ ys_2.symm); first | rfl | assumption | omega); (exact j2_3 i9 (by omega))) (by omega)
            · skip
              refine hC.1 3 58 _ _ rfl _ _ _ _ _ ?_
              have ys_1 : stp (f 0) x1.toInt (x1.toInt.toNat + z4_3.toInt.toNat) = ((0 : Int32)).toInt := (by first | (exact (stp_1 (n := z4_3.toInt) (by omega) (by omega) (by omega)).trans yk_2.symm) | (exact (stp_0 (n := z4_3.toInt) (by omega) (by omega) (by omega)).trans rfl))
              refine Exists.intro _ (And.intro md_o ?_)
              intro m18 em_65
              try have e18 : m18.toInt = (x2).toInt + (z4_3).toInt := by rw [em_65]; exact pm_add _ _ (by omega) (by omega)
              have yk_3 : (f 17 (m18).toInt.toNat).toInt = gp (f 0) (x2.toInt.toNat + z4_3.toInt.toNat) := (by have h9 : (m18).toInt.toNat = x2.toInt.toNat + z4_3.toInt.toNat := (by omega); rw [h9]; exact p3 _ (by omega))
              refine Exists.intro _ (Exists.intro _ (And.intro (Or.inl (md_a_gaps D)) (And.intro (by omega) ?_)))
              refine And.intro (fun c19 => ?_) (fun c19 => ?_)
              · skip
                refine hC.1 4 76 _ _ rfl _ _ _ _ _ ?_
                refine Exists.intro _ (And.intro md_o ?_)
                intro m20 em_83
                try have e20 : m20.toInt = (x2).toInt + (z4_3).toInt := by rw [em_83]; exact pm_add _ _ (by omega) (by omega)
                have yk_4 : (f 17 (m20).toInt.toNat).toInt = gp (f 0) (x2.toInt.toNat + z4_3.toInt.toNat) := (by have h9 : (m20).toInt.toNat = x2.toInt.toNat + z4_3.toInt.toNat := (by omega); rw [h9]; exact p3 _ (by omega))
                refine Exists.intro _ (Exists.intro _ (And.intro (Or.inl (md_a_gaps D)) (And.intro (by omega) ?_)))
                refine hC.1 5 85 _ _ rfl _ _ _ _ _ ?_
                have ys_2 : stp (f 0) x2.toInt (x2.toInt.toNat + z4_3.toInt.toNat) = ((f 17 (m20).toInt.toNat)).toInt := (by first | (exact (stp_1 (n := z4_3.toInt) (by omega) (by omega) (by omega)).trans yk_4.symm) | (exact (stp_0 (n := z4_3.toInt) (by omega) (by omega) (by omega)).trans rfl))
                refine And.intro (fun c21 => ?_) (fun c21 => ?_)
                · skip
                  have dc21 := pm_neI c21
                  refine hC.1 6 94 _ _ rfl _ _ _ _ _ ?_
                  exact ⟨rfl, fun e9 => absurd e9 (by decide), rfl, z4_3, rfl, rfl, by refine ⟨by omega, j1_3, j2_3, fun h9 h8 h7 => ?_⟩; first | (exact absurd h9 (by omega)) | (exact absurd h8 (by omega)) | (exact absurd h7 (by omega)) | (intro h6; rw [ys_1, ys_2] at h6; first | (exact absurd h6 (by assumption)) | omega)⟩
                · skip
                  have dc21 : ((0 : Int32)).toInt = ((f 17 (m20).toInt.toNat) : Int32).toInt := congrArg Int32.toInt c21
                  have k1 : (1 : Int32).toInt = 1 := rfl
                  intro m22 em_88
                  try have e22 : m22.toInt = (z4_3).toInt + (1) := by rw [em_88]; exact pm_addc _ _ (1) rfl (by omega) (by omega)
                  exact ih2 m22 (by omega) (by omega) (by intro i9 h9; by_cases h8 : i9 = z4_3.toInt.toNat; (subst h8; refine ys_1.trans (Eq.trans ?_ ys_2.symm); first | rfl | assumption | omega); (exact j2_3 i9 (by omega))) (by omega)
              · skip
                refine hC.1 5 85 _ _ rfl _ _ _ _ _ ?_
                have ys_2 : stp (f 0) x2.toInt (x2.toInt.toNat + z4_3.toInt.toNat) = ((0 : Int32)).toInt := (by first | (exact (stp_1 (n := z4_3.toInt) (by omega) (by omega) (by omega)).trans yk_4.symm) | (exact (stp_0 (n := z4_3.toInt) (by omega) (by omega) (by omega)).trans rfl))
                refine And.intro (fun c9 => absurd c9 (by decide)) (fun _ => ?_)
                have k1 : (1 : Int32).toInt = 1 := rfl
                intro m23 em_88
                try have e23 : m23.toInt = (z4_3).toInt + (1) := by rw [em_88]; exact pm_addc _ _ (1) rfl (by omega) (by omega)
                exact ih2 m23 (by omega) (by omega) (by intro i9 h9; by_cases h8 : i9 = z4_3.toInt.toNat; (subst h8; refine ys_1.trans (Eq.trans ?_ ys_2.symm); first | rfl | assumption | omega); (exact j2_3 i9 (by omega))) (by omega)
  exact lp1 (200 - (0 : Int32).toInt).toNat.succ (0 : Int32) (by omega) (by exact Or.inl rfl) (by intro i9 h9; omega) (by omega)

end
end
section
/-! bitCount: byte by byte -/
noncomputable def by4 (n a b c d : Nat) : Prop := n = a + 256 * b + 65536 * c + 16777216 * d ∧ a < 256 ∧ b < 256 ∧ c < 256 ∧ d < 256
end
section
/-! twin: the longest two spans that match -/
noncomputable def ME (c : Nat → Int32) (a b m : Int) : Prop := ∀ i : Nat, (i : Int) < m → stp c a (a.toNat + i) = stp c b (b.toNat + i)
theorem ME_le {c : Nat → Int32} {a b m k : Int} (h : ME c a b m) (hk : k ≤ m ∨ k ≤ 0) : ME c a b k := fun i hi => h i (by omega)
theorem ME_s {c : Nat → Int32} {a b m : Int} (h : ME c a b m) (h0 : 0 ≤ a ∧ 0 ≤ b ∧ 0 ≤ m) (e : stp c a (a + m).toNat = stp c b (b + m).toNat) : ME c a b (m + 1) := fun i hi => by
  by_cases q : (i : Int) = m
  · rw [show a.toNat + i = (a + m).toNat by omega, show b.toNat + i = (b + m).toNat by omega]; exact e
  · exact h i (by omega)
theorem ME_sh {c : Nat → Int32} {a b m : Int} (h : ME c a b m) (ha : 0 ≤ a) (hb : 0 ≤ b) : ME c (a + 1) (b + 1) (m - 1) := fun i hi => by
  have h1 := h (i + 1) (by omega)
  rw [show (a + 1).toNat + i = a.toNat + (i + 1) by omega, show (b + 1).toNat + i = b.toNat + (i + 1) by omega]
  have l1 := lastEq_lt c (c (a.toNat + (i + 1))) (a.toNat + (i + 1))
  have l2 := lastEq_lt c (c (b.toNat + (i + 1))) (b.toNat + (i + 1))
  unfold stp at h1 ⊢
  by_cases c1 : a + 1 ≤ lastEq c (c (a.toNat + (i + 1))) (a.toNat + (i + 1))
  · rw [if_pos (show a ≤ lastEq c (c (a.toNat + (i + 1))) (a.toNat + (i + 1)) by omega)] at h1
    rw [if_pos c1]
    by_cases c2 : b ≤ lastEq c (c (b.toNat + (i + 1))) (b.toNat + (i + 1))
    · rw [if_pos c2] at h1
      rw [if_pos (by omega)]; exact h1
    · rw [if_neg c2] at h1; omega
  · rw [if_neg c1]
    by_cases c2 : b + 1 ≤ lastEq c (c (b.toNat + (i + 1))) (b.toNat + (i + 1))
    · rw [if_pos (show b ≤ lastEq c (c (b.toNat + (i + 1))) (b.toNat + (i + 1)) by omega)] at h1
      by_cases c3 : a ≤ lastEq c (c (a.toNat + (i + 1))) (a.toNat + (i + 1))
      · rw [if_pos c3] at h1; omega
      · rw [if_neg c3] at h1; omega
    · rw [if_neg c2]
noncomputable def TG (c : Nat → Int32) (n a b m : Int) : Prop := 0 ≤ a ∧ a < b ∧ b + m ≤ n ∧ 0 ≤ m ∧ ME c a b m
theorem TG_eq {c d : Nat → Int32} {n a b m : Int} (hc : ∀ j : Nat, (j : Int) < n → c j = d j) (h : TG c n a b m) : TG d n a b m := by
  obtain ⟨h1, h2, h3, h4, h5⟩ := h
  exact ⟨h1, h2, h3, h4, fun i hi => by rw [← stp_eq hc (by omega), ← stp_eq hc (by omega)]; exact h5 i hi⟩
theorem TG_mx1 {c : Nat → Int32} {n a b m : Int} (h : n ≤ b + m) : ∀ j, TG c n a b j → j ≤ m := fun j hj => by
  have := hj.2.2.1
  omega
theorem TG_mx2 {c : Nat → Int32} {n a b m : Int} (h0 : 0 ≤ a ∧ 0 ≤ b ∧ 0 ≤ m) (h : ¬ stp c a (a + m).toNat = stp c b (b + m).toNat) : ∀ j, TG c n a b j → j ≤ m := fun j hj => by
  refine Classical.byContradiction (fun q => h ?_)
  have h1 := hj.2.2.2.2 m.toNat (by omega)
  rw [show a.toNat + m.toNat = (a + m).toNat by omega, show b.toNat + m.toNat = (b + m).toNat by omega] at h1
  exact h1
theorem TG_mx3 {c : Nat → Int32} {n a b m : Int} (h0 : 0 ≤ a ∧ 0 ≤ b ∧ 0 ≤ m) (h : b + m < n → ¬ stp c a (a.toNat + m.toNat) = stp c b (b.toNat + m.toNat)) : ∀ j, TG c n a b j → j ≤ m := fun j hj => by
  refine Classical.byContradiction (fun q => ?_)
  have h2 := hj.2.2.1
  exact h (by omega) (hj.2.2.2.2 m.toNat (by omega))
noncomputable def TW (c : Nat → Int32) (n : Int) (D : Int → Int → Prop) (f m : Int) : Prop := ((m = 0 ∧ f = -1) ∨ (1 ≤ m ∧ ∃ b, D f b ∧ TG c n f b m)) ∧ ∀ a b k, D a b → TG c n a b k → 1 ≤ k → k < m ∨ (k = m ∧ f ≤ a)
theorem TW_new {c : Nat → Int32} {n f m a b k : Int} {D D' : Int → Int → Prop} (h : TW c n D f m) (hg : TG c n a b k) (hx : ∀ j, TG c n a b j → j ≤ k) (hk : m < k ∨ (k = m ∧ a < f)) (hD : D' a b) (hs : ∀ a' b', D' a' b' → D a' b' ∨ (a' = a ∧ b' = b)) : TW c n D' a k := by
  obtain ⟨h1, h2⟩ := h
  have h3 := hg.1
  refine ⟨Or.inr ⟨by rcases h1 with q | q <;> omega, b, hD, hg⟩, fun a' b' j p q r => ?_⟩
  rcases hs a' b' p with s | ⟨s, t⟩
  · have := h2 a' b' j s q r; omega
  · rw [s, t] at q
    have := hx j q; omega
theorem TW_old {c : Nat → Int32} {n f m a b k : Int} {D D' : Int → Int → Prop} (h : TW c n D f m) (hx : ∀ j, TG c n a b j → j ≤ k) (hk : k < m ∨ (k = m ∧ f ≤ a)) (hs : ∀ a' b', D' a' b' → D a' b' ∨ (a' = a ∧ b' = b)) (hm : ∀ a' b', D a' b' → D' a' b') : TW c n D' f m := by
  obtain ⟨h1, h2⟩ := h
  refine ⟨?_, fun a' b' j p q r => ?_⟩
  · rcases h1 with q | ⟨q, b9, q1, q2⟩
    · exact Or.inl q
    · exact Or.inr ⟨q, b9, hm _ _ q1, q2⟩
  · rcases hs a' b' p with s | ⟨s, t⟩
    · exact h2 a' b' j s q r
    · rw [s, t] at q
      have := hx j q; omega
theorem TW_wk {c : Nat → Int32} {n f m : Int} {D D' : Int → Int → Prop} (h : TW c n D f m) (hs : ∀ a b, D' a b → 0 ≤ a → a < b → b < n → D a b) (hm : ∀ a b, D a b → 0 ≤ a → a < b → D' a b) : TW c n D' f m := by
  obtain ⟨h1, h2⟩ := h
  refine ⟨?_, fun a b j p q r => h2 a b j (hs a b p q.1 q.2.1 (by have := q.2.2.1; omega)) q r⟩
  rcases h1 with q | ⟨q, b9, q1, q2⟩
  · exact Or.inl q
  · exact Or.inr ⟨q, b9, hm _ _ q1 q2.1 q2.2.1, q2⟩
noncomputable def DC (d l : Int) : Int → Int → Prop := fun a b => b - a < d ∨ (b - a = d ∧ a < l)
theorem DC_s {d l a b : Int} (h : DC d (l + 1) a b) : DC d l a b ∨ (a = l ∧ b = l + d) := by unfold DC at *; omega
theorem DC_m {d l a b : Int} (h : DC d l a b) : DC d (l + 1) a b := by unfold DC at *; omega
theorem DC_in (d l : Int) : DC d (l + 1) l (l + d) := by unfold DC; omega
theorem TW_c0 (c : Nat → Int32) (n : Int) {d : Int} (hd : d ≤ 1) : TW c n (DC d 0) (-1) 0 := ⟨Or.inl ⟨rfl, rfl⟩, fun a b k p q r => by
  have h1 := q.1
  have h2 := q.2.1
  unfold DC at p
  omega⟩
theorem TW_dn {c : Nat → Int32} {n d l f m : Int} (h : TW c n (DC d l) f m) (hl : n ≤ l + d) : TW c n (DC (d + 1) 0) f m :=
  TW_wk h (fun a b p q r s => by unfold DC at *; omega) (fun a b p q r => by unfold DC at *; omega)
theorem TW_cend {c : Nat → Int32} {n d l f m : Int} (h : TW c n (DC d l) f m) (hd : n ≤ d) : TW c n (fun _ _ => True) f m :=
  TW_wk h (fun a b p q r s => by unfold DC at *; omega) (fun a b p q r => trivial)
noncomputable def DR (x y : Int) : Int → Int → Prop := fun a b => a < x ∨ (a = x ∧ b < y)
theorem DR_s {x y a b : Int} (h : DR x (y + 1) a b) : DR x y a b ∨ (a = x ∧ b = y) := by unfold DR at *; omega
theorem DR_m {x y a b : Int} (h : DR x y a b) : DR x (y + 1) a b := by unfold DR at *; omega
theorem DR_in (x y : Int) : DR x (y + 1) x y := by unfold DR; omega
theorem TW_r0 (c : Nat → Int32) (n : Int) : TW c n (DR 0 1) (-1) 0 := ⟨Or.inl ⟨rfl, rfl⟩, fun a b k p q r => by
  have h1 := q.1
  have h2 := q.2.1
  unfold DR at p
  omega⟩
theorem TW_rn {c : Nat → Int32} {n x y f m : Int} (h : TW c n (DR x y) f m) (hy : n ≤ y) : TW c n (DR (x + 1) (x + 1 + 1)) f m :=
  TW_wk h (fun a b p q r s => by unfold DR at *; omega) (fun a b p q r => by unfold DR at *; omega)
theorem TW_rend {c : Nat → Int32} {n x y f m : Int} (h : TW c n (DR x y) f m) (hx : n ≤ x) : TW c n (fun _ _ => True) f m :=
  TW_wk h (fun a b p q r s => by unfold DR at *; omega) (fun a b p q r => trivial)
noncomputable def TWN (c : Nat → Int32) (n t x : Int) : Prop := (¬ (0 ≤ t ∧ t ≤ 1) ∧ x = -1) ∨ ((0 ≤ t ∧ t ≤ 1) ∧ ∃ f m, TW c n (fun _ _ => True) f m ∧ ((m = 0 ∧ x = -1) ∨ (1 ≤ m ∧ ((t = 0 ∧ x = f) ∨ (t = 1 ∧ x = m)))))
theorem TW_u {c d : Nat → Int32} {n f m f2 m2 : Int} (hc : ∀ j : Nat, (j : Int) < n → c j = d j) (h1 : TW c n (fun _ _ => True) f m) (h2 : TW d n (fun _ _ => True) f2 m2) : f = f2 ∧ m = m2 := by
  obtain ⟨a1, a2⟩ := h1
  obtain ⟨b1, b2⟩ := h2
  rcases a1 with ⟨p1, p2⟩ | ⟨p1, x, _, p2⟩
  · rcases b1 with ⟨q1, q2⟩ | ⟨q1, y, _, q2⟩
    · omega
    · have := a2 _ _ _ trivial (TG_eq (fun j hj => (hc j hj).symm) q2) q1; omega
  · have h3 := b2 _ _ _ trivial (TG_eq hc p2) p1
    rcases b1 with ⟨q1, q2⟩ | ⟨q1, y, _, q2⟩
    · omega
    · have := a2 _ _ _ trivial (TG_eq (fun j hj => (hc j hj).symm) q2) q1; omega
theorem TWN_u {c d : Nat → Int32} {n t x y : Int} (hc : ∀ j : Nat, (j : Int) < n → c j = d j) (h1 : TWN c n t x) (h2 : TWN d n t y) : x = y := by
  rcases h1 with ⟨a, b⟩ | ⟨a, f, m, b1, b2⟩
  · rcases h2 with ⟨p, q⟩ | ⟨p, _⟩
    · rw [b, q]
    · exact absurd p a
  · rcases h2 with ⟨p, q⟩ | ⟨p, f2, m2, q1, q2⟩
    · exact absurd a p
    · have := TW_u hc b1 q1
      omega
theorem TWN_r {c : Nat → Int32} {n t f m x : Int} (ht : 0 ≤ t ∧ t ≤ 1) (h : TW c n (fun _ _ => True) f m) (hx : ((f < 0 ∨ t = 0) ∧ x = f) ∨ (¬ (f < 0 ∨ t = 0) ∧ x = m)) : TWN c n t x := by
  refine Or.inr ⟨ht, f, m, h, ?_⟩
  rcases h.1 with ⟨p1, p2⟩ | ⟨p1, y, _, p2⟩
  · omega
  · have := p2.1
    omega
theorem TWN_c {c : Nat → Int32} {n t f m x : Int} (h : TW c n (fun _ _ => True) f m) (hx : (m = 0 ∧ x = -1) ∨ (¬ m = 0 ∧ ((t = 0 ∧ x = f) ∨ (t = 1 ∧ x = m) ∨ (¬ t = 0 ∧ ¬ t = 1 ∧ x = -1)))) : TWN c n t x := by
  by_cases ht : 0 ≤ t ∧ t ≤ 1
  · refine Or.inr ⟨ht, f, m, h, ?_⟩
    rcases h.1 with ⟨p1, p2⟩ | ⟨p1, y, _, p2⟩
    · omega
    · omega
  · exact Or.inl ⟨ht, by omega⟩
end
section
section
variable {l : Launch} {g : pm_G} {A0 : pm_H} {K nn dn : Nat} {q : Nat → Nat} {w : Nat → Int32} {e : Nat → Nat → Int32} {v : Nat → Int32} {f : Nat → Nat → Int32}
set_option maxRecDepth 100000 in
set_option maxHeartbeats 2000000 in
theorem F_X4_findTwinApart (hI : cw_I K nn dn q w e) (hs : cw_S v f) {o1 : Nat} (ho1 : cw_ro K o1) (x2 : Int32) (p0 : 1 ≤ x2.toInt ∧ x2.toInt < 160) (p1 : bd (w o1) (e (o1 + 1)) (e (o1 + 3))) (p2 : TW (e (o1 + 1)) (w o1).toInt (DC x2.toInt 0) (v 13).toInt (v 14).toInt) : pm_Mt l g 140 1 0 0 [.ref (q 7), .ref (q o1), .int x2] (cw A0 g K nn dn q w e v f) (cw_Qs A0 g K nn dn q w e (fun r v2 f2 => r = none ∧ ((True) ∧ (TW (e (o1 + 1)) (w o1).toInt (DC (x2.toInt + 1) 0) (v2 13).toInt (v2 14).toInt)))) := by
  refine mt_X4_findTwinApart rfl (fun J hC => ?_)
  have ro_nn : cw_ro K nn := hI.2.1.2.1
  have ro_dn : cw_ro K dn := hI.2.1.2.2.1
  have hu1 := hI.2.1
  unfold cw_W at hu1
  have rg_x2 := pm_rng x2
  have zz0 := cw_sz hI ho1
  refine hC.1 0 0 _ _ rfl _ _ _ _ _ ?_
  have k0 : (0 : Int32).toInt = 0 := rfl
  have lp3 : ∀ (n : Nat) (z3_5 : Int32) (z4_5 : Int32) (v2 : Nat → Int32) (f2 : Nat → Nat → Int32), cw_S v2 f2 → (0 ≤ z4_5.toInt ∧ z4_5.toInt ≤ 160) → (0 ≤ z3_5.toInt ∧ z3_5.toInt ≤ 160) → (z3_5.toInt + x2.toInt ≤ (w o1).toInt ∨ z3_5.toInt = 0) → (ME (e (o1 + 1)) z4_5.toInt (z4_5.toInt + x2.toInt) (z3_5.toInt - z4_5.toInt)) → (TW (e (o1 + 1)) (w o1).toInt (DC x2.toInt z4_5.toInt) (v2 13).toInt (v2 14).toInt) → 200 - z4_5.toInt < (n : Int) → J 5 [some (.ref (q 7)), some (.ref (q o1)), some (.int x2), some (.int z3_5), some (.int z4_5), none] [] (cw A0 g K nn dn q w e v2 f2) 0 0 := by
    intro n
    induction n with
    | zero =>
      intro z3_5 z4_5 v2 f2 hs2 j0_5 j1_5 j2_5 j3_5 j4_5 j5_5
      omega
    | succ n ih4 =>
      intro z3_5 z4_5 v2 f2 hs2 j0_5 j1_5 j2_5 j3_5 j4_5 j5_5
      refine hC.1 1 5 _ _ rfl _ _ _ _ _ ?_
      intro m5 em_8
      try have e5 : m5.toInt = (z4_5).toInt + (x2).toInt := by rw [em_8]; exact pm_add _ _ (by omega) (by omega)
      refine Exists.intro _ (And.intro (cw_ro_o hI.1 ho1) ?_)
      have z6 := cw_sz hI ho1
      refine And.intro (fun c7 => ?_) (fun c7 => ?_)
      · skip
        refine hC.1 6 111 _ _ rfl _ _ _ _ _ ?_
        exact ⟨rfl, rfl, v2, f2, rfl, hs2, rfl, by exact True.intro, by exact TW_dn j4_5 (by omega)⟩
      · skip
        refine Exists.intro _ (Exists.intro _ (Exists.intro _ (Exists.intro _ (And.intro (c_J9_max_7cf53 (cw A0 g K nn dn q w e v2 f2) z3_5 z4_5 ) (And.intro rfl (fun r9 A9 h9 => ?_))))))
        obtain ⟨y8, rfl, rfl, by8⟩ := h9
        have lp11 : ∀ (n : Nat) (z3_23 : Int32), (z4_5.toInt ≤ z3_23.toInt ∧ z3_23.toInt ≤ 160) → (z3_23.toInt + x2.toInt ≤ (w o1).toInt) → (ME (e (o1 + 1)) z4_5.toInt (z4_5.toInt + x2.toInt) (z3_23.toInt - z4_5.toInt)) → 200 - z3_23.toInt < (n : Int) → J 23 [some (.ref (q 7)), some (.ref (q o1)), some (.int x2), some (.int z3_23), some (.int z4_5), none] [] (cw A0 g K nn dn q w e v2 f2) 0 0 := by
          intro n
          induction n with
          | zero =>
            intro z3_23 j0_23 j1_23 j2_23 j3_23
            omega
          | succ n ih12 =>
            intro z3_23 j0_23 j1_23 j2_23 j3_23
            refine hC.1 2 23 _ _ rfl _ _ _ _ _ ?_
            intro m13 em_25
            try have e13 : m13.toInt = (z3_23).toInt + (x2).toInt := by rw [em_25]; exact pm_add _ _ (by omega) (by omega)
            refine Exists.intro _ (And.intro (cw_ro_o hI.1 ho1) ?_)
            have z14 := cw_sz hI ho1
            refine And.intro (fun c15 => ?_) (fun c15 => ?_)
            · skip
              refine hC.1 3 60 _ _ rfl _ _ _ _ _ ?_
              have yg_9 : TG (e (o1 + 1)) (w o1).toInt z4_5.toInt (z4_5.toInt + x2.toInt) (z3_23.toInt - z4_5.toInt) := ⟨by omega, by omega, by omega, by omega, j2_23⟩
              have yx_9 : ∀ j, TG (e (o1 + 1)) (w o1).toInt z4_5.toInt (z4_5.toInt + x2.toInt) j → j ≤ z3_23.toInt - z4_5.toInt := (by first | (exact TG_mx1 (by omega)) | (exact TG_mx2 (by omega) (by rw [show z4_5.toInt + (z3_23.toInt - z4_5.toInt) = z3_23.toInt by omega, show z4_5.toInt + x2.toInt + (z3_23.toInt - z4_5.toInt) = z3_23.toInt + x2.toInt by omega, ← ya_9, ← yb_9]; assumption)))
              intro m16 em_63
              try have e16 : m16.toInt = (z3_23).toInt - (z4_5).toInt := by rw [em_63]; exact pm_sub _ _ (by omega) (by omega)
              refine Exists.intro _ (And.intro (cw_o7 hI.1) ?_)
              refine And.intro (fun c17 => ?_) (fun c17 => ?_)
              · skip
                refine hC.1 4 93 _ _ rfl _ _ _ _ _ ?_
                refine Exists.intro _ (And.intro (cw_o7 hI.1) (And.intro rfl ?_))
                rw [cw_p_twinFirst hI.1]
                obtain ⟨v18, ev18⟩ : ∃ z9, z9 = upd v2 13 z4_5 := ⟨_, rfl⟩
                rw [← ev18]
                have hs18 : cw_S v18 f2 := by rw [ev18]; exact cw_S_v hs2 13 _ (by decide)
                have ev18_0 : (v18 0).toInt = (v2 0).toInt := by rw [ev18]; rfl
                have pv_96 := ev18
                refine Exists.intro _ (And.intro (cw_o7 hI.1) (And.intro rfl ?_))
                rw [cw_p_twinLength hI.1]
                obtain ⟨v19, ev19⟩ : ∃ z9, z9 = upd v18 14 m16 := ⟨_, rfl⟩
                rw [← ev19]
                have hs19 : cw_S v19 f2 := by rw [ev19]; exact cw_S_v hs18 14 _ (by decide)
                have ev19_0 : (v19 0).toInt = (v18 0).toInt := by rw [ev19]; rfl
                have pv_102 := ev19
                refine hC.1 5 105 _ _ rfl _ _ _ _ _ ?_
                try have yv_1 : (v19 13).toInt = z4_5.toInt := (by rw [pv_102, pk_un (by decide), pv_96, pk_us])
                try have yv_2 : (v19 14).toInt = z3_23.toInt - z4_5.toInt := (by rw [pv_102, pk_us]; omega)
                have k1 : (1 : Int32).toInt = 1 := rfl
                intro m20 em_105
                try have e20 : m20.toInt = (z4_5).toInt + (1) := by rw [em_105]; exact pm_addc _ _ (1) rfl (by omega) (by omega)
                exact hC.2 [false, false, false, false, false, true] _ _ _ _ _ _ (ih4 z3_23 m20 v19 f2 hs19 (by omega) (by omega) (by omega) (by rw [show m20.toInt = z4_5.toInt + 1 by omega]; have h9 := ME_sh j2_23 (by omega) (by omega); rw [show z4_5.toInt + x2.toInt + 1 = z4_5.toInt + 1 + x2.toInt by omega, show z3_23.toInt - z4_5.toInt - 1 = z3_23.toInt - (z4_5.toInt + 1) by omega] at h9; exact h9) (by rw [show m20.toInt = z4_5.toInt + 1 by omega]; first | (rw [yv_1, yv_2]; exact TW_new j4_5 yg_9 yx_9 (by omega) (DC_in _ _) (fun _ _ h9 => DC_s h9)) | (exact TW_old j4_5 yx_9 (by omega) (fun _ _ h9 => DC_s h9) (fun _ _ h9 => DC_m h9))) (by omega))
              · skip
                refine Exists.intro _ (And.intro (cw_o7 hI.1) ?_)
                refine And.intro (fun c21 => ?_) (fun c21 => ?_)
                · skip
                  have dc21 := pm_neI c21
                  refine hC.1 5 105 _ _ rfl _ _ _ _ _ ?_
                  try have yv_1 : (v2 13).toInt = z4_5.toInt := (by rw [pv_102, pk_un (by decide), pv_96, pk_us])
                  try have yv_2 : (v2 14).toInt = z3_23.toInt - z4_5.toInt := (by rw [pv_102, pk_us]; omega)
                  have k1 : (1 : Int32).toInt = 1 := rfl
                  intro m22 em_105
                  try have e22 : m22.toInt = (z4_5).toInt + (1) := by rw [em_105]; exact pm_addc _ _ (1) rfl (by omega) (by omega)
                  exact hC.2 [false, false, false, false, false, true] _ _ _ _ _ _ (ih4 z3_23 m22 v2 f2 hs2 (by omega) (by omega) (by omega) (by rw [show m22.toInt = z4_5.toInt + 1 by omega]; have h9 := ME_sh j2_23 (by omega) (by omega); rw [show z4_5.toInt + x2.toInt + 1 = z4_5.toInt + 1 + x2.toInt by omega, show z3_23.toInt - z4_5.toInt - 1 = z3_23.toInt - (z4_5.toInt + 1) by omega] at h9; exact h9) (by rw [show m22.toInt = z4_5.toInt + 1 by omega]; first | (rw [yv_1, yv_2]; exact TW_new j4_5 yg_9 yx_9 (by omega) (DC_in _ _) (fun _ _ h9 => DC_s h9)) | (exact TW_old j4_5 yx_9 (by omega) (fun _ _ h9 => DC_s h9) (fun _ _ h9 => DC_m h9))) (by omega))
                · skip
                  have dc21 : (m16).toInt = ((v2 14) : Int32).toInt := congrArg Int32.toInt c21
                  refine Exists.intro _ (And.intro (cw_o7 hI.1) ?_)
                  refine And.intro (fun c23 => ?_) (fun c23 => ?_)
                  · skip
                    refine hC.1 5 105 _ _ rfl _ _ _ _ _ ?_
                    try have yv_1 : (v2 13).toInt = z4_5.toInt := (by rw [pv_102, pk_un (by decide), pv_96, pk_us])
                    try have yv_2 : (v2 14).toInt = z3_23.toInt - z4_5.toInt := (by rw [pv_102, pk_us]; omega)
                    have k1 : (1 : Int32).toInt = 1 := rfl
                    intro m24 em_105
                    try have e24 : m24.toInt = (z4_5).toInt + (1) := by rw [em_105]; exact pm_addc _ _ (1) rfl (by omega) (by omega)
                    exact hC.2 [false, false, false, false, false, true] _ _ _ _ _ _ (ih4 z3_23 m24 v2 f2 hs2 (by omega) (by omega) (by omega) (by rw [show m24.toInt = z4_5.toInt + 1 by omega]; have h9 := ME_sh j2_23 (by omega) (by omega); rw [show z4_5.toInt + x2.toInt + 1 = z4_5.toInt + 1 + x2.toInt by omega, show z3_23.toInt - z4_5.toInt - 1 = z3_23.toInt - (z4_5.toInt + 1) by omega] at h9; exact h9) (by rw [show m24.toInt = z4_5.toInt + 1 by omega]; first | (rw [yv_1, yv_2]; exact TW_new j4_5 yg_9 yx_9 (by omega) (DC_in _ _) (fun _ _ h9 => DC_s h9)) | (exact TW_old j4_5 yx_9 (by omega) (fun _ _ h9 => DC_s h9) (fun _ _ h9 => DC_m h9))) (by omega))
                  · skip
                    refine hC.1 4 93 _ _ rfl _ _ _ _ _ ?_
                    refine Exists.intro _ (And.intro (cw_o7 hI.1) (And.intro rfl ?_))
                    rw [cw_p_twinFirst hI.1]
                    obtain ⟨v25, ev25⟩ : ∃ z9, z9 = upd v2 13 z4_5 := ⟨_, rfl⟩
                    rw [← ev25]
                    have hs25 : cw_S v25 f2 := by rw [ev25]; exact cw_S_v hs2 13 _ (by decide)
                    have ev25_0 : (v25 0).toInt = (v2 0).toInt := by rw [ev25]; rfl
                    have pv_96 := ev25
                    refine Exists.intro _ (And.intro (cw_o7 hI.1) (And.intro rfl ?_))
                    rw [cw_p_twinLength hI.1]
                    obtain ⟨v26, ev26⟩ : ∃ z9, z9 = upd v25 14 m16 := ⟨_, rfl⟩
                    rw [← ev26]
                    have hs26 : cw_S v26 f2 := by rw [ev26]; exact cw_S_v hs25 14 _ (by decide)
                    have ev26_0 : (v26 0).toInt = (v25 0).toInt := by rw [ev26]; rfl
                    have pv_102 := ev26
                    refine hC.1 5 105 _ _ rfl _ _ _ _ _ ?_
                    try have yv_1 : (v26 13).toInt = z4_5.toInt := (by rw [pv_102, pk_un (by decide), pv_96, pk_us])
                    try have yv_2 : (v26 14).toInt = z3_23.toInt - z4_5.toInt := (by rw [pv_102, pk_us]; omega)
                    have k1 : (1 : Int32).toInt = 1 := rfl
                    intro m27 em_105
                    try have e27 : m27.toInt = (z4_5).toInt + (1) := by rw [em_105]; exact pm_addc _ _ (1) rfl (by omega) (by omega)
                    exact hC.2 [false, false, false, false, false, true] _ _ _ _ _ _ (ih4 z3_23 m27 v26 f2 hs26 (by omega) (by omega) (by omega) (by rw [show m27.toInt = z4_5.toInt + 1 by omega]; have h9 := ME_sh j2_23 (by omega) (by omega); rw [show z4_5.toInt + x2.toInt + 1 = z4_5.toInt + 1 + x2.toInt by omega, show z3_23.toInt - z4_5.toInt - 1 = z3_23.toInt - (z4_5.toInt + 1) by omega] at h9; exact h9) (by rw [show m27.toInt = z4_5.toInt + 1 by omega]; first | (rw [yv_1, yv_2]; exact TW_new j4_5 yg_9 yx_9 (by omega) (DC_in _ _) (fun _ _ h9 => DC_s h9)) | (exact TW_old j4_5 yx_9 (by omega) (fun _ _ h9 => DC_s h9) (fun _ _ h9 => DC_m h9))) (by omega))
            · skip
              refine Exists.intro _ (Exists.intro _ (Exists.intro _ (Exists.intro _ (And.intro (F_X4_stepWithin hI hs2 ho1 z4_5 z3_23 (by omega) (by exact p1)) (And.intro rfl (fun r9 A9 h9 => ?_))))))
              obtain ⟨y28, rfl, rfl, by28⟩ := h9
              have ya_9 := by28
              intro m30 em_44
              try have e30 : m30.toInt = (z4_5).toInt + (x2).toInt := by rw [em_44]; exact pm_add _ _ (by omega) (by omega)
              intro m31 em_47
              try have e31 : m31.toInt = (z3_23).toInt + (x2).toInt := by rw [em_47]; exact pm_add _ _ (by omega) (by omega)
              refine Exists.intro _ (Exists.intro _ (Exists.intro _ (Exists.intro _ (And.intro (F_X4_stepWithin hI hs2 ho1 m30 m31 (by omega) (by exact p1)) (And.intro rfl (fun r9 A9 h9 => ?_))))))
              obtain ⟨y32, rfl, rfl, by32⟩ := h9
              have yb_9 : y32.toInt = stp (e (o1 + 1)) (z4_5.toInt + x2.toInt) (z3_23.toInt + x2.toInt).toNat := (by rw [by32]; congr 1 <;> omega)
              refine And.intro (fun c34 => ?_) (fun c34 => ?_)
              · skip
                have dc34 := pm_neI c34
                refine hC.1 3 60 _ _ rfl _ _ _ _ _ ?_
                have yg_9 : TG (e (o1 + 1)) (w o1).toInt z4_5.toInt (z4_5.toInt + x2.toInt) (z3_23.toInt - z4_5.toInt) := ⟨by omega, by omega, by omega, by omega, j2_23⟩
                have yx_9 : ∀ j, TG (e (o1 + 1)) (w o1).toInt z4_5.toInt (z4_5.toInt + x2.toInt) j → j ≤ z3_23.toInt - z4_5.toInt := (by first | (exact TG_mx1 (by omega)) | (exact TG_mx2 (by omega) (by rw [show z4_5.toInt + (z3_23.toInt - z4_5.toInt) = z3_23.toInt by omega, show z4_5.toInt + x2.toInt + (z3_23.toInt - z4_5.toInt) = z3_23.toInt + x2.toInt by omega, ← ya_9, ← yb_9]; assumption)))
                intro m35 em_63
                try have e35 : m35.toInt = (z3_23).toInt - (z4_5).toInt := by rw [em_63]; exact pm_sub _ _ (by omega) (by omega)
                refine Exists.intro _ (And.intro (cw_o7 hI.1) ?_)
                refine And.intro (fun c36 => ?_) (fun c36 => ?_)
                · skip
                  refine hC.1 4 93 _ _ rfl _ _ _ _ _ ?_
                  refine Exists.intro _ (And.intro (cw_o7 hI.1) (And.intro rfl ?_))
                  rw [cw_p_twinFirst hI.1]
                  obtain ⟨v37, ev37⟩ : ∃ z9, z9 = upd v2 13 z4_5 := ⟨_, rfl⟩
                  rw [← ev37]
                  have hs37 : cw_S v37 f2 := by rw [ev37]; exact cw_S_v hs2 13 _ (by decide)
                  have ev37_0 : (v37 0).toInt = (v2 0).toInt := by rw [ev37]; rfl
                  have pv_96 := ev37
                  refine Exists.intro _ (And.intro (cw_o7 hI.1) (And.intro rfl ?_))
                  rw [cw_p_twinLength hI.1]
                  obtain ⟨v38, ev38⟩ : ∃ z9, z9 = upd v37 14 m35 := ⟨_, rfl⟩
                  rw [← ev38]
                  have hs38 : cw_S v38 f2 := by rw [ev38]; exact cw_S_v hs37 14 _ (by decide)
                  have ev38_0 : (v38 0).toInt = (v37 0).toInt := by rw [ev38]; rfl
                  have pv_102 := ev38
                  refine hC.1 5 105 _ _ rfl _ _ _ _ _ ?_
                  try have yv_1 : (v38 13).toInt = z4_5.toInt := (by rw [pv_102, pk_un (by decide), pv_96, pk_us])
                  try have yv_2 : (v38 14).toInt = z3_23.toInt - z4_5.toInt := (by rw [pv_102, pk_us]; omega)
                  have k1 : (1 : Int32).toInt = 1 := rfl
                  intro m39 em_105
                  try have e39 : m39.toInt = (z4_5).toInt + (1) := by rw [em_105]; exact pm_addc _ _ (1) rfl (by omega) (by omega)
                  exact hC.2 [false, false, false, false, false, true] _ _ _ _ _ _ (ih4 z3_23 m39 v38 f2 hs38 (by omega) (by omega) (by omega) (by rw [show m39.toInt = z4_5.toInt + 1 by omega]; have h9 := ME_sh j2_23 (by omega) (by omega); rw [show z4_5.toInt + x2.toInt + 1 = z4_5.toInt + 1 + x2.toInt by omega, show z3_23.toInt - z4_5.toInt - 1 = z3_23.toInt - (z4_5.toInt + 1) by omega] at h9; exact h9) (by rw [show m39.toInt = z4_5.toInt + 1 by omega]; first | (rw [yv_1, yv_2]; exact TW_new j4_5 yg_9 yx_9 (by omega) (DC_in _ _) (fun _ _ h9 => DC_s h9)) | (exact TW_old j4_5 yx_9 (by omega) (fun _ _ h9 => DC_s h9) (fun _ _ h9 => DC_m h9))) (by omega))
                · skip
                  refine Exists.intro _ (And.intro (cw_o7 hI.1) ?_)
                  refine And.intro (fun c40 => ?_) (fun c40 => ?_)
                  · skip
                    have dc40 := pm_neI c40
                    refine hC.1 5 105 _ _ rfl _ _ _ _ _ ?_
                    try have yv_1 : (v2 13).toInt = z4_5.toInt := (by rw [pv_102, pk_un (by decide), pv_96, pk_us])
                    try have yv_2 : (v2 14).toInt = z3_23.toInt - z4_5.toInt := (by rw [pv_102, pk_us]; omega)
                    have k1 : (1 : Int32).toInt = 1 := rfl
                    intro m41 em_105
                    try have e41 : m41.toInt = (z4_5).toInt + (1) := by rw [em_105]; exact pm_addc _ _ (1) rfl (by omega) (by omega)
                    exact hC.2 [false, false, false, false, false, true] _ _ _ _ _ _ (ih4 z3_23 m41 v2 f2 hs2 (by omega) (by omega) (by omega) (by rw [show m41.toInt = z4_5.toInt + 1 by omega]; have h9 := ME_sh j2_23 (by omega) (by omega); rw [show z4_5.toInt + x2.toInt + 1 = z4_5.toInt + 1 + x2.toInt by omega, show z3_23.toInt - z4_5.toInt - 1 = z3_23.toInt - (z4_5.toInt + 1) by omega] at h9; exact h9) (by rw [show m41.toInt = z4_5.toInt + 1 by omega]; first | (rw [yv_1, yv_2]; exact TW_new j4_5 yg_9 yx_9 (by omega) (DC_in _ _) (fun _ _ h9 => DC_s h9)) | (exact TW_old j4_5 yx_9 (by omega) (fun _ _ h9 => DC_s h9) (fun _ _ h9 => DC_m h9))) (by omega))
                  · skip
                    have dc40 : (m35).toInt = ((v2 14) : Int32).toInt := congrArg Int32.toInt c40
                    refine Exists.intro _ (And.intro (cw_o7 hI.1) ?_)
                    refine And.intro (fun c42 => ?_) (fun c42 => ?_)
                    · skip
                      refine hC.1 5 105 _ _ rfl _ _ _ _ _ ?_
                      try have yv_1 : (v2 13).toInt = z4_5.toInt := (by rw [pv_102, pk_un (by decide), pv_96, pk_us])
                      try have yv_2 : (v2 14).toInt = z3_23.toInt - z4_5.toInt := (by rw [pv_102, pk_us]; omega)
                      have k1 : (1 : Int32).toInt = 1 := rfl
                      intro m43 em_105
                      try have e43 : m43.toInt = (z4_5).toInt + (1) := by rw [em_105]; exact pm_addc _ _ (1) rfl (by omega) (by omega)
                      exact hC.2 [false, false, false, false, false, true] _ _ _ _ _ _ (ih4 z3_23 m43 v2 f2 hs2 (by omega) (by omega) (by omega) (by rw [show m43.toInt = z4_5.toInt + 1 by omega]; have h9 := ME_sh j2_23 (by omega) (by omega); rw [show z4_5.toInt + x2.toInt + 1 = z4_5.toInt + 1 + x2.toInt by omega, show z3_23.toInt - z4_5.toInt - 1 = z3_23.toInt - (z4_5.toInt + 1) by omega] at h9; exact h9) (by rw [show m43.toInt = z4_5.toInt + 1 by omega]; first | (rw [yv_1, yv_2]; exact TW_new j4_5 yg_9 yx_9 (by omega) (DC_in _ _) (fun _ _ h9 => DC_s h9)) | (exact TW_old j4_5 yx_9 (by omega) (fun _ _ h9 => DC_s h9) (fun _ _ h9 => DC_m h9))) (by omega))
                    · skip
                      refine hC.1 4 93 _ _ rfl _ _ _ _ _ ?_
                      refine Exists.intro _ (And.intro (cw_o7 hI.1) (And.intro rfl ?_))
                      rw [cw_p_twinFirst hI.1]
                      obtain ⟨v44, ev44⟩ : ∃ z9, z9 = upd v2 13 z4_5 := ⟨_, rfl⟩
                      rw [← ev44]
                      have hs44 : cw_S v44 f2 := by rw [ev44]; exact cw_S_v hs2 13 _ (by decide)
                      have ev44_0 : (v44 0).toInt = (v2 0).toInt := by rw [ev44]; rfl
                      have pv_96 := ev44
                      refine Exists.intro _ (And.intro (cw_o7 hI.1) (And.intro rfl ?_))
                      rw [cw_p_twinLength hI.1]
                      obtain ⟨v45, ev45⟩ : ∃ z9, z9 = upd v44 14 m35 := ⟨_, rfl⟩
                      rw [← ev45]
                      have hs45 : cw_S v45 f2 := by rw [ev45]; exact cw_S_v hs44 14 _ (by decide)
                      have ev45_0 : (v45 0).toInt = (v44 0).toInt := by rw [ev45]; rfl
                      have pv_102 := ev45
                      refine hC.1 5 105 _ _ rfl _ _ _ _ _ ?_
                      try have yv_1 : (v45 13).toInt = z4_5.toInt := (by rw [pv_102, pk_un (by decide), pv_96, pk_us])
                      try have yv_2 : (v45 14).toInt = z3_23.toInt - z4_5.toInt := (by rw [pv_102, pk_us]; omega)
                      have k1 : (1 : Int32).toInt = 1 := rfl
                      intro m46 em_105
                      try have e46 : m46.toInt = (z4_5).toInt + (1) := by rw [em_105]; exact pm_addc _ _ (1) rfl (by omega) (by omega)
                      exact hC.2 [false, false, false, false, false, true] _ _ _ _ _ _ (ih4 z3_23 m46 v45 f2 hs45 (by omega) (by omega) (by omega) (by rw [show m46.toInt = z4_5.toInt + 1 by omega]; have h9 := ME_sh j2_23 (by omega) (by omega); rw [show z4_5.toInt + x2.toInt + 1 = z4_5.toInt + 1 + x2.toInt by omega, show z3_23.toInt - z4_5.toInt - 1 = z3_23.toInt - (z4_5.toInt + 1) by omega] at h9; exact h9) (by rw [show m46.toInt = z4_5.toInt + 1 by omega]; first | (rw [yv_1, yv_2]; exact TW_new j4_5 yg_9 yx_9 (by omega) (DC_in _ _) (fun _ _ h9 => DC_s h9)) | (exact TW_old j4_5 yx_9 (by omega) (fun _ _ h9 => DC_s h9) (fun _ _ h9 => DC_m h9))) (by omega))
              · skip
                have dc34 : (y28).toInt = (y32 : Int32).toInt := congrArg Int32.toInt c34
                have k1 : (1 : Int32).toInt = 1 := rfl
                intro m47 em_54
                try have e47 : m47.toInt = (z3_23).toInt + (1) := by rw [em_54]; exact pm_addc _ _ (1) rfl (by omega) (by omega)
                exact ih12 m47 (by omega) (by omega) (by rw [show m47.toInt - z4_5.toInt = z3_23.toInt - z4_5.toInt + 1 by omega]; exact ME_s j2_23 (by omega) (by rw [show z4_5.toInt + (z3_23.toInt - z4_5.toInt) = z3_23.toInt by omega, show z4_5.toInt + x2.toInt + (z3_23.toInt - z4_5.toInt) = z3_23.toInt + x2.toInt by omega, ← ya_9, ← yb_9]; first | assumption | omega)) (by omega)
        exact lp11 (200 - y8.toInt).toNat.succ y8 (by omega) (by omega) (by exact ME_le j3_5 (by omega)) (by omega)
  exact lp3 (200 - (0 : Int32).toInt).toNat.succ (0 : Int32) (0 : Int32) v f hs (by omega) (by omega) (by omega) (by intro i9 h9; omega) (by exact p2) (by omega)

set_option maxRecDepth 100000 in
set_option maxHeartbeats 2000000 in
theorem F_X4_findTwin (hI : cw_I K nn dn q w e) (hs : cw_S v f) {o1 : Nat} (ho1 : cw_ro K o1) (p0 : bd (w o1) (e (o1 + 1)) (e (o1 + 3))) : pm_Mt l g 139 2 0 0 [.ref (q 7), .ref (q o1)] (cw A0 g K nn dn q w e v f) (cw_Qs A0 g K nn dn q w e (fun r v2 f2 => r = none ∧ ((True) ∧ (TW (e (o1 + 1)) (w o1).toInt (fun _ _ => True) (v2 13).toInt (v2 14).toInt)))) := by
  refine mt_X4_findTwin rfl (fun J hC => ?_)
  have ro_nn : cw_ro K nn := hI.2.1.2.1
  have ro_dn : cw_ro K dn := hI.2.1.2.2.1
  have hu1 := hI.2.1
  unfold cw_W at hu1
  have zz0 := cw_sz hI ho1
  refine hC.1 0 0 _ _ rfl _ _ _ _ _ ?_
  have km1 : (-1 : Int32).toInt = -1 := rfl
  refine Exists.intro _ (And.intro (cw_o7 hI.1) (And.intro rfl ?_))
  rw [cw_p_twinFirst hI.1]
  obtain ⟨v2, ev2⟩ : ∃ z9, z9 = upd v 13 (-1 : Int32) := ⟨_, rfl⟩
  rw [← ev2]
  have hs2 : cw_S v2 f := by rw [ev2]; exact cw_S_v hs 13 _ (by decide)
  have ev2_0 : (v2 0).toInt = (v 0).toInt := by rw [ev2]; rfl
  have pv_2 := ev2
  have k0 : (0 : Int32).toInt = 0 := rfl
  refine Exists.intro _ (And.intro (cw_o7 hI.1) (And.intro rfl ?_))
  rw [cw_p_twinLength hI.1]
  obtain ⟨v3, ev3⟩ : ∃ z9, z9 = upd v2 14 (0 : Int32) := ⟨_, rfl⟩
  rw [← ev3]
  have hs3 : cw_S v3 f := by rw [ev3]; exact cw_S_v hs2 14 _ (by decide)
  have ev3_0 : (v3 0).toInt = (v2 0).toInt := by rw [ev3]; rfl
  have pv_7 := ev3
  have k1 : (1 : Int32).toInt = 1 := rfl
  have lp5 : ∀ (n : Nat) (z2_12 : Int32) (v4 : Nat → Int32) (f4 : Nat → Nat → Int32), cw_S v4 f4 → (1 ≤ z2_12.toInt ∧ z2_12.toInt ≤ 161) → (TW (e (o1 + 1)) (w o1).toInt (DC z2_12.toInt 0) (v4 13).toInt (v4 14).toInt) → 200 - z2_12.toInt < (n : Int) → J 12 [some (.ref (q 7)), some (.ref (q o1)), some (.int z2_12)] [] (cw A0 g K nn dn q w e v4 f4) 0 0 := by
    intro n
    induction n with
    | zero =>
      intro z2_12 v4 f4 hs4 j0_12 j1_12 j2_12
      omega
    | succ n ih6 =>
      intro z2_12 v4 f4 hs4 j0_12 j1_12 j2_12
      refine hC.1 1 12 _ _ rfl _ _ _ _ _ ?_
      refine Exists.intro _ (And.intro (cw_ro_o hI.1 ho1) ?_)
      have z7 := cw_sz hI ho1
      refine And.intro (fun c8 => ?_) (fun c8 => ?_)
      · skip
        refine hC.1 2 32 _ _ rfl _ _ _ _ _ ?_
        exact ⟨rfl, rfl, v4, f4, rfl, hs4, rfl, by exact True.intro, by exact TW_cend j1_12 (by omega)⟩
      · skip
        refine And.intro (Exists.intro _ (cw_o7 hI.1)) (Exists.intro _ (Exists.intro _ (Exists.intro _ (Exists.intro _ (And.intro (F_X4_findTwinApart hI hs4 ho1 z2_12 (by omega) (by exact p0) (by exact j1_12)) (And.intro rfl (fun r9 A9 h9 => ?_)))))))
        rcases h9 with ⟨v10, f10, rfl, hs10, rfl, by9⟩
        have yt_8 := by9.2
        intro m11 em_26
        try have e11 : m11.toInt = (z2_12).toInt + (1) := by rw [em_26]; exact pm_addc _ _ (1) rfl (by omega) (by omega)
        exact ih6 m11 v10 f10 hs10 (by omega) (by rw [show m11.toInt = z2_12.toInt + 1 by omega]; exact yt_8) (by omega)
  exact lp5 (200 - (1 : Int32).toInt).toNat.succ (1 : Int32) v3 f hs3 (by omega) (by have h9 : (v3 13).toInt = -1 := (by rw [pv_7, pk_un (by decide), pv_2, pk_us]; rfl); have h8 : (v3 14).toInt = 0 := (by rw [pv_7, pk_us]; rfl); rw [h9, h8]; exact TW_c0 _ _ (by omega)) (by omega)

set_option maxRecDepth 100000 in
set_option maxHeartbeats 2000000 in
theorem F_X10_twin (hI : cw_I K nn dn q w e) (hs : cw_S v f) (x1 : Int32) (p0 : bd (w nn) (e (nn + 1)) (e (nn + 3))) : pm_Mt l g 138 3 0 0 [.ref (q 0), .int x1] (cw A0 g K nn dn q w e v f) (cw_Qs A0 g K nn dn q w e (fun r v2 f2 => ∃ x : Int32, r = some (.int x) ∧ ((True) ∧ (TWN (e (nn + 1)) (w nn).toInt x1.toInt x.toInt)))) := by
  refine mt_X10_twin rfl (fun J hC => ?_)
  have ro_nn : cw_ro K nn := hI.2.1.2.1
  have ro_dn : cw_ro K dn := hI.2.1.2.2.1
  have hu1 := hI.2.1
  unfold cw_W at hu1
  have rg_x1 := pm_rng x1
  have zz0 := cw_sz hI ro_nn
  refine hC.1 0 0 _ _ rfl _ _ _ _ _ ?_
  refine Exists.intro _ (And.intro (cw_o0 hI.1) ?_)
  refine Exists.intro _ (And.intro (cw_o0 hI.1) ?_)
  refine Exists.intro _ (And.intro (cw_o1 hI.1) ?_)
  refine And.intro (Exists.intro _ (cw_o7 hI.1)) (Exists.intro _ (Exists.intro _ (Exists.intro _ (Exists.intro _ (And.intro (F_X4_findTwin hI hs ro_nn (by exact p0)) (And.intro rfl (fun r9 A9 h9 => ?_)))))))
  rcases h9 with ⟨v3, f3, rfl, hs3, rfl, by2⟩
  have yt_9 := by2.2
  refine Exists.intro _ (And.intro (cw_o0 hI.1) ?_)
  refine Exists.intro _ (And.intro (cw_o7 hI.1) ?_)
  refine And.intro (fun c4 => ?_) (fun c4 => ?_)
  · skip
    have dc4 := pm_neI c4
    have k0 : (0 : Int32).toInt = 0 := rfl
    refine hC.1 1 26 _ _ rfl _ _ _ _ _ ?_
    refine And.intro (fun c5 => ?_) (fun c5 => ?_)
    · skip
      have dc5 := pm_neI c5
      refine hC.1 2 40 _ _ rfl _ _ _ _ _ ?_
      have k1 : (1 : Int32).toInt = 1 := rfl
      refine And.intro (fun c6 => ?_) (fun c6 => ?_)
      · skip
        have dc6 := pm_neI c6
        refine hC.1 3 55 _ _ rfl _ _ _ _ _ ?_
        have km1 : (-1 : Int32).toInt = -1 := rfl
        refine hC.1 4 56 _ _ rfl _ _ _ _ _ ?_
        exact ⟨rfl, fun e9 => absurd e9 (by decide), rfl, v3, f3, rfl, hs3, (-1 : Int32), rfl, by exact True.intro, by exact TWN_c yt_9 (by omega)⟩
      · skip
        have dc6 : (x1).toInt = ((1 : Int32) : Int32).toInt := congrArg Int32.toInt c6
        refine Exists.intro _ (And.intro (cw_o0 hI.1) ?_)
        refine Exists.intro _ (And.intro (cw_o7 hI.1) ?_)
        refine hC.1 4 56 _ _ rfl _ _ _ _ _ ?_
        exact ⟨rfl, fun e9 => absurd e9 (by decide), rfl, v3, f3, rfl, hs3, (v3 14), rfl, by exact True.intro, by exact TWN_c yt_9 (by omega)⟩
    · skip
      have dc5 : (x1).toInt = (0 : Int32).toInt := congrArg Int32.toInt c5
      refine Exists.intro _ (And.intro (cw_o0 hI.1) ?_)
      refine Exists.intro _ (And.intro (cw_o7 hI.1) ?_)
      refine hC.1 4 56 _ _ rfl _ _ _ _ _ ?_
      exact ⟨rfl, fun e9 => absurd e9 (by decide), rfl, v3, f3, rfl, hs3, (v3 13), rfl, by exact True.intro, by exact TWN_c yt_9 (by omega)⟩
  · skip
    have dc4 : ((v3 14)).toInt = (0 : Int32).toInt := congrArg Int32.toInt c4
    have k0 : (0 : Int32).toInt = 0 := rfl
    have km1 : (-1 : Int32).toInt = -1 := rfl
    exact ⟨rfl, fun e9 => absurd e9 (by decide), rfl, v3, f3, rfl, hs3, (-1 : Int32), rfl, by exact True.intro, by exact TWN_c yt_9 (by omega)⟩

end
end
section
section
variable {l : Launch} {g : pm_G} {A0 : pm_H} {h : Nat} {q : Nat → Nat}
set_option maxRecDepth 100000 in
set_option maxHeartbeats 2000000 in
theorem G_X11_twin (D : md_D h q) (v : Nat → Int32) (f : Nat → Nat → Int32) (hv : md_V v) (hf : md_F f) (x1 : Int32)  : pm_Mt l g 270 2 0 0 [.ref h, .int x1] (md A0 g h q v f) (md_Qw A0 g h q f (fun r v2 f2 => f2 0 = f 0 ∧ f2 1 = f 1 ∧ ((v2 0).toInt = (v 0).toInt ∧ (v2 1).toInt = (v 1).toInt ∧ (v2 2).toInt = (v 2).toInt ∧ (v2 3).toInt = (v 3).toInt ∧ (v2 4).toInt = (v 4).toInt ∧ (v2 6).toInt = (v 6).toInt) ∧ (TWN (f 0) (v 0).toInt x1.toInt r.toInt))) := by
  refine mt_X11_twin rfl (fun J hC => ?_)
  have hv9 := hv
  unfold md_V at hv9
  have rg_x1 := pm_rng x1
  refine hC.1 0 0 _ _ rfl _ _ _ _ _ ?_
  have k0 : (0 : Int32).toInt = 0 := rfl
  have k1 : (1 : Int32).toInt = 1 := rfl
  refine Exists.intro _ (Exists.intro _ (Exists.intro _ (Exists.intro _ (And.intro (c_X11_isIn (md A0 g h q v f) x1 (0 : Int32) (1 : Int32) ) (And.intro rfl (fun r9 A9 h9 => ?_))))))
  rcases h9 with ⟨y1, rfl, rfl, ⟨rfl, by1⟩ | ⟨rfl, by1⟩⟩
  · skip
    refine And.intro (fun _ => ?_) (fun c9 => absurd c9 (by decide))
    refine hC.1 1 11 _ _ rfl _ _ _ _ _ ?_
    refine And.intro (Exists.intro _ md_o) (Exists.intro _ (Exists.intro _ (Exists.intro _ (Exists.intro _ (And.intro (G_X11_layGaps D v f hv hf  ) (And.intro rfl (fun r9 A9 h9 => ?_)))))))
    obtain ⟨v3, f3, rfl, rfl, hv3, hf3, hx3, hg3_0, hg3_1, by2⟩ := h9
    have hw3 : f3 2 = f 2 := hx3.trans rfl
    have hr3_0 : f3 0 = f 0 := hg3_0.trans rfl
    have hr3_1 : f3 1 = f 1 := hg3_1.trans rfl
    have yl_9 := by2.1
    have yg_9 := by2.2
    have km1 : (-1 : Int32).toInt = -1 := rfl
    have lp5 : ∀ (n : Nat) (z2_22 : Int32) (z3_22 : Int32) (z4_22 : Int32), (0 ≤ z4_22.toInt ∧ z4_22.toInt ≤ (v 0).toInt) → ((z2_22.toInt ≤ z4_22.toInt ∧ 0 ≤ z3_22.toInt)) → (TW (f 0) (v 0).toInt (DR z4_22.toInt (z4_22.toInt + 1)) z2_22.toInt z3_22.toInt) → 200 - z4_22.toInt < (n : Int) → J 22 [some (.ref h), some (.int x1), some (.int z2_22), some (.int z3_22), some (.int z4_22), none, none] [] (md A0 g h q v3 f3) 0 0 := by
      intro n
      induction n with
      | zero =>
        intro z2_22 z3_22 z4_22 j0_22 j1_22 j2_22 j3_22
        omega
      | succ n ih6 =>
        intro z2_22 z3_22 z4_22 j0_22 j1_22 j2_22 j3_22
        refine hC.1 2 22 _ _ rfl _ _ _ _ _ ?_
        refine Exists.intro _ (And.intro md_o ?_)
        refine And.intro (fun c7 => ?_) (fun c7 => ?_)
        · skip
          refine hC.1 7 86 _ _ rfl _ _ _ _ _ ?_
          refine And.intro (fun c8 => ?_) (fun c8 => ?_)
          · skip
            refine hC.1 8 94 _ _ rfl _ _ _ _ _ ?_
            refine hC.1 10 99 _ _ rfl _ _ _ _ _ ?_
            exact ⟨rfl, fun e9 => absurd e9 (by decide), rfl, z2_22, v3, f3, rfl, rfl, hv3, hf3, hw3, hr3_0, hr3_1, by first | omega | (dsimp only; omega) | trivial, by exact TWN_r (by omega) (TW_rend j2_22 (by omega)) (by omega)⟩
          · skip
            refine And.intro (fun c9 => ?_) (fun c9 => ?_)
            · skip
              have dc9 := pm_neI c9
              refine hC.1 9 98 _ _ rfl _ _ _ _ _ ?_
              refine hC.1 10 99 _ _ rfl _ _ _ _ _ ?_
              exact ⟨rfl, fun e9 => absurd e9 (by decide), rfl, z3_22, v3, f3, rfl, rfl, hv3, hf3, hw3, hr3_0, hr3_1, by first | omega | (dsimp only; omega) | trivial, by exact TWN_r (by omega) (TW_rend j2_22 (by omega)) (by omega)⟩
            · skip
              have dc9 : (x1).toInt = (0 : Int32).toInt := congrArg Int32.toInt c9
              refine hC.1 8 94 _ _ rfl _ _ _ _ _ ?_
              refine hC.1 10 99 _ _ rfl _ _ _ _ _ ?_
              exact ⟨rfl, fun e9 => absurd e9 (by decide), rfl, z2_22, v3, f3, rfl, rfl, hv3, hf3, hw3, hr3_0, hr3_1, by first | omega | (dsimp only; omega) | trivial, by exact TWN_r (by omega) (TW_rend j2_22 (by omega)) (by omega)⟩
        · skip
          intro m10 em_34
          try have e10 : m10.toInt = (z4_22).toInt + (1) := by rw [em_34]; exact pm_addc _ _ (1) rfl (by omega) (by omega)
          have lp11 : ∀ (n : Nat) (z2_37 : Int32) (z3_37 : Int32) (z5_37 : Int32), (z4_22.toInt + 1 ≤ z5_37.toInt ∧ z5_37.toInt ≤ 161) → ((z2_37.toInt ≤ z4_22.toInt ∧ 0 ≤ z3_37.toInt)) → (TW (f 0) (v 0).toInt (DR z4_22.toInt z5_37.toInt) z2_37.toInt z3_37.toInt) → 200 - z5_37.toInt < (n : Int) → J 37 [some (.ref h), some (.int x1), some (.int z2_37), some (.int z3_37), some (.int z4_22), some (.int z5_37), none] [] (md A0 g h q v3 f3) 0 0 := by
            intro n
            induction n with
            | zero =>
              intro z2_37 z3_37 z5_37 j0_37 j1_37 j2_37 j3_37
              omega
            | succ n ih12 =>
              intro z2_37 z3_37 z5_37 j0_37 j1_37 j2_37 j3_37
              refine hC.1 3 37 _ _ rfl _ _ _ _ _ ?_
              refine Exists.intro _ (And.intro md_o ?_)
              refine And.intro (fun c13 => ?_) (fun c13 => ?_)
              · skip
                refine hC.1 6 80 _ _ rfl _ _ _ _ _ ?_
                intro m14 em_80
                try have e14 : m14.toInt = (z4_22).toInt + (1) := by rw [em_80]; exact pm_addc _ _ (1) rfl (by omega) (by omega)
                exact hC.2 [false, false, false, false, false, true, false] _ _ _ _ _ _ (ih6 z2_37 z3_37 m14 (by omega) (by omega) (by rw [show m14.toInt = z4_22.toInt + 1 by omega]; exact TW_rn j2_37 (by omega)) (by omega))
              · skip
                have k160 : (160 : Int32).toInt = 160 := rfl
                refine And.intro (Exists.intro _ md_o) (Exists.intro _ (Exists.intro _ (Exists.intro _ (Exists.intro _ (And.intro (F_X11_matched D v3 f3 hv3 hf3 z4_22 z5_37 (160 : Int32) (by omega) (by omega) (by omega) (by intro p9 h9; rw [hr3_0]; exact yg_9 p9 (by omega))) (And.intro rfl (fun r9 A9 h9 => ?_)))))))
                obtain ⟨y15, rfl, rfl, by15⟩ := h9
                have ym_9 := by15
                rw [hr3_0] at ym_9
                have yg_8 : TG (f 0) (v 0).toInt z4_22.toInt z5_37.toInt y15.toInt := ⟨by omega, by omega, by omega, by omega, ym_9.2.2.1⟩
                have yx_8 : ∀ j, TG (f 0) (v 0).toInt z4_22.toInt z5_37.toInt j → j ≤ y15.toInt := TG_mx3 (by omega) (fun h9 => ym_9.2.2.2 (by omega) (by omega) (by omega))
                refine And.intro (fun c16 => ?_) (fun c16 => ?_)
                · skip
                  refine hC.1 4 68 _ _ rfl _ _ _ _ _ ?_
                  refine hC.1 5 74 _ _ rfl _ _ _ _ _ ?_
                  intro m17 em_74
                  try have e17 : m17.toInt = (z5_37).toInt + (1) := by rw [em_74]; exact pm_addc _ _ (1) rfl (by omega) (by omega)
                  exact hC.2 [false, false, false, false, false, false, true] _ _ _ _ _ _ (ih12 z4_22 y15 m17 (by omega) (by omega) (by rw [show m17.toInt = z5_37.toInt + 1 by omega]; first | (exact TW_new j2_37 yg_8 yx_8 (by omega) (DR_in _ _) (fun _ _ h9 => DR_s h9)) | (exact TW_old j2_37 yx_8 (by omega) (fun _ _ h9 => DR_s h9) (fun _ _ h9 => DR_m h9))) (by omega))
                · skip
                  refine hC.1 5 74 _ _ rfl _ _ _ _ _ ?_
                  intro m18 em_74
                  try have e18 : m18.toInt = (z5_37).toInt + (1) := by rw [em_74]; exact pm_addc _ _ (1) rfl (by omega) (by omega)
                  exact hC.2 [false, false, false, false, false, false, true] _ _ _ _ _ _ (ih12 z2_37 z3_37 m18 (by omega) (by omega) (by rw [show m18.toInt = z5_37.toInt + 1 by omega]; first | (exact TW_new j2_37 yg_8 yx_8 (by omega) (DR_in _ _) (fun _ _ h9 => DR_s h9)) | (exact TW_old j2_37 yx_8 (by omega) (fun _ _ h9 => DR_s h9) (fun _ _ h9 => DR_m h9))) (by omega))
          exact lp11 (200 - m10.toInt).toNat.succ z2_22 z3_22 m10 (by omega) (by omega) (by rw [show m10.toInt = z4_22.toInt + 1 by omega]; exact j2_22) (by omega)
    exact lp5 (200 - (0 : Int32).toInt).toNat.succ (-1 : Int32) (0 : Int32) (0 : Int32) (by omega) (by omega) (by rw [k0, km1]; exact TW_r0 _ _) (by omega)
  · skip
    refine And.intro (fun c9 => absurd c9 (by decide)) (fun _ => ?_)
    have km1 : (-1 : Int32).toInt = -1 := rfl
    exact ⟨rfl, fun e9 => absurd e9 (by decide), rfl, (-1 : Int32), v, f, rfl, rfl, hv, hf, rfl, rfl, rfl, by first | omega | (dsimp only; omega) | trivial, by exact Or.inl ⟨by omega, rfl⟩⟩

end
end
section
/-! the shelf: which colour goes, what is on it, how many misses -/
noncomputable def b1 (x : Int32) : Int32 := (1 : Int32) <<< (x &&& 31)
end
section
/-! changed: how many names are otherwise now than behind an edit -/
noncomputable def qn (k : Nat → Int32) (n : Int) (x : Int32) : Int := nextEq k x 0 n.toNat
end
section
/-! report: the k-th by its bond, those without ahead of all -/
noncomputable def la (c : Nat → Int32) (i : Nat) : Int := lastEq c (c i) i
noncomputable def kR (c : Nat → Int32) (i : Nat) : Int := if la c i < 0 then (i : Int) - 160 else la c i
end
section
/-! the questions: an answer by its row, all of them, one more -/
noncomputable def cro (i : Int) : Nat := (40 + 4 * (i % 41)).toNat
noncomputable def cC (e : Nat → Nat → Int32) (i : Int) : Nat → Int32 := e (cro i + 1)
noncomputable def cM (e : Nat → Nat → Int32) (i : Int) : Nat → Int32 := e (cro i + 2)
end
section
/-! the law's world with the two rows held together -/
noncomputable def LX (g : pm_G) (xo h E : Nat) (A : pm_H) : Prop := ∃ (A00 : pm_H) (K nn dn : Nat) (q : Nat → Nat) (w : Nat → Int32) (e : Nat → Nat → Int32) (v : Nat → Int32) (f : Nat → Nat → Int32) (mq : Nat → Nat) (mv : Nat → Int32) (mf : Nat → Nat → Int32) (M : List pl_P), A = cw (md A00 g h mq mv mf) g K nn dn q w e v f ∧ q 0 = xo ∧ cw_I K nn dn q w e ∧ cw_S v f ∧ md_D h mq ∧ md_V mv ∧ md_F mf ∧ (∀ i, i < 40 + 4 * K → q i ≠ h ∧ ∀ j, j < 20 → q i ≠ mq j) ∧ (∀ j, j < 24 → e 15 j = mf 2 j) ∧ (w 0).toInt ≤ E ∧ (mv 4).toInt ≤ E ∧ rp (w nn) (e (nn + 1)) (e (nn + 2)) M ∧ rp (mv 0) (mf 0) (mf 1) M ∧ w 1 = mv 3 ∧ (w 0).toInt = (mv 4).toInt ∧ (nn : Int) = 40 + 4 * ((w 0).toInt % 41) ∧ nm0 M ∧ bd (w nn) (e (nn + 1)) (e (nn + 3))
theorem LX_mono {g : pm_G} {xo h E E' : Nat} {A : pm_H} (hE : E ≤ E') (hA : LX g xo h E A) : LX g xo h E' A := by
  obtain ⟨A00, K, nn, dn, q, w, e, v, f, mq, mv, mf, M, rfl, rfl, hI, hS, D, hv, hf, dj, hw, hE1, hE2, r⟩ := hA
  exact ⟨A00, K, nn, dn, q, w, e, v, f, mq, mv, mf, M, rfl, rfl, hI, hS, D, hv, hf, dj, hw, by omega, by omega, r⟩
theorem lx_n {n n2 : Int32} {c m c2 m2 : Nat → Int32} {M : List pl_P} (h1 : rp n c m M) (h2 : rp n2 c2 m2 M) : n.toInt = n2.toInt := h1.1.trans h2.1.symm
theorem lx_c {n n2 : Int32} {c m c2 m2 : Nat → Int32} {M : List pl_P} (h1 : rp n c m M) (h2 : rp n2 c2 m2 M) : ∀ j : Nat, (j : Int) < n.toInt → c j = c2 j := fun j hj => by
  have hl := h1.1
  rw [(h1.2 j (by omega)).1, (h2.2 j (by omega)).1]
noncomputable def wq (x1 x2 : Int32) (c : Nat → Int32) : Nat → Int32 := if 0 ≤ x1.toInt ∧ x1.toInt ≤ 23 ∧ 0 ≤ x2.toInt ∧ x2.toInt ≤ 999 then upd c x1.toInt.toNat x2 else c
theorem lx_wc {A0 : pm_H} {g : pm_G} {K nn dn : Nat} {q : Nat → Nat} {w : Nat → Int32} {e : Nat → Nat → Int32} {v : Nat → Int32} {f : Nat → Nat → Int32} (hI : cw_I K nn dn q w e) {x1 x2 : Int32} {r : Option Value} {A9 : pm_H} (h : ((0 ≤ x1.toInt ∧ x1.toInt ≤ 23 ∧ 0 ≤ x2.toInt ∧ x2.toInt ≤ 999) ∧ r = some (.int (e 15 x1.toInt.toNat)) ∧ A9 = cw A0 g K nn dn q w (va_up e 15 (upd (e 15) x1.toInt.toNat x2)) v f) ∨ (¬ (0 ≤ x1.toInt ∧ x1.toInt ≤ 23 ∧ 0 ≤ x2.toInt ∧ x2.toInt ≤ 999) ∧ r = some (.int (-1)) ∧ A9 = cw A0 g K nn dn q w e v f)) : ∃ (e2 : Nat → Nat → Int32) (y : Int32), r = some (.int y) ∧ A9 = cw A0 g K nn dn q w e2 v f ∧ cw_I K nn dn q w e2 ∧ (∀ i, 40 ≤ i → e2 i = e i) ∧ e2 15 = wq x1 x2 (e 15) := by
  rcases h with ⟨hr, h1, h2⟩ | ⟨hr, h1, h2⟩
  · exact ⟨_, _, h1, h2, ⟨hI.1, hI.2.1, hI.2.2.1, cw_E_up hI.2.2.2 _ _ (fun h9 _ => absurd h9 (by decide)) (fun h9 _ => absurd h9 (by decide))⟩, fun i hi => va_un (by omega), by rw [va_us, wq, if_pos hr]⟩
  · exact ⟨e, _, h1, h2, hI, fun _ _ => rfl, by rw [wq, if_neg hr]⟩
theorem lx_wm {B : pm_H} {g : pm_G} {h : Nat} {mq : Nat → Nat} {mv : Nat → Int32} {mf : Nat → Nat → Int32} (_ : md_D h mq) (hf : md_F mf) {x1 x2 : Int32} {r : Option Value} {A9 : pm_H} (h9 : ((0 ≤ x1.toInt ∧ x1.toInt ≤ 23 ∧ 0 ≤ x2.toInt ∧ x2.toInt ≤ 999) ∧ r = some (.int (mf 2 x1.toInt.toNat)) ∧ A9 = md B g h mq mv (va_up mf 2 (upd (mf 2) x1.toInt.toNat x2))) ∨ (¬ (0 ≤ x1.toInt ∧ x1.toInt ≤ 23 ∧ 0 ≤ x2.toInt ∧ x2.toInt ≤ 999) ∧ r = some (.int (-1)) ∧ A9 = md B g h mq mv mf)) : ∃ (mf2 : Nat → Nat → Int32) (y : Int32), r = some (.int y) ∧ A9 = md B g h mq mv mf2 ∧ md_F mf2 ∧ (mf2 0 = mf 0 ∧ mf2 1 = mf 1) ∧ mf2 2 = wq x1 x2 (mf 2) := by
  rcases h9 with ⟨hr, h1, h2⟩ | ⟨hr, h1, h2⟩
  · exact ⟨_, _, h1, h2, md_F_st hf 2 _ _ (md_rng _ _ (by decide)), ⟨va_un (by decide), va_un (by decide)⟩, by rw [va_us, wq, if_pos hr]⟩
  · exact ⟨mf, _, h1, h2, hf, ⟨rfl, rfl⟩, by rw [wq, if_neg hr]⟩
theorem lx_ww {e e2 mf mf2 : Nat → Nat → Int32} {x1 x2 : Int32} (hw : ∀ j, j < 24 → e 15 j = mf 2 j) (hc : e2 15 = wq x1 x2 (e 15)) (hm : mf2 2 = wq x1 x2 (mf 2)) : ∀ j, j < 24 → e2 15 j = mf2 2 j := fun j hj => by
  rw [hc, hm]
  unfold wq
  split
  · by_cases e1 : j = x1.toInt.toNat
    · rw [e1, pk_us, pk_us]
    · rw [pk_un e1, pk_un e1]; exact hw j hj
  · exact hw j hj
end
section
section
variable {l : Launch} {g : pm_G} {b L : Nat} {xs : Nat → Int32} {J : pm_J} {xo h : Nat}
set_option maxRecDepth 100000 in
set_option maxHeartbeats 2000000 in
theorem lx_b2 (hC : pm_Cl l g (lw_ro b L xs) 7 600000 7302250 lw_Rt bk_L_law J) {i : Int32} (hi : 0 ≤ i.toInt ∧ i.toInt + 6 ≤ L) (hL : L ≤ 3072) {E : Nat} (hE : E < 1000) {A : pm_H} {c s : Nat} (hA : LX g xo h E A) (hc : c + 4 ≤ 600000) (hs0 : s + 485 ≤ 7302250) (cont : ∀ (A' : pm_H) (c' s' : Nat), LX g xo h (E + 1) A' → c' ≤ c + 4 → s' ≤ s + 485 → J 2563 [some (.ref b), some (.ref xo), some (.ref h), some (.int i)] [] A' c' s') : J 308 [some (.ref b), some (.ref xo), some (.ref h), some (.int i)] [] A c s := by
  obtain ⟨A00, K, nn, dn, q, w, e, v, f, mq, mv, mf, M, rfl, rfl, hI, hS, D, hv, hf, dj, hw, hE1, hE2, hR1, hR2, hg, he0, hN, hM, hB⟩ := hA
  have hu9 := hI.2.1
  unfold cw_W at hu9
  have hro : lw_ro b L xs b = some (L, xs) := if_pos rfl
  refine hC.1 2 308 _ _ rfl _ _ _ _ _ ?_
  refine pq_aload_n1 (pq_aload_n0 (pq_iload_n3 (pq_iconst (pq_iadd ?_))))
  intro m1 em1
  have e1 : m1.toInt = i.toInt + 1 := lx_ad1 hi hL em1
  refine pq_iaload ?_
  refine Exists.intro _ (Exists.intro _ (And.intro (Or.inr hro) (And.intro (lx_bn1 hi e1) ?_)))
  obtain ⟨a1, ha1⟩ : ∃ z9, z9 = xs m1.toInt.toNat := ⟨_, rfl⟩
  have m_a1 := em1
  rw [← ha1]
  refine pq_aload_n0 (pq_iload_n3 (pq_iconst (pq_iadd ?_)))
  intro m2 em2
  have e2 : m2.toInt = i.toInt + 2 := lx_ad2 hi hL em2
  refine pq_iaload ?_
  refine Exists.intro _ (Exists.intro _ (And.intro (Or.inr hro) (And.intro (lx_bn2 hi e2) ?_)))
  obtain ⟨a2, ha2⟩ : ∃ z9, z9 = xs m2.toInt.toNat := ⟨_, rfl⟩
  have m_a2 := em2
  rw [← ha2]
  refine pq_iv2_10 ?_
  refine And.intro (Exists.intro _ (cw_o0 hI.1)) (Exists.intro _ (Exists.intro _ (Exists.intro _ (Exists.intro _ (And.intro (H_X10_put hI hS a1 a2 (by omega)) (And.intro (lw_bnd rfl (lx_c1 hc (by decide)) (lx_c1 hs0 (by decide)) rfl) (fun r9 A9 h9 => ?_)))))))
  obtain ⟨K319, nn319, dn319, q319, w319, e319, v319, f319, rfl, hI319, hS319, hX319, hy319, y319, rfl, by319⟩ := h9
  have dj319 := lw_dj D dj hX319
  have fc9 := by319.2 M hR1 hN
  refine pq_id1 (pq_pop (pq_aload_n2 (pq_aload_n0 (pq_iload_n3 (pq_iconst (pq_iadd ?_))))))
  intro m3 em3
  have e3 : m3.toInt = i.toInt + 1 := lx_ad1 hi hL em3
  refine pq_iaload ?_
  refine Exists.intro _ (Exists.intro _ (And.intro (Or.inr hro) (And.intro (lx_bn1 hi e3) ?_)))
  have ha1_3 : a1 = xs m3.toInt.toNat := by rw [ha1, em3, ← m_a1]
  rw [← ha1_3]
  refine pq_aload_n0 (pq_iload_n3 (pq_iconst (pq_iadd ?_)))
  intro m4 em4
  have e4 : m4.toInt = i.toInt + 2 := lx_ad2 hi hL em4
  refine pq_iaload ?_
  refine Exists.intro _ (Exists.intro _ (And.intro (Or.inr hro) (And.intro (lx_bn2 hi e4) ?_)))
  have ha2_4 : a2 = xs m4.toInt.toNat := by rw [ha2, em4, ← m_a2]
  rw [← ha2_4]
  refine pq_iv2_11 ?_
  rw [cw_md D dj319]
  refine And.intro (Exists.intro _ (md_o)) (Exists.intro _ (Exists.intro _ (Exists.intro _ (Exists.intro _ (And.intro (F_X11_put D mv mf hv hf a1 a2 (by omega)) (And.intro (lw_bnd rfl (lx_c2 hc (by decide)) (lx_c2 hs0 (by decide)) rfl) (fun r9 A9 h9 => ?_)))))))
  obtain ⟨y334, mv334, mf334, rfl, rfl, hv334, hf334, hx334, by334⟩ := h9
  have fm9 := by334.2 M hR2
  refine pq_id1 (pq_pop (pq_goto ?_))
  exact cont _ _ _ ⟨A00, K319, nn319, dn319, q319, w319, e319, v319, f319, mq, mv334, mf334, _, (cw_md D dj319).symm, (hX319.2.1 0 (by omega)), hI319, hS319, D, hv334, hf334, dj319, fun j hj => by rw [hy319, hx334]; exact hw j hj, by omega, by omega, fc9.1, fm9.1, (pm_eqI (by rw [fc9.2.2.1, fm9.2.2, hg])), (by rw [fc9.2.1, fm9.2.1, he0]), fc9.2.2.2.1, (nm_paint hM), (fc9.2.2.2.2 hB)⟩ (by omega) (by omega)

set_option maxRecDepth 100000 in
set_option maxHeartbeats 2000000 in
theorem lx_b3 (hC : pm_Cl l g (lw_ro b L xs) 7 600000 7302250 lw_Rt bk_L_law J) {i : Int32} (hi : 0 ≤ i.toInt ∧ i.toInt + 6 ≤ L) (hL : L ≤ 3072) {E : Nat} (hE : E < 1000) {A : pm_H} {c s : Nat} (hA : LX g xo h E A) (hc : c + 4 ≤ 600000) (hs0 : s + 485 ≤ 7302250) (cont : ∀ (A' : pm_H) (c' s' : Nat), LX g xo h (E + 1) A' → c' ≤ c + 4 → s' ≤ s + 485 → J 2563 [some (.ref b), some (.ref xo), some (.ref h), some (.int i)] [] A' c' s') : J 341 [some (.ref b), some (.ref xo), some (.ref h), some (.int i)] [] A c s := by
  obtain ⟨A00, K, nn, dn, q, w, e, v, f, mq, mv, mf, M, rfl, rfl, hI, hS, D, hv, hf, dj, hw, hE1, hE2, hR1, hR2, hg, he0, hN, hM, hB⟩ := hA
  have hu9 := hI.2.1
  unfold cw_W at hu9
  have hro : lw_ro b L xs b = some (L, xs) := if_pos rfl
  refine hC.1 3 341 _ _ rfl _ _ _ _ _ ?_
  refine pq_aload_n1 (pq_aload_n0 (pq_iload_n3 (pq_iconst (pq_iadd ?_))))
  intro m1 em1
  have e1 : m1.toInt = i.toInt + 1 := lx_ad1 hi hL em1
  refine pq_iaload ?_
  refine Exists.intro _ (Exists.intro _ (And.intro (Or.inr hro) (And.intro (lx_bn1 hi e1) ?_)))
  obtain ⟨a1, ha1⟩ : ∃ z9, z9 = xs m1.toInt.toNat := ⟨_, rfl⟩
  have m_a1 := em1
  rw [← ha1]
  refine pq_aload_n0 (pq_iload_n3 (pq_iconst (pq_iadd ?_)))
  intro m2 em2
  have e2 : m2.toInt = i.toInt + 2 := lx_ad2 hi hL em2
  refine pq_iaload ?_
  refine Exists.intro _ (Exists.intro _ (And.intro (Or.inr hro) (And.intro (lx_bn2 hi e2) ?_)))
  obtain ⟨a2, ha2⟩ : ∃ z9, z9 = xs m2.toInt.toNat := ⟨_, rfl⟩
  have m_a2 := em2
  rw [← ha2]
  refine pq_iv2_10 ?_
  refine And.intro (Exists.intro _ (cw_o0 hI.1)) (Exists.intro _ (Exists.intro _ (Exists.intro _ (Exists.intro _ (And.intro (H_X10_insert hI hS a1 a2 (by omega)) (And.intro (lw_bnd rfl (lx_c1 hc (by decide)) (lx_c1 hs0 (by decide)) rfl) (fun r9 A9 h9 => ?_)))))))
  obtain ⟨K352, nn352, dn352, q352, w352, e352, v352, f352, rfl, hI352, hS352, hX352, hy352, y352, rfl, by352⟩ := h9
  have dj352 := lw_dj D dj hX352
  have fc9 := by352.2 M hR1 hN
  refine pq_id1 (pq_pop (pq_aload_n2 (pq_aload_n0 (pq_iload_n3 (pq_iconst (pq_iadd ?_))))))
  intro m3 em3
  have e3 : m3.toInt = i.toInt + 1 := lx_ad1 hi hL em3
  refine pq_iaload ?_
  refine Exists.intro _ (Exists.intro _ (And.intro (Or.inr hro) (And.intro (lx_bn1 hi e3) ?_)))
  have ha1_3 : a1 = xs m3.toInt.toNat := by rw [ha1, em3, ← m_a1]
  rw [← ha1_3]
  refine pq_aload_n0 (pq_iload_n3 (pq_iconst (pq_iadd ?_)))
  intro m4 em4
  have e4 : m4.toInt = i.toInt + 2 := lx_ad2 hi hL em4
  refine pq_iaload ?_
  refine Exists.intro _ (Exists.intro _ (And.intro (Or.inr hro) (And.intro (lx_bn2 hi e4) ?_)))
  have ha2_4 : a2 = xs m4.toInt.toNat := by rw [ha2, em4, ← m_a2]
  rw [← ha2_4]
  refine pq_iv2_11 ?_
  rw [cw_md D dj352]
  refine And.intro (Exists.intro _ (md_o)) (Exists.intro _ (Exists.intro _ (Exists.intro _ (Exists.intro _ (And.intro (F_X11_insert D mv mf hv hf a1 a2 (by omega)) (And.intro (lw_bnd rfl (lx_c2 hc (by decide)) (lx_c2 hs0 (by decide)) rfl) (fun r9 A9 h9 => ?_)))))))
  obtain ⟨y367, mv367, mf367, rfl, rfl, hv367, hf367, hx367, by367⟩ := h9
  have fm9 := by367.2 M hR2
  rw [← hg] at fm9
  refine pq_id1 (pq_pop (pq_goto ?_))
  exact cont _ _ _ ⟨A00, K352, nn352, dn352, q352, w352, e352, v352, f352, mq, mv367, mf367, _, (cw_md D dj352).symm, (hX352.2.1 0 (by omega)), hI352, hS352, D, hv367, hf367, dj352, fun j hj => by rw [hy352, hx367]; exact hw j hj, by omega, by omega, fc9.1, fm9.1, (pm_eqI (by rw [fc9.2.2.1, fm9.2.2, hg])), (by rw [fc9.2.1, fm9.2.1, he0]), fc9.2.2.2.1, (nm_insert hM (by omega)), (fc9.2.2.2.2 hB)⟩ (by omega) (by omega)

set_option maxRecDepth 100000 in
set_option maxHeartbeats 2000000 in
theorem lx_b4 (hC : pm_Cl l g (lw_ro b L xs) 7 600000 7302250 lw_Rt bk_L_law J) {i : Int32} (hi : 0 ≤ i.toInt ∧ i.toInt + 6 ≤ L) (hL : L ≤ 3072) {E : Nat} (hE : E < 1000) {A : pm_H} {c s : Nat} (hA : LX g xo h E A) (hc : c + 4 ≤ 600000) (hs0 : s + 485 ≤ 7302250) (cont : ∀ (A' : pm_H) (c' s' : Nat), LX g xo h (E + 1) A' → c' ≤ c + 4 → s' ≤ s + 485 → J 2563 [some (.ref b), some (.ref xo), some (.ref h), some (.int i)] [] A' c' s') : J 374 [some (.ref b), some (.ref xo), some (.ref h), some (.int i)] [] A c s := by
  obtain ⟨A00, K, nn, dn, q, w, e, v, f, mq, mv, mf, M, rfl, rfl, hI, hS, D, hv, hf, dj, hw, hE1, hE2, hR1, hR2, hg, he0, hN, hM, hB⟩ := hA
  have hu9 := hI.2.1
  unfold cw_W at hu9
  have hro : lw_ro b L xs b = some (L, xs) := if_pos rfl
  refine hC.1 4 374 _ _ rfl _ _ _ _ _ ?_
  refine pq_aload_n1 (pq_aload_n0 (pq_iload_n3 (pq_iconst (pq_iadd ?_))))
  intro m1 em1
  have e1 : m1.toInt = i.toInt + 1 := lx_ad1 hi hL em1
  refine pq_iaload ?_
  refine Exists.intro _ (Exists.intro _ (And.intro (Or.inr hro) (And.intro (lx_bn1 hi e1) ?_)))
  obtain ⟨a1, ha1⟩ : ∃ z9, z9 = xs m1.toInt.toNat := ⟨_, rfl⟩
  have m_a1 := em1
  rw [← ha1]
  refine pq_aload_n0 (pq_iload_n3 (pq_iconst (pq_iadd ?_)))
  intro m2 em2
  have e2 : m2.toInt = i.toInt + 2 := lx_ad2 hi hL em2
  refine pq_iaload ?_
  refine Exists.intro _ (Exists.intro _ (And.intro (Or.inr hro) (And.intro (lx_bn2 hi e2) ?_)))
  obtain ⟨a2, ha2⟩ : ∃ z9, z9 = xs m2.toInt.toNat := ⟨_, rfl⟩
  have m_a2 := em2
  rw [← ha2]
  refine pq_iv2_10 ?_
  refine And.intro (Exists.intro _ (cw_o0 hI.1)) (Exists.intro _ (Exists.intro _ (Exists.intro _ (Exists.intro _ (And.intro (H_X10_cut hI hS a1 a2 (by omega)) (And.intro (lw_bnd rfl (lx_c1 hc (by decide)) (lx_c1 hs0 (by decide)) rfl) (fun r9 A9 h9 => ?_)))))))
  obtain ⟨K385, nn385, dn385, q385, w385, e385, v385, f385, rfl, hI385, hS385, hX385, hy385, y385, rfl, by385⟩ := h9
  have dj385 := lw_dj D dj hX385
  have fc9 := by385.2 M hR1 hN
  refine pq_id1 (pq_pop (pq_aload_n2 (pq_aload_n0 (pq_iload_n3 (pq_iconst (pq_iadd ?_))))))
  intro m3 em3
  have e3 : m3.toInt = i.toInt + 1 := lx_ad1 hi hL em3
  refine pq_iaload ?_
  refine Exists.intro _ (Exists.intro _ (And.intro (Or.inr hro) (And.intro (lx_bn1 hi e3) ?_)))
  have ha1_3 : a1 = xs m3.toInt.toNat := by rw [ha1, em3, ← m_a1]
  rw [← ha1_3]
  refine pq_aload_n0 (pq_iload_n3 (pq_iconst (pq_iadd ?_)))
  intro m4 em4
  have e4 : m4.toInt = i.toInt + 2 := lx_ad2 hi hL em4
  refine pq_iaload ?_
  refine Exists.intro _ (Exists.intro _ (And.intro (Or.inr hro) (And.intro (lx_bn2 hi e4) ?_)))
  have ha2_4 : a2 = xs m4.toInt.toNat := by rw [ha2, em4, ← m_a2]
  rw [← ha2_4]
  refine pq_iv2_11 ?_
  rw [cw_md D dj385]
  refine And.intro (Exists.intro _ (md_o)) (Exists.intro _ (Exists.intro _ (Exists.intro _ (Exists.intro _ (And.intro (F_X11_cut D mv mf hv hf a1 a2 (by omega)) (And.intro (lw_bnd rfl (lx_c2 hc (by decide)) (lx_c2 hs0 (by decide)) rfl) (fun r9 A9 h9 => ?_)))))))
  obtain ⟨y400, mv400, mf400, rfl, rfl, hv400, hf400, hx400, by400⟩ := h9
  have fm9 := by400.2 M hR2
  refine pq_id1 (pq_pop (pq_goto ?_))
  exact cont _ _ _ ⟨A00, K385, nn385, dn385, q385, w385, e385, v385, f385, mq, mv400, mf400, _, (cw_md D dj385).symm, (hX385.2.1 0 (by omega)), hI385, hS385, D, hv400, hf400, dj385, fun j hj => by rw [hy385, hx400]; exact hw j hj, by omega, by omega, fc9.1, fm9.1, (pm_eqI (by rw [fc9.2.2.1, fm9.2.2, hg])), (by rw [fc9.2.1, fm9.2.1, he0]), fc9.2.2.2.1, (nm_cut hM), (fc9.2.2.2.2 hB)⟩ (by omega) (by omega)

set_option maxRecDepth 100000 in
set_option maxHeartbeats 2000000 in
theorem lx_b5 (hC : pm_Cl l g (lw_ro b L xs) 7 600000 7302250 lw_Rt bk_L_law J) {i : Int32} (hi : 0 ≤ i.toInt ∧ i.toInt + 6 ≤ L) (hL : L ≤ 3072) {E : Nat} (hE : E < 1000) {A : pm_H} {c s : Nat} (hA : LX g xo h E A) (hc : c + 4 ≤ 600000) (hs0 : s + 485 ≤ 7302250) (cont : ∀ (A' : pm_H) (c' s' : Nat), LX g xo h (E + 1) A' → c' ≤ c + 4 → s' ≤ s + 485 → J 2563 [some (.ref b), some (.ref xo), some (.ref h), some (.int i)] [] A' c' s') : J 407 [some (.ref b), some (.ref xo), some (.ref h), some (.int i)] [] A c s := by
  obtain ⟨A00, K, nn, dn, q, w, e, v, f, mq, mv, mf, M, rfl, rfl, hI, hS, D, hv, hf, dj, hw, hE1, hE2, hR1, hR2, hg, he0, hN, hM, hB⟩ := hA
  have hu9 := hI.2.1
  unfold cw_W at hu9
  have hro : lw_ro b L xs b = some (L, xs) := if_pos rfl
  refine hC.1 5 407 _ _ rfl _ _ _ _ _ ?_
  refine pq_aload_n1 (pq_aload_n0 (pq_iload_n3 (pq_iconst (pq_iadd ?_))))
  intro m1 em1
  have e1 : m1.toInt = i.toInt + 1 := lx_ad1 hi hL em1
  refine pq_iaload ?_
  refine Exists.intro _ (Exists.intro _ (And.intro (Or.inr hro) (And.intro (lx_bn1 hi e1) ?_)))
  obtain ⟨a1, ha1⟩ : ∃ z9, z9 = xs m1.toInt.toNat := ⟨_, rfl⟩
  have m_a1 := em1
  rw [← ha1]
  refine pq_aload_n0 (pq_iload_n3 (pq_iconst (pq_iadd ?_)))
  intro m2 em2
  have e2 : m2.toInt = i.toInt + 2 := lx_ad2 hi hL em2
  refine pq_iaload ?_
  refine Exists.intro _ (Exists.intro _ (And.intro (Or.inr hro) (And.intro (lx_bn2 hi e2) ?_)))
  obtain ⟨a2, ha2⟩ : ∃ z9, z9 = xs m2.toInt.toNat := ⟨_, rfl⟩
  have m_a2 := em2
  rw [← ha2]
  refine pq_aload_n0 (pq_iload_n3 (pq_iconst (pq_iadd ?_)))
  intro m3 em3
  have e3 : m3.toInt = i.toInt + 3 := lx_ad3 hi hL em3
  refine pq_iaload ?_
  refine Exists.intro _ (Exists.intro _ (And.intro (Or.inr hro) (And.intro (lx_bn3 hi e3) ?_)))
  obtain ⟨a3, ha3⟩ : ∃ z9, z9 = xs m3.toInt.toNat := ⟨_, rfl⟩
  have m_a3 := em3
  rw [← ha3]
  refine pq_iv3_10 ?_
  refine And.intro (Exists.intro _ (cw_o0 hI.1)) (Exists.intro _ (Exists.intro _ (Exists.intro _ (Exists.intro _ (And.intro (H_X10_paint hI hS a1 a2 a3 (by omega)) (And.intro (lw_bnd rfl (lx_c1 hc (by decide)) (lx_c1 hs0 (by decide)) rfl) (fun r9 A9 h9 => ?_)))))))
  obtain ⟨K423, nn423, dn423, q423, w423, e423, v423, f423, rfl, hI423, hS423, hX423, hy423, y423, rfl, by423⟩ := h9
  have dj423 := lw_dj D dj hX423
  have fc9 := by423.2 M hR1 hN
  refine pq_id1 (pq_pop (pq_aload_n2 (pq_aload_n0 (pq_iload_n3 (pq_iconst (pq_iadd ?_))))))
  intro m4 em4
  have e4 : m4.toInt = i.toInt + 1 := lx_ad1 hi hL em4
  refine pq_iaload ?_
  refine Exists.intro _ (Exists.intro _ (And.intro (Or.inr hro) (And.intro (lx_bn1 hi e4) ?_)))
  have ha1_4 : a1 = xs m4.toInt.toNat := by rw [ha1, em4, ← m_a1]
  rw [← ha1_4]
  refine pq_aload_n0 (pq_iload_n3 (pq_iconst (pq_iadd ?_)))
  intro m5 em5
  have e5 : m5.toInt = i.toInt + 2 := lx_ad2 hi hL em5
  refine pq_iaload ?_
  refine Exists.intro _ (Exists.intro _ (And.intro (Or.inr hro) (And.intro (lx_bn2 hi e5) ?_)))
  have ha2_5 : a2 = xs m5.toInt.toNat := by rw [ha2, em5, ← m_a2]
  rw [← ha2_5]
  refine pq_aload_n0 (pq_iload_n3 (pq_iconst (pq_iadd ?_)))
  intro m6 em6
  have e6 : m6.toInt = i.toInt + 3 := lx_ad3 hi hL em6
  refine pq_iaload ?_
  refine Exists.intro _ (Exists.intro _ (And.intro (Or.inr hro) (And.intro (lx_bn3 hi e6) ?_)))
  have ha3_6 : a3 = xs m6.toInt.toNat := by rw [ha3, em6, ← m_a3]
  rw [← ha3_6]
  refine pq_iv3_11 ?_
  rw [cw_md D dj423]
  refine And.intro (Exists.intro _ (md_o)) (Exists.intro _ (Exists.intro _ (Exists.intro _ (Exists.intro _ (And.intro (F_X11_paint D mv mf hv hf a1 a2 a3 (by omega)) (And.intro (lw_bnd rfl (lx_c2 hc (by decide)) (lx_c2 hs0 (by decide)) rfl) (fun r9 A9 h9 => ?_)))))))
  obtain ⟨y443, mv443, mf443, rfl, rfl, hv443, hf443, hx443, by443⟩ := h9
  have fm9 := by443.2 M hR2
  refine pq_id1 (pq_pop (pq_goto ?_))
  exact cont _ _ _ ⟨A00, K423, nn423, dn423, q423, w423, e423, v423, f423, mq, mv443, mf443, _, (cw_md D dj423).symm, (hX423.2.1 0 (by omega)), hI423, hS423, D, hv443, hf443, dj423, fun j hj => by rw [hy423, hx443]; exact hw j hj, by omega, by omega, fc9.1, fm9.1, (pm_eqI (by rw [fc9.2.2.1, fm9.2.2, hg])), (by rw [fc9.2.1, fm9.2.1, he0]), fc9.2.2.2.1, (nm_paint hM), (fc9.2.2.2.2 hB)⟩ (by omega) (by omega)

set_option maxRecDepth 100000 in
set_option maxHeartbeats 2000000 in
theorem lx_b6 (hC : pm_Cl l g (lw_ro b L xs) 7 600000 7302250 lw_Rt bk_L_law J) {i : Int32} (hi : 0 ≤ i.toInt ∧ i.toInt + 6 ≤ L) (hL : L ≤ 3072) {E : Nat} (hE : E < 1000) {A : pm_H} {c s : Nat} (hA : LX g xo h E A) (hc : c + 4 ≤ 600000) (hs0 : s + 485 ≤ 7302250) (cont : ∀ (A' : pm_H) (c' s' : Nat), LX g xo h (E + 1) A' → c' ≤ c + 4 → s' ≤ s + 485 → J 2563 [some (.ref b), some (.ref xo), some (.ref h), some (.int i)] [] A' c' s') : J 450 [some (.ref b), some (.ref xo), some (.ref h), some (.int i)] [] A c s := by
  obtain ⟨A00, K, nn, dn, q, w, e, v, f, mq, mv, mf, M, rfl, rfl, hI, hS, D, hv, hf, dj, hw, hE1, hE2, hR1, hR2, hg, he0, hN, hM, hB⟩ := hA
  have hu9 := hI.2.1
  unfold cw_W at hu9
  have hro : lw_ro b L xs b = some (L, xs) := if_pos rfl
  refine hC.1 6 450 _ _ rfl _ _ _ _ _ ?_
  refine pq_aload_n1 (pq_aload_n0 (pq_iload_n3 (pq_iconst (pq_iadd ?_))))
  intro m1 em1
  have e1 : m1.toInt = i.toInt + 1 := lx_ad1 hi hL em1
  refine pq_iaload ?_
  refine Exists.intro _ (Exists.intro _ (And.intro (Or.inr hro) (And.intro (lx_bn1 hi e1) ?_)))
  obtain ⟨a1, ha1⟩ : ∃ z9, z9 = xs m1.toInt.toNat := ⟨_, rfl⟩
  have m_a1 := em1
  rw [← ha1]
  refine pq_aload_n0 (pq_iload_n3 (pq_iconst (pq_iadd ?_)))
  intro m2 em2
  have e2 : m2.toInt = i.toInt + 2 := lx_ad2 hi hL em2
  refine pq_iaload ?_
  refine Exists.intro _ (Exists.intro _ (And.intro (Or.inr hro) (And.intro (lx_bn2 hi e2) ?_)))
  obtain ⟨a2, ha2⟩ : ∃ z9, z9 = xs m2.toInt.toNat := ⟨_, rfl⟩
  have m_a2 := em2
  rw [← ha2]
  refine pq_iv2_10 ?_
  refine And.intro (Exists.intro _ (cw_o0 hI.1)) (Exists.intro _ (Exists.intro _ (Exists.intro _ (Exists.intro _ (And.intro (H_X10_turn hI hS a1 a2 (by omega)) (And.intro (lw_bnd rfl (lx_c1 hc (by decide)) (lx_c1 hs0 (by decide)) rfl) (fun r9 A9 h9 => ?_)))))))
  obtain ⟨K461, nn461, dn461, q461, w461, e461, v461, f461, rfl, hI461, hS461, hX461, hy461, y461, rfl, by461⟩ := h9
  have dj461 := lw_dj D dj hX461
  have fc9 := by461.2 M hR1 hN
  refine pq_id1 (pq_pop (pq_aload_n2 (pq_aload_n0 (pq_iload_n3 (pq_iconst (pq_iadd ?_))))))
  intro m3 em3
  have e3 : m3.toInt = i.toInt + 1 := lx_ad1 hi hL em3
  refine pq_iaload ?_
  refine Exists.intro _ (Exists.intro _ (And.intro (Or.inr hro) (And.intro (lx_bn1 hi e3) ?_)))
  have ha1_3 : a1 = xs m3.toInt.toNat := by rw [ha1, em3, ← m_a1]
  rw [← ha1_3]
  refine pq_aload_n0 (pq_iload_n3 (pq_iconst (pq_iadd ?_)))
  intro m4 em4
  have e4 : m4.toInt = i.toInt + 2 := lx_ad2 hi hL em4
  refine pq_iaload ?_
  refine Exists.intro _ (Exists.intro _ (And.intro (Or.inr hro) (And.intro (lx_bn2 hi e4) ?_)))
  have ha2_4 : a2 = xs m4.toInt.toNat := by rw [ha2, em4, ← m_a2]
  rw [← ha2_4]
  refine pq_iv2_11 ?_
  rw [cw_md D dj461]
  refine And.intro (Exists.intro _ (md_o)) (Exists.intro _ (Exists.intro _ (Exists.intro _ (Exists.intro _ (And.intro (F_X11_turn D mv mf hv hf a1 a2 (by omega)) (And.intro (lw_bnd rfl (lx_c2 hc (by decide)) (lx_c2 hs0 (by decide)) rfl) (fun r9 A9 h9 => ?_)))))))
  obtain ⟨y476, mv476, mf476, rfl, rfl, hv476, hf476, hx476, by476⟩ := h9
  have fm9 := by476.2 M hR2
  refine pq_id1 (pq_pop (pq_goto ?_))
  exact cont _ _ _ ⟨A00, K461, nn461, dn461, q461, w461, e461, v461, f461, mq, mv476, mf476, _, (cw_md D dj461).symm, (hX461.2.1 0 (by omega)), hI461, hS461, D, hv476, hf476, dj461, fun j hj => by rw [hy461, hx476]; exact hw j hj, by omega, by omega, fc9.1, fm9.1, (pm_eqI (by rw [fc9.2.2.1, fm9.2.2, hg])), (by rw [fc9.2.1, fm9.2.1, he0]), fc9.2.2.2.1, (nm_turn hM), (fc9.2.2.2.2 hB)⟩ (by omega) (by omega)

set_option maxRecDepth 100000 in
set_option maxHeartbeats 2000000 in
theorem lx_b7 (hC : pm_Cl l g (lw_ro b L xs) 7 600000 7302250 lw_Rt bk_L_law J) {i : Int32} (hi : 0 ≤ i.toInt ∧ i.toInt + 6 ≤ L) (hL : L ≤ 3072) {E : Nat} (hE : E < 1000) {A : pm_H} {c s : Nat} (hA : LX g xo h E A) (hc : c + 4 ≤ 600000) (hs0 : s + 485 ≤ 7302250) (cont : ∀ (A' : pm_H) (c' s' : Nat), LX g xo h (E + 1) A' → c' ≤ c + 4 → s' ≤ s + 485 → J 2563 [some (.ref b), some (.ref xo), some (.ref h), some (.int i)] [] A' c' s') : J 483 [some (.ref b), some (.ref xo), some (.ref h), some (.int i)] [] A c s := by
  obtain ⟨A00, K, nn, dn, q, w, e, v, f, mq, mv, mf, M, rfl, rfl, hI, hS, D, hv, hf, dj, hw, hE1, hE2, hR1, hR2, hg, he0, hN, hM, hB⟩ := hA
  have hu9 := hI.2.1
  unfold cw_W at hu9
  have hro : lw_ro b L xs b = some (L, xs) := if_pos rfl
  refine hC.1 7 483 _ _ rfl _ _ _ _ _ ?_
  refine pq_aload_n1 (pq_aload_n0 (pq_iload_n3 (pq_iconst (pq_iadd ?_))))
  intro m1 em1
  have e1 : m1.toInt = i.toInt + 1 := lx_ad1 hi hL em1
  refine pq_iaload ?_
  refine Exists.intro _ (Exists.intro _ (And.intro (Or.inr hro) (And.intro (lx_bn1 hi e1) ?_)))
  obtain ⟨a1, ha1⟩ : ∃ z9, z9 = xs m1.toInt.toNat := ⟨_, rfl⟩
  have m_a1 := em1
  rw [← ha1]
  refine pq_aload_n0 (pq_iload_n3 (pq_iconst (pq_iadd ?_)))
  intro m2 em2
  have e2 : m2.toInt = i.toInt + 2 := lx_ad2 hi hL em2
  refine pq_iaload ?_
  refine Exists.intro _ (Exists.intro _ (And.intro (Or.inr hro) (And.intro (lx_bn2 hi e2) ?_)))
  obtain ⟨a2, ha2⟩ : ∃ z9, z9 = xs m2.toInt.toNat := ⟨_, rfl⟩
  have m_a2 := em2
  rw [← ha2]
  refine pq_aload_n0 (pq_iload_n3 (pq_iconst (pq_iadd ?_)))
  intro m3 em3
  have e3 : m3.toInt = i.toInt + 3 := lx_ad3 hi hL em3
  refine pq_iaload ?_
  refine Exists.intro _ (Exists.intro _ (And.intro (Or.inr hro) (And.intro (lx_bn3 hi e3) ?_)))
  obtain ⟨a3, ha3⟩ : ∃ z9, z9 = xs m3.toInt.toNat := ⟨_, rfl⟩
  have m_a3 := em3
  rw [← ha3]
  refine pq_iv3_10 ?_
  refine And.intro (Exists.intro _ (cw_o0 hI.1)) (Exists.intro _ (Exists.intro _ (Exists.intro _ (Exists.intro _ (And.intro (H_X10_shift hI hS a1 a2 a3 (by omega)) (And.intro (lw_bnd rfl (lx_c1 hc (by decide)) (lx_c1 hs0 (by decide)) rfl) (fun r9 A9 h9 => ?_)))))))
  obtain ⟨K499, nn499, dn499, q499, w499, e499, v499, f499, rfl, hI499, hS499, hX499, hy499, y499, rfl, by499⟩ := h9
  have dj499 := lw_dj D dj hX499
  have fc9 := by499.2 M hR1 hN
  refine pq_id1 (pq_pop (pq_aload_n2 (pq_aload_n0 (pq_iload_n3 (pq_iconst (pq_iadd ?_))))))
  intro m4 em4
  have e4 : m4.toInt = i.toInt + 1 := lx_ad1 hi hL em4
  refine pq_iaload ?_
  refine Exists.intro _ (Exists.intro _ (And.intro (Or.inr hro) (And.intro (lx_bn1 hi e4) ?_)))
  have ha1_4 : a1 = xs m4.toInt.toNat := by rw [ha1, em4, ← m_a1]
  rw [← ha1_4]
  refine pq_aload_n0 (pq_iload_n3 (pq_iconst (pq_iadd ?_)))
  intro m5 em5
  have e5 : m5.toInt = i.toInt + 2 := lx_ad2 hi hL em5
  refine pq_iaload ?_
  refine Exists.intro _ (Exists.intro _ (And.intro (Or.inr hro) (And.intro (lx_bn2 hi e5) ?_)))
  have ha2_5 : a2 = xs m5.toInt.toNat := by rw [ha2, em5, ← m_a2]
  rw [← ha2_5]
  refine pq_aload_n0 (pq_iload_n3 (pq_iconst (pq_iadd ?_)))
  intro m6 em6
  have e6 : m6.toInt = i.toInt + 3 := lx_ad3 hi hL em6
  refine pq_iaload ?_
  refine Exists.intro _ (Exists.intro _ (And.intro (Or.inr hro) (And.intro (lx_bn3 hi e6) ?_)))
  have ha3_6 : a3 = xs m6.toInt.toNat := by rw [ha3, em6, ← m_a3]
  rw [← ha3_6]
  refine pq_iv3_11 ?_
  rw [cw_md D dj499]
  refine And.intro (Exists.intro _ (md_o)) (Exists.intro _ (Exists.intro _ (Exists.intro _ (Exists.intro _ (And.intro (F_X11_shift D mv mf hv hf a1 a2 a3 (by omega)) (And.intro (lw_bnd rfl (lx_c2 hc (by decide)) (lx_c2 hs0 (by decide)) rfl) (fun r9 A9 h9 => ?_)))))))
  obtain ⟨y519, mv519, mf519, rfl, rfl, hv519, hf519, hx519, by519⟩ := h9
  have fm9 := by519.2 M hR2
  refine pq_id1 (pq_pop (pq_goto ?_))
  exact cont _ _ _ ⟨A00, K499, nn499, dn499, q499, w499, e499, v499, f499, mq, mv519, mf519, _, (cw_md D dj499).symm, (hX499.2.1 0 (by omega)), hI499, hS499, D, hv519, hf519, dj499, fun j hj => by rw [hy499, hx519]; exact hw j hj, by omega, by omega, fc9.1, fm9.1, (pm_eqI (by rw [fc9.2.2.1, fm9.2.2, hg])), (by rw [fc9.2.1, fm9.2.1, he0]), fc9.2.2.2.1, (nm_shift hM), (fc9.2.2.2.2 hB)⟩ (by omega) (by omega)

set_option maxRecDepth 100000 in
set_option maxHeartbeats 2000000 in
theorem lx_b8 (hC : pm_Cl l g (lw_ro b L xs) 7 600000 7302250 lw_Rt bk_L_law J) {i : Int32} (hi : 0 ≤ i.toInt ∧ i.toInt + 6 ≤ L) (hL : L ≤ 3072) {E : Nat} (hE : E < 1000) {A : pm_H} {c s : Nat} (hA : LX g xo h E A) (hc : c + 4 ≤ 600000) (hs0 : s + 485 ≤ 7302250) (cont : ∀ (A' : pm_H) (c' s' : Nat), LX g xo h (E + 1) A' → c' ≤ c + 4 → s' ≤ s + 485 → J 2563 [some (.ref b), some (.ref xo), some (.ref h), some (.int i)] [] A' c' s') : J 526 [some (.ref b), some (.ref xo), some (.ref h), some (.int i)] [] A c s := by
  obtain ⟨A00, K, nn, dn, q, w, e, v, f, mq, mv, mf, M, rfl, rfl, hI, hS, D, hv, hf, dj, hw, hE1, hE2, hR1, hR2, hg, he0, hN, hM, hB⟩ := hA
  have hu9 := hI.2.1
  unfold cw_W at hu9
  have hro : lw_ro b L xs b = some (L, xs) := if_pos rfl
  refine hC.1 8 526 _ _ rfl _ _ _ _ _ ?_
  refine pq_aload_n1 (pq_aload_n0 (pq_iload_n3 (pq_iconst (pq_iadd ?_))))
  intro m1 em1
  have e1 : m1.toInt = i.toInt + 1 := lx_ad1 hi hL em1
  refine pq_iaload ?_
  refine Exists.intro _ (Exists.intro _ (And.intro (Or.inr hro) (And.intro (lx_bn1 hi e1) ?_)))
  obtain ⟨a1, ha1⟩ : ∃ z9, z9 = xs m1.toInt.toNat := ⟨_, rfl⟩
  have m_a1 := em1
  rw [← ha1]
  refine pq_aload_n0 (pq_iload_n3 (pq_iconst (pq_iadd ?_)))
  intro m2 em2
  have e2 : m2.toInt = i.toInt + 2 := lx_ad2 hi hL em2
  refine pq_iaload ?_
  refine Exists.intro _ (Exists.intro _ (And.intro (Or.inr hro) (And.intro (lx_bn2 hi e2) ?_)))
  obtain ⟨a2, ha2⟩ : ∃ z9, z9 = xs m2.toInt.toNat := ⟨_, rfl⟩
  have m_a2 := em2
  rw [← ha2]
  refine pq_iv2_10 ?_
  refine And.intro (Exists.intro _ (cw_o0 hI.1)) (Exists.intro _ (Exists.intro _ (Exists.intro _ (Exists.intro _ (And.intro (H_X10_sort hI hS a1 a2 (by omega)) (And.intro (lw_bnd rfl (lx_c1 hc (by decide)) (lx_c1 hs0 (by decide)) rfl) (fun r9 A9 h9 => ?_)))))))
  obtain ⟨K537, nn537, dn537, q537, w537, e537, v537, f537, rfl, hI537, hS537, hX537, hy537, y537, rfl, by537⟩ := h9
  have dj537 := lw_dj D dj hX537
  have fc9 := by537.2 M hR1 hN
  refine pq_id1 (pq_pop (pq_aload_n2 (pq_aload_n0 (pq_iload_n3 (pq_iconst (pq_iadd ?_))))))
  intro m3 em3
  have e3 : m3.toInt = i.toInt + 1 := lx_ad1 hi hL em3
  refine pq_iaload ?_
  refine Exists.intro _ (Exists.intro _ (And.intro (Or.inr hro) (And.intro (lx_bn1 hi e3) ?_)))
  have ha1_3 : a1 = xs m3.toInt.toNat := by rw [ha1, em3, ← m_a1]
  rw [← ha1_3]
  refine pq_aload_n0 (pq_iload_n3 (pq_iconst (pq_iadd ?_)))
  intro m4 em4
  have e4 : m4.toInt = i.toInt + 2 := lx_ad2 hi hL em4
  refine pq_iaload ?_
  refine Exists.intro _ (Exists.intro _ (And.intro (Or.inr hro) (And.intro (lx_bn2 hi e4) ?_)))
  have ha2_4 : a2 = xs m4.toInt.toNat := by rw [ha2, em4, ← m_a2]
  rw [← ha2_4]
  refine pq_iv2_11 ?_
  rw [cw_md D dj537]
  refine And.intro (Exists.intro _ (md_o)) (Exists.intro _ (Exists.intro _ (Exists.intro _ (Exists.intro _ (And.intro (F_X11_sort D mv mf hv hf a1 a2 (by omega)) (And.intro (lw_bnd rfl (lx_c2 hc (by decide)) (lx_c2 hs0 (by decide)) rfl) (fun r9 A9 h9 => ?_)))))))
  obtain ⟨y552, mv552, mf552, rfl, rfl, hv552, hf552, hx552, by552⟩ := h9
  have fm9 := by552.2 M hR2
  refine pq_id1 (pq_pop (pq_goto ?_))
  exact cont _ _ _ ⟨A00, K537, nn537, dn537, q537, w537, e537, v537, f537, mq, mv552, mf552, _, (cw_md D dj537).symm, (hX537.2.1 0 (by omega)), hI537, hS537, D, hv552, hf552, dj537, fun j hj => by rw [hy537, hx552]; exact hw j hj, by omega, by omega, fc9.1, fm9.1, (pm_eqI (by rw [fc9.2.2.1, fm9.2.2, hg])), (by rw [fc9.2.1, fm9.2.1, he0]), fc9.2.2.2.1, (nm_sort hM), (fc9.2.2.2.2 hB)⟩ (by omega) (by omega)

set_option maxRecDepth 100000 in
set_option maxHeartbeats 2000000 in
theorem lx_b9 (hC : pm_Cl l g (lw_ro b L xs) 7 600000 7302250 lw_Rt bk_L_law J) {i : Int32} (hi : 0 ≤ i.toInt ∧ i.toInt + 6 ≤ L) (hL : L ≤ 3072) {E : Nat} (hE : E < 1000) {A : pm_H} {c s : Nat} (hA : LX g xo h E A) (hc : c + 4 ≤ 600000) (hs0 : s + 485 ≤ 7302250) (cont : ∀ (A' : pm_H) (c' s' : Nat), LX g xo h (E + 1) A' → c' ≤ c + 4 → s' ≤ s + 485 → J 2563 [some (.ref b), some (.ref xo), some (.ref h), some (.int i)] [] A' c' s') : J 559 [some (.ref b), some (.ref xo), some (.ref h), some (.int i)] [] A c s := by
  obtain ⟨A00, K, nn, dn, q, w, e, v, f, mq, mv, mf, M, rfl, rfl, hI, hS, D, hv, hf, dj, hw, hE1, hE2, hR1, hR2, hg, he0, hN, hM, hB⟩ := hA
  have hu9 := hI.2.1
  unfold cw_W at hu9
  have hro : lw_ro b L xs b = some (L, xs) := if_pos rfl
  refine hC.1 9 559 _ _ rfl _ _ _ _ _ ?_
  refine pq_aload_n1 (pq_aload_n0 (pq_iload_n3 (pq_iconst (pq_iadd ?_))))
  intro m1 em1
  have e1 : m1.toInt = i.toInt + 1 := lx_ad1 hi hL em1
  refine pq_iaload ?_
  refine Exists.intro _ (Exists.intro _ (And.intro (Or.inr hro) (And.intro (lx_bn1 hi e1) ?_)))
  obtain ⟨a1, ha1⟩ : ∃ z9, z9 = xs m1.toInt.toNat := ⟨_, rfl⟩
  have m_a1 := em1
  rw [← ha1]
  refine pq_aload_n0 (pq_iload_n3 (pq_iconst (pq_iadd ?_)))
  intro m2 em2
  have e2 : m2.toInt = i.toInt + 2 := lx_ad2 hi hL em2
  refine pq_iaload ?_
  refine Exists.intro _ (Exists.intro _ (And.intro (Or.inr hro) (And.intro (lx_bn2 hi e2) ?_)))
  obtain ⟨a2, ha2⟩ : ∃ z9, z9 = xs m2.toInt.toNat := ⟨_, rfl⟩
  have m_a2 := em2
  rw [← ha2]
  refine pq_aload_n0 (pq_iload_n3 (pq_iconst (pq_iadd ?_)))
  intro m3 em3
  have e3 : m3.toInt = i.toInt + 3 := lx_ad3 hi hL em3
  refine pq_iaload ?_
  refine Exists.intro _ (Exists.intro _ (And.intro (Or.inr hro) (And.intro (lx_bn3 hi e3) ?_)))
  obtain ⟨a3, ha3⟩ : ∃ z9, z9 = xs m3.toInt.toNat := ⟨_, rfl⟩
  have m_a3 := em3
  rw [← ha3]
  refine pq_aload_n0 (pq_iload_n3 (pq_iconst (pq_iadd ?_)))
  intro m4 em4
  have e4 : m4.toInt = i.toInt + 4 := lx_ad4 hi hL em4
  refine pq_iaload ?_
  refine Exists.intro _ (Exists.intro _ (And.intro (Or.inr hro) (And.intro (lx_bn4 hi e4) ?_)))
  obtain ⟨a4, ha4⟩ : ∃ z9, z9 = xs m4.toInt.toNat := ⟨_, rfl⟩
  have m_a4 := em4
  rw [← ha4]
  refine pq_iv4_10 ?_
  refine And.intro (Exists.intro _ (cw_o0 hI.1)) (Exists.intro _ (Exists.intro _ (Exists.intro _ (Exists.intro _ (And.intro (H_X10_swap hI hS a1 a2 a3 a4 (by omega)) (And.intro (lw_bnd rfl (lx_c1 hc (by decide)) (lx_c1 hs0 (by decide)) rfl) (fun r9 A9 h9 => ?_)))))))
  obtain ⟨K580, nn580, dn580, q580, w580, e580, v580, f580, rfl, hI580, hS580, hX580, hy580, y580, rfl, by580⟩ := h9
  have dj580 := lw_dj D dj hX580
  have fc9 := by580.2 M hR1 hN
  refine pq_id1 (pq_pop (pq_aload_n2 (pq_aload_n0 (pq_iload_n3 (pq_iconst (pq_iadd ?_))))))
  intro m5 em5
  have e5 : m5.toInt = i.toInt + 1 := lx_ad1 hi hL em5
  refine pq_iaload ?_
  refine Exists.intro _ (Exists.intro _ (And.intro (Or.inr hro) (And.intro (lx_bn1 hi e5) ?_)))
  have ha1_5 : a1 = xs m5.toInt.toNat := by rw [ha1, em5, ← m_a1]
  rw [← ha1_5]
  refine pq_aload_n0 (pq_iload_n3 (pq_iconst (pq_iadd ?_)))
  intro m6 em6
  have e6 : m6.toInt = i.toInt + 2 := lx_ad2 hi hL em6
  refine pq_iaload ?_
  refine Exists.intro _ (Exists.intro _ (And.intro (Or.inr hro) (And.intro (lx_bn2 hi e6) ?_)))
  have ha2_6 : a2 = xs m6.toInt.toNat := by rw [ha2, em6, ← m_a2]
  rw [← ha2_6]
  refine pq_aload_n0 (pq_iload_n3 (pq_iconst (pq_iadd ?_)))
  intro m7 em7
  have e7 : m7.toInt = i.toInt + 3 := lx_ad3 hi hL em7
  refine pq_iaload ?_
  refine Exists.intro _ (Exists.intro _ (And.intro (Or.inr hro) (And.intro (lx_bn3 hi e7) ?_)))
  have ha3_7 : a3 = xs m7.toInt.toNat := by rw [ha3, em7, ← m_a3]
  rw [← ha3_7]
  refine pq_aload_n0 (pq_iload_n3 (pq_iconst (pq_iadd ?_)))
  intro m8 em8
  have e8 : m8.toInt = i.toInt + 4 := lx_ad4 hi hL em8
  refine pq_iaload ?_
  refine Exists.intro _ (Exists.intro _ (And.intro (Or.inr hro) (And.intro (lx_bn4 hi e8) ?_)))
  have ha4_8 : a4 = xs m8.toInt.toNat := by rw [ha4, em8, ← m_a4]
  rw [← ha4_8]
  refine pq_iv4_11 ?_
  rw [cw_md D dj580]
  refine And.intro (Exists.intro _ (md_o)) (Exists.intro _ (Exists.intro _ (Exists.intro _ (Exists.intro _ (And.intro (F_X11_swap D mv mf hv hf a1 a2 a3 a4 (by omega)) (And.intro (lw_bnd rfl (lx_c2 hc (by decide)) (lx_c2 hs0 (by decide)) rfl) (fun r9 A9 h9 => ?_)))))))
  obtain ⟨y605, mv605, mf605, rfl, rfl, hv605, hf605, hx605, by605⟩ := h9
  have fm9 := by605.2 M hR2
  refine pq_id1 (pq_pop (pq_goto ?_))
  exact cont _ _ _ ⟨A00, K580, nn580, dn580, q580, w580, e580, v580, f580, mq, mv605, mf605, _, (cw_md D dj580).symm, (hX580.2.1 0 (by omega)), hI580, hS580, D, hv605, hf605, dj580, fun j hj => by rw [hy580, hx605]; exact hw j hj, by omega, by omega, fc9.1, fm9.1, (pm_eqI (by rw [fc9.2.2.1, fm9.2.2, hg])), (by rw [fc9.2.1, fm9.2.1, he0]), fc9.2.2.2.1, (nm_swap hM), (fc9.2.2.2.2 hB)⟩ (by omega) (by omega)

set_option maxRecDepth 100000 in
set_option maxHeartbeats 2000000 in
theorem lx_b10 (hC : pm_Cl l g (lw_ro b L xs) 7 600000 7302250 lw_Rt bk_L_law J) {i : Int32} (hi : 0 ≤ i.toInt ∧ i.toInt + 6 ≤ L) (hL : L ≤ 3072) {E : Nat} (hE : E < 1000) {A : pm_H} {c s : Nat} (hA : LX g xo h E A) (hc : c + 4 ≤ 600000) (hs0 : s + 485 ≤ 7302250) (cont : ∀ (A' : pm_H) (c' s' : Nat), LX g xo h (E + 1) A' → c' ≤ c + 4 → s' ≤ s + 485 → J 2563 [some (.ref b), some (.ref xo), some (.ref h), some (.int i)] [] A' c' s') : J 612 [some (.ref b), some (.ref xo), some (.ref h), some (.int i)] [] A c s := by
  obtain ⟨A00, K, nn, dn, q, w, e, v, f, mq, mv, mf, M, rfl, rfl, hI, hS, D, hv, hf, dj, hw, hE1, hE2, hR1, hR2, hg, he0, hN, hM, hB⟩ := hA
  have hu9 := hI.2.1
  unfold cw_W at hu9
  have hro : lw_ro b L xs b = some (L, xs) := if_pos rfl
  refine hC.1 10 612 _ _ rfl _ _ _ _ _ ?_
  refine pq_aload_n1 (pq_aload_n0 (pq_iload_n3 (pq_iconst (pq_iadd ?_))))
  intro m1 em1
  have e1 : m1.toInt = i.toInt + 1 := lx_ad1 hi hL em1
  refine pq_iaload ?_
  refine Exists.intro _ (Exists.intro _ (And.intro (Or.inr hro) (And.intro (lx_bn1 hi e1) ?_)))
  obtain ⟨a1, ha1⟩ : ∃ z9, z9 = xs m1.toInt.toNat := ⟨_, rfl⟩
  have m_a1 := em1
  rw [← ha1]
  refine pq_aload_n0 (pq_iload_n3 (pq_iconst (pq_iadd ?_)))
  intro m2 em2
  have e2 : m2.toInt = i.toInt + 2 := lx_ad2 hi hL em2
  refine pq_iaload ?_
  refine Exists.intro _ (Exists.intro _ (And.intro (Or.inr hro) (And.intro (lx_bn2 hi e2) ?_)))
  obtain ⟨a2, ha2⟩ : ∃ z9, z9 = xs m2.toInt.toNat := ⟨_, rfl⟩
  have m_a2 := em2
  rw [← ha2]
  refine pq_aload_n0 (pq_iload_n3 (pq_iconst (pq_iadd ?_)))
  intro m3 em3
  have e3 : m3.toInt = i.toInt + 3 := lx_ad3 hi hL em3
  refine pq_iaload ?_
  refine Exists.intro _ (Exists.intro _ (And.intro (Or.inr hro) (And.intro (lx_bn3 hi e3) ?_)))
  obtain ⟨a3, ha3⟩ : ∃ z9, z9 = xs m3.toInt.toNat := ⟨_, rfl⟩
  have m_a3 := em3
  rw [← ha3]
  refine pq_iv3_10 ?_
  refine And.intro (Exists.intro _ (cw_o0 hI.1)) (Exists.intro _ (Exists.intro _ (Exists.intro _ (Exists.intro _ (And.intro (H_X10_copy hI hS a1 a2 a3 (by omega)) (And.intro (lw_bnd rfl (lx_c1 hc (by decide)) (lx_c1 hs0 (by decide)) rfl) (fun r9 A9 h9 => ?_)))))))
  obtain ⟨K628, nn628, dn628, q628, w628, e628, v628, f628, rfl, hI628, hS628, hX628, hy628, y628, rfl, by628⟩ := h9
  have dj628 := lw_dj D dj hX628
  have fc9 := by628.2 M hR1 hN
  refine pq_id1 (pq_pop (pq_aload_n2 (pq_aload_n0 (pq_iload_n3 (pq_iconst (pq_iadd ?_))))))
  intro m4 em4
  have e4 : m4.toInt = i.toInt + 1 := lx_ad1 hi hL em4
  refine pq_iaload ?_
  refine Exists.intro _ (Exists.intro _ (And.intro (Or.inr hro) (And.intro (lx_bn1 hi e4) ?_)))
  have ha1_4 : a1 = xs m4.toInt.toNat := by rw [ha1, em4, ← m_a1]
  rw [← ha1_4]
  refine pq_aload_n0 (pq_iload_n3 (pq_iconst (pq_iadd ?_)))
  intro m5 em5
  have e5 : m5.toInt = i.toInt + 2 := lx_ad2 hi hL em5
  refine pq_iaload ?_
  refine Exists.intro _ (Exists.intro _ (And.intro (Or.inr hro) (And.intro (lx_bn2 hi e5) ?_)))
  have ha2_5 : a2 = xs m5.toInt.toNat := by rw [ha2, em5, ← m_a2]
  rw [← ha2_5]
  refine pq_aload_n0 (pq_iload_n3 (pq_iconst (pq_iadd ?_)))
  intro m6 em6
  have e6 : m6.toInt = i.toInt + 3 := lx_ad3 hi hL em6
  refine pq_iaload ?_
  refine Exists.intro _ (Exists.intro _ (And.intro (Or.inr hro) (And.intro (lx_bn3 hi e6) ?_)))
  have ha3_6 : a3 = xs m6.toInt.toNat := by rw [ha3, em6, ← m_a3]
  rw [← ha3_6]
  refine pq_iv3_11 ?_
  rw [cw_md D dj628]
  refine And.intro (Exists.intro _ (md_o)) (Exists.intro _ (Exists.intro _ (Exists.intro _ (Exists.intro _ (And.intro (F_X11_copy D mv mf hv hf a1 a2 a3 (by omega)) (And.intro (lw_bnd rfl (lx_c2 hc (by decide)) (lx_c2 hs0 (by decide)) rfl) (fun r9 A9 h9 => ?_)))))))
  obtain ⟨y648, mv648, mf648, rfl, rfl, hv648, hf648, hx648, by648⟩ := h9
  have fm9 := by648.2 M hR2
  rw [← hg] at fm9
  refine pq_id1 (pq_pop (pq_goto ?_))
  exact cont _ _ _ ⟨A00, K628, nn628, dn628, q628, w628, e628, v628, f628, mq, mv648, mf648, _, (cw_md D dj628).symm, (hX628.2.1 0 (by omega)), hI628, hS628, D, hv648, hf648, dj628, fun j hj => by rw [hy628, hx648]; exact hw j hj, by omega, by omega, fc9.1, fm9.1, (pm_eqI (by rw [fc9.2.2.1, fm9.2.2, hg])), (by rw [fc9.2.1, fm9.2.1, he0]), fc9.2.2.2.1, (nm_copy hM (by omega)), (fc9.2.2.2.2 hB)⟩ (by omega) (by omega)

set_option maxRecDepth 100000 in
set_option maxHeartbeats 2000000 in
theorem lx_b11 (hC : pm_Cl l g (lw_ro b L xs) 7 600000 7302250 lw_Rt bk_L_law J) {i : Int32} (hi : 0 ≤ i.toInt ∧ i.toInt + 6 ≤ L) (hL : L ≤ 3072) {E : Nat} (hE : E < 1000) {A : pm_H} {c s : Nat} (hA : LX g xo h E A) (hc : c + 4 ≤ 600000) (hs0 : s + 485 ≤ 7302250) (cont : ∀ (A' : pm_H) (c' s' : Nat), LX g xo h (E + 1) A' → c' ≤ c + 4 → s' ≤ s + 485 → J 2563 [some (.ref b), some (.ref xo), some (.ref h), some (.int i)] [] A' c' s') : J 655 [some (.ref b), some (.ref xo), some (.ref h), some (.int i)] [] A c s := by
  obtain ⟨A00, K, nn, dn, q, w, e, v, f, mq, mv, mf, M, rfl, rfl, hI, hS, D, hv, hf, dj, hw, hE1, hE2, hR1, hR2, hg, he0, hN, hM, hB⟩ := hA
  have hu9 := hI.2.1
  unfold cw_W at hu9
  have hro : lw_ro b L xs b = some (L, xs) := if_pos rfl
  refine hC.1 11 655 _ _ rfl _ _ _ _ _ ?_
  refine pq_aload_n1 (pq_aload_n0 (pq_iload_n3 (pq_iconst (pq_iadd ?_))))
  intro m1 em1
  have e1 : m1.toInt = i.toInt + 1 := lx_ad1 hi hL em1
  refine pq_iaload ?_
  refine Exists.intro _ (Exists.intro _ (And.intro (Or.inr hro) (And.intro (lx_bn1 hi e1) ?_)))
  obtain ⟨a1, ha1⟩ : ∃ z9, z9 = xs m1.toInt.toNat := ⟨_, rfl⟩
  have m_a1 := em1
  rw [← ha1]
  refine pq_aload_n0 (pq_iload_n3 (pq_iconst (pq_iadd ?_)))
  intro m2 em2
  have e2 : m2.toInt = i.toInt + 2 := lx_ad2 hi hL em2
  refine pq_iaload ?_
  refine Exists.intro _ (Exists.intro _ (And.intro (Or.inr hro) (And.intro (lx_bn2 hi e2) ?_)))
  obtain ⟨a2, ha2⟩ : ∃ z9, z9 = xs m2.toInt.toNat := ⟨_, rfl⟩
  have m_a2 := em2
  rw [← ha2]
  refine pq_iv2_10 ?_
  refine And.intro (Exists.intro _ (cw_o0 hI.1)) (Exists.intro _ (Exists.intro _ (Exists.intro _ (Exists.intro _ (And.intro (H_X10_merge hI hS a1 a2 (by omega)) (And.intro (lw_bnd rfl (lx_c1 hc (by decide)) (lx_c1 hs0 (by decide)) rfl) (fun r9 A9 h9 => ?_)))))))
  obtain ⟨K666, nn666, dn666, q666, w666, e666, v666, f666, rfl, hI666, hS666, hX666, hy666, y666, rfl, by666⟩ := h9
  have dj666 := lw_dj D dj hX666
  have fc9 := by666.2 M hR1 hN
  refine pq_id1 (pq_pop (pq_aload_n2 (pq_aload_n0 (pq_iload_n3 (pq_iconst (pq_iadd ?_))))))
  intro m3 em3
  have e3 : m3.toInt = i.toInt + 1 := lx_ad1 hi hL em3
  refine pq_iaload ?_
  refine Exists.intro _ (Exists.intro _ (And.intro (Or.inr hro) (And.intro (lx_bn1 hi e3) ?_)))
  have ha1_3 : a1 = xs m3.toInt.toNat := by rw [ha1, em3, ← m_a1]
  rw [← ha1_3]
  refine pq_aload_n0 (pq_iload_n3 (pq_iconst (pq_iadd ?_)))
  intro m4 em4
  have e4 : m4.toInt = i.toInt + 2 := lx_ad2 hi hL em4
  refine pq_iaload ?_
  refine Exists.intro _ (Exists.intro _ (And.intro (Or.inr hro) (And.intro (lx_bn2 hi e4) ?_)))
  have ha2_4 : a2 = xs m4.toInt.toNat := by rw [ha2, em4, ← m_a2]
  rw [← ha2_4]
  refine pq_iv2_11 ?_
  rw [cw_md D dj666]
  refine And.intro (Exists.intro _ (md_o)) (Exists.intro _ (Exists.intro _ (Exists.intro _ (Exists.intro _ (And.intro (F_X11_merge D mv mf hv hf a1 a2 (by omega)) (And.intro (lw_bnd rfl (lx_c2 hc (by decide)) (lx_c2 hs0 (by decide)) rfl) (fun r9 A9 h9 => ?_)))))))
  obtain ⟨y681, mv681, mf681, rfl, rfl, hv681, hf681, hx681, by681⟩ := h9
  have fm9 := by681.2 M hR2
  refine pq_id1 (pq_pop (pq_goto ?_))
  exact cont _ _ _ ⟨A00, K666, nn666, dn666, q666, w666, e666, v666, f666, mq, mv681, mf681, _, (cw_md D dj666).symm, (hX666.2.1 0 (by omega)), hI666, hS666, D, hv681, hf681, dj666, fun j hj => by rw [hy666, hx681]; exact hw j hj, by omega, by omega, fc9.1, fm9.1, (pm_eqI (by rw [fc9.2.2.1, fm9.2.2, hg])), (by rw [fc9.2.1, fm9.2.1, he0]), fc9.2.2.2.1, (nm_merge hM), (fc9.2.2.2.2 hB)⟩ (by omega) (by omega)

set_option maxRecDepth 100000 in
set_option maxHeartbeats 2000000 in
theorem lx_b12 (hC : pm_Cl l g (lw_ro b L xs) 7 600000 7302250 lw_Rt bk_L_law J) {i : Int32} (hi : 0 ≤ i.toInt ∧ i.toInt + 6 ≤ L) (hL : L ≤ 3072) {E : Nat} (hE : E < 1000) {A : pm_H} {c s : Nat} (hA : LX g xo h E A) (hc : c + 4 ≤ 600000) (hs0 : s + 485 ≤ 7302250) (cont : ∀ (A' : pm_H) (c' s' : Nat), LX g xo h (E + 1) A' → c' ≤ c + 4 → s' ≤ s + 485 → J 2563 [some (.ref b), some (.ref xo), some (.ref h), some (.int i)] [] A' c' s') : J 688 [some (.ref b), some (.ref xo), some (.ref h), some (.int i)] [] A c s := by
  obtain ⟨A00, K, nn, dn, q, w, e, v, f, mq, mv, mf, M, rfl, rfl, hI, hS, D, hv, hf, dj, hw, hE1, hE2, hR1, hR2, hg, he0, hN, hM, hB⟩ := hA
  have hu9 := hI.2.1
  unfold cw_W at hu9
  have hro : lw_ro b L xs b = some (L, xs) := if_pos rfl
  refine hC.1 12 688 _ _ rfl _ _ _ _ _ ?_
  refine pq_aload_n1 (pq_aload_n0 (pq_iload_n3 (pq_iconst (pq_iadd ?_))))
  intro m1 em1
  have e1 : m1.toInt = i.toInt + 1 := lx_ad1 hi hL em1
  refine pq_iaload ?_
  refine Exists.intro _ (Exists.intro _ (And.intro (Or.inr hro) (And.intro (lx_bn1 hi e1) ?_)))
  obtain ⟨a1, ha1⟩ : ∃ z9, z9 = xs m1.toInt.toNat := ⟨_, rfl⟩
  have m_a1 := em1
  rw [← ha1]
  refine pq_aload_n0 (pq_iload_n3 (pq_iconst (pq_iadd ?_)))
  intro m2 em2
  have e2 : m2.toInt = i.toInt + 2 := lx_ad2 hi hL em2
  refine pq_iaload ?_
  refine Exists.intro _ (Exists.intro _ (And.intro (Or.inr hro) (And.intro (lx_bn2 hi e2) ?_)))
  obtain ⟨a2, ha2⟩ : ∃ z9, z9 = xs m2.toInt.toNat := ⟨_, rfl⟩
  have m_a2 := em2
  rw [← ha2]
  refine pq_iv2_10 ?_
  refine And.intro (Exists.intro _ (cw_o0 hI.1)) (Exists.intro _ (Exists.intro _ (Exists.intro _ (Exists.intro _ (And.intro (H_X10_exchange hI hS a1 a2 (by omega)) (And.intro (lw_bnd rfl (lx_c1 hc (by decide)) (lx_c1 hs0 (by decide)) rfl) (fun r9 A9 h9 => ?_)))))))
  obtain ⟨K699, nn699, dn699, q699, w699, e699, v699, f699, rfl, hI699, hS699, hX699, hy699, y699, rfl, by699⟩ := h9
  have dj699 := lw_dj D dj hX699
  have fc9 := by699.2 M hR1 hN
  refine pq_id1 (pq_pop (pq_aload_n2 (pq_aload_n0 (pq_iload_n3 (pq_iconst (pq_iadd ?_))))))
  intro m3 em3
  have e3 : m3.toInt = i.toInt + 1 := lx_ad1 hi hL em3
  refine pq_iaload ?_
  refine Exists.intro _ (Exists.intro _ (And.intro (Or.inr hro) (And.intro (lx_bn1 hi e3) ?_)))
  have ha1_3 : a1 = xs m3.toInt.toNat := by rw [ha1, em3, ← m_a1]
  rw [← ha1_3]
  refine pq_aload_n0 (pq_iload_n3 (pq_iconst (pq_iadd ?_)))
  intro m4 em4
  have e4 : m4.toInt = i.toInt + 2 := lx_ad2 hi hL em4
  refine pq_iaload ?_
  refine Exists.intro _ (Exists.intro _ (And.intro (Or.inr hro) (And.intro (lx_bn2 hi e4) ?_)))
  have ha2_4 : a2 = xs m4.toInt.toNat := by rw [ha2, em4, ← m_a2]
  rw [← ha2_4]
  refine pq_iv2_11 ?_
  rw [cw_md D dj699]
  refine And.intro (Exists.intro _ (md_o)) (Exists.intro _ (Exists.intro _ (Exists.intro _ (Exists.intro _ (And.intro (F_X11_exchange D mv mf hv hf a1 a2 (by omega)) (And.intro (lw_bnd rfl (lx_c2 hc (by decide)) (lx_c2 hs0 (by decide)) rfl) (fun r9 A9 h9 => ?_)))))))
  obtain ⟨y714, mv714, mf714, rfl, rfl, hv714, hf714, hx714, by714⟩ := h9
  have fm9 := by714.2 M hR2
  refine pq_id1 (pq_pop (pq_goto ?_))
  exact cont _ _ _ ⟨A00, K699, nn699, dn699, q699, w699, e699, v699, f699, mq, mv714, mf714, _, (cw_md D dj699).symm, (hX699.2.1 0 (by omega)), hI699, hS699, D, hv714, hf714, dj699, fun j hj => by rw [hy699, hx714]; exact hw j hj, by omega, by omega, fc9.1, fm9.1, (pm_eqI (by rw [fc9.2.2.1, fm9.2.2, hg])), (by rw [fc9.2.1, fm9.2.1, he0]), fc9.2.2.2.1, (nm_exch hM), (fc9.2.2.2.2 hB)⟩ (by omega) (by omega)

set_option maxRecDepth 100000 in
set_option maxHeartbeats 2000000 in
theorem lx_b13 (hC : pm_Cl l g (lw_ro b L xs) 7 600000 7302250 lw_Rt bk_L_law J) {i : Int32} (hi : 0 ≤ i.toInt ∧ i.toInt + 6 ≤ L) (hL : L ≤ 3072) {E : Nat} (hE : E < 1000) {A : pm_H} {c s : Nat} (hA : LX g xo h E A) (hc : c + 4 ≤ 600000) (hs0 : s + 485 ≤ 7302250) (cont : ∀ (A' : pm_H) (c' s' : Nat), LX g xo h (E + 1) A' → c' ≤ c + 4 → s' ≤ s + 485 → J 2563 [some (.ref b), some (.ref xo), some (.ref h), some (.int i)] [] A' c' s') : J 721 [some (.ref b), some (.ref xo), some (.ref h), some (.int i)] [] A c s := by
  obtain ⟨A00, K, nn, dn, q, w, e, v, f, mq, mv, mf, M, rfl, rfl, hI, hS, D, hv, hf, dj, hw, hE1, hE2, hR1, hR2, hg, he0, hN, hM, hB⟩ := hA
  have hu9 := hI.2.1
  unfold cw_W at hu9
  have hro : lw_ro b L xs b = some (L, xs) := if_pos rfl
  refine hC.1 13 721 _ _ rfl _ _ _ _ _ ?_
  refine pq_aload_n1 (pq_aload_n0 (pq_iload_n3 (pq_iconst (pq_iadd ?_))))
  intro m1 em1
  have e1 : m1.toInt = i.toInt + 1 := lx_ad1 hi hL em1
  refine pq_iaload ?_
  refine Exists.intro _ (Exists.intro _ (And.intro (Or.inr hro) (And.intro (lx_bn1 hi e1) ?_)))
  obtain ⟨a1, ha1⟩ : ∃ z9, z9 = xs m1.toInt.toNat := ⟨_, rfl⟩
  have m_a1 := em1
  rw [← ha1]
  refine pq_aload_n0 (pq_iload_n3 (pq_iconst (pq_iadd ?_)))
  intro m2 em2
  have e2 : m2.toInt = i.toInt + 2 := lx_ad2 hi hL em2
  refine pq_iaload ?_
  refine Exists.intro _ (Exists.intro _ (And.intro (Or.inr hro) (And.intro (lx_bn2 hi e2) ?_)))
  obtain ⟨a2, ha2⟩ : ∃ z9, z9 = xs m2.toInt.toNat := ⟨_, rfl⟩
  have m_a2 := em2
  rw [← ha2]
  refine pq_aload_n0 (pq_iload_n3 (pq_iconst (pq_iadd ?_)))
  intro m3 em3
  have e3 : m3.toInt = i.toInt + 3 := lx_ad3 hi hL em3
  refine pq_iaload ?_
  refine Exists.intro _ (Exists.intro _ (And.intro (Or.inr hro) (And.intro (lx_bn3 hi e3) ?_)))
  obtain ⟨a3, ha3⟩ : ∃ z9, z9 = xs m3.toInt.toNat := ⟨_, rfl⟩
  have m_a3 := em3
  rw [← ha3]
  refine pq_iv3_10 ?_
  refine And.intro (Exists.intro _ (cw_o0 hI.1)) (Exists.intro _ (Exists.intro _ (Exists.intro _ (Exists.intro _ (And.intro (H_X10_draw hI hS a1 a2 a3 (by omega)) (And.intro (lw_bnd rfl (lx_c1 hc (by decide)) (lx_c1 hs0 (by decide)) rfl) (fun r9 A9 h9 => ?_)))))))
  obtain ⟨K737, nn737, dn737, q737, w737, e737, v737, f737, rfl, hI737, hS737, hX737, hy737, y737, rfl, by737⟩ := h9
  have dj737 := lw_dj D dj hX737
  have fc9 := by737.2 M hR1 hN
  refine pq_id1 (pq_pop (pq_aload_n2 (pq_aload_n0 (pq_iload_n3 (pq_iconst (pq_iadd ?_))))))
  intro m4 em4
  have e4 : m4.toInt = i.toInt + 1 := lx_ad1 hi hL em4
  refine pq_iaload ?_
  refine Exists.intro _ (Exists.intro _ (And.intro (Or.inr hro) (And.intro (lx_bn1 hi e4) ?_)))
  have ha1_4 : a1 = xs m4.toInt.toNat := by rw [ha1, em4, ← m_a1]
  rw [← ha1_4]
  refine pq_aload_n0 (pq_iload_n3 (pq_iconst (pq_iadd ?_)))
  intro m5 em5
  have e5 : m5.toInt = i.toInt + 2 := lx_ad2 hi hL em5
  refine pq_iaload ?_
  refine Exists.intro _ (Exists.intro _ (And.intro (Or.inr hro) (And.intro (lx_bn2 hi e5) ?_)))
  have ha2_5 : a2 = xs m5.toInt.toNat := by rw [ha2, em5, ← m_a2]
  rw [← ha2_5]
  refine pq_aload_n0 (pq_iload_n3 (pq_iconst (pq_iadd ?_)))
  intro m6 em6
  have e6 : m6.toInt = i.toInt + 3 := lx_ad3 hi hL em6
  refine pq_iaload ?_
  refine Exists.intro _ (Exists.intro _ (And.intro (Or.inr hro) (And.intro (lx_bn3 hi e6) ?_)))
  have ha3_6 : a3 = xs m6.toInt.toNat := by rw [ha3, em6, ← m_a3]
  rw [← ha3_6]
  refine pq_iv3_11 ?_
  rw [cw_md D dj737]
  refine And.intro (Exists.intro _ (md_o)) (Exists.intro _ (Exists.intro _ (Exists.intro _ (Exists.intro _ (And.intro (F_X11_draw D mv mf hv hf a1 a2 a3 (by omega)) (And.intro (lw_bnd rfl (lx_c2 hc (by decide)) (lx_c2 hs0 (by decide)) rfl) (fun r9 A9 h9 => ?_)))))))
  obtain ⟨y757, mv757, mf757, rfl, rfl, hv757, hf757, hx757, by757⟩ := h9
  have fm9 := by757.2 M hR2
  rw [← hg] at fm9
  refine pq_id1 (pq_pop (pq_goto ?_))
  exact cont _ _ _ ⟨A00, K737, nn737, dn737, q737, w737, e737, v737, f737, mq, mv757, mf757, _, (cw_md D dj737).symm, (hX737.2.1 0 (by omega)), hI737, hS737, D, hv757, hf757, dj737, fun j hj => by rw [hy737, hx757]; exact hw j hj, by omega, by omega, fc9.1, fm9.1, (pm_eqI (by rw [fc9.2.2.1, fm9.2.2, hg])), (by rw [fc9.2.1, fm9.2.1, he0]), fc9.2.2.2.1, (nm_draw hM (by omega)), (fc9.2.2.2.2 hB)⟩ (by omega) (by omega)

set_option maxRecDepth 100000 in
set_option maxHeartbeats 2000000 in
theorem lx_b14 (hC : pm_Cl l g (lw_ro b L xs) 7 600000 7302250 lw_Rt bk_L_law J) {i : Int32} (hi : 0 ≤ i.toInt ∧ i.toInt + 6 ≤ L) (hL : L ≤ 3072) {E : Nat} (hE : E < 1000) {A : pm_H} {c s : Nat} (hA : LX g xo h E A) (hc : c + 4 ≤ 600000) (hs0 : s + 485 ≤ 7302250) (cont : ∀ (A' : pm_H) (c' s' : Nat), LX g xo h (E + 1) A' → c' ≤ c + 4 → s' ≤ s + 485 → J 2563 [some (.ref b), some (.ref xo), some (.ref h), some (.int i)] [] A' c' s') : J 764 [some (.ref b), some (.ref xo), some (.ref h), some (.int i)] [] A c s := by
  obtain ⟨A00, K, nn, dn, q, w, e, v, f, mq, mv, mf, M, rfl, rfl, hI, hS, D, hv, hf, dj, hw, hE1, hE2, hR1, hR2, hg, he0, hN, hM, hB⟩ := hA
  have hu9 := hI.2.1
  unfold cw_W at hu9
  have hro : lw_ro b L xs b = some (L, xs) := if_pos rfl
  refine hC.1 14 764 _ _ rfl _ _ _ _ _ ?_
  refine pq_aload_n1 (pq_aload_n0 (pq_iload_n3 (pq_iconst (pq_iadd ?_))))
  intro m1 em1
  have e1 : m1.toInt = i.toInt + 1 := lx_ad1 hi hL em1
  refine pq_iaload ?_
  refine Exists.intro _ (Exists.intro _ (And.intro (Or.inr hro) (And.intro (lx_bn1 hi e1) ?_)))
  obtain ⟨a1, ha1⟩ : ∃ z9, z9 = xs m1.toInt.toNat := ⟨_, rfl⟩
  have m_a1 := em1
  rw [← ha1]
  refine pq_aload_n0 (pq_iload_n3 (pq_iconst (pq_iadd ?_)))
  intro m2 em2
  have e2 : m2.toInt = i.toInt + 2 := lx_ad2 hi hL em2
  refine pq_iaload ?_
  refine Exists.intro _ (Exists.intro _ (And.intro (Or.inr hro) (And.intro (lx_bn2 hi e2) ?_)))
  obtain ⟨a2, ha2⟩ : ∃ z9, z9 = xs m2.toInt.toNat := ⟨_, rfl⟩
  have m_a2 := em2
  rw [← ha2]
  refine pq_iv2_10 ?_
  refine And.intro (Exists.intro _ (cw_o0 hI.1)) (Exists.intro _ (Exists.intro _ (Exists.intro _ (Exists.intro _ (And.intro (c_X10_weigh hI hS a1 a2 ) (And.intro (lw_bnd rfl (lx_c1 hc (by decide)) (lx_c1 hs0 (by decide)) rfl) (fun r9 A9 h9 => ?_)))))))
  obtain ⟨e775, y775, rfl, rfl, hI775, h40_775, hc775⟩ := lx_wc hI h9
  refine pq_id1 (pq_pop (pq_aload_n2 (pq_aload_n0 (pq_iload_n3 (pq_iconst (pq_iadd ?_))))))
  intro m3 em3
  have e3 : m3.toInt = i.toInt + 1 := lx_ad1 hi hL em3
  refine pq_iaload ?_
  refine Exists.intro _ (Exists.intro _ (And.intro (Or.inr hro) (And.intro (lx_bn1 hi e3) ?_)))
  have ha1_3 : a1 = xs m3.toInt.toNat := by rw [ha1, em3, ← m_a1]
  rw [← ha1_3]
  refine pq_aload_n0 (pq_iload_n3 (pq_iconst (pq_iadd ?_)))
  intro m4 em4
  have e4 : m4.toInt = i.toInt + 2 := lx_ad2 hi hL em4
  refine pq_iaload ?_
  refine Exists.intro _ (Exists.intro _ (And.intro (Or.inr hro) (And.intro (lx_bn2 hi e4) ?_)))
  have ha2_4 : a2 = xs m4.toInt.toNat := by rw [ha2, em4, ← m_a2]
  rw [← ha2_4]
  refine pq_iv2_11 ?_
  rw [cw_md D dj]
  refine And.intro (Exists.intro _ (md_o)) (Exists.intro _ (Exists.intro _ (Exists.intro _ (Exists.intro _ (And.intro (c_X11_weigh D mv mf hv hf a1 a2 ) (And.intro (lw_bnd rfl (lx_c2 hc (by decide)) (lx_c2 hs0 (by decide)) rfl) (fun r9 A9 h9 => ?_)))))))
  obtain ⟨mf790, y790, rfl, rfl, hf790, h01_790, hm790⟩ := lx_wm D hf h9
  refine pq_id1 (pq_pop (pq_goto ?_))
  clear hu9
  exact cont _ _ _ ⟨A00, K, nn, dn, q, w, e775, v, f, mq, mv, mf790, M, (cw_md D dj).symm, rfl, hI775, hS, D, hv, hf790, dj, lx_ww hw hc775 hm790, by omega, by omega, (rp_fr hR1 rfl (h40_775 (nn + 1) (by omega)) (h40_775 (nn + 2) (by omega))), (rp_fr hR2 rfl h01_790.1 h01_790.2), hg, (by omega), hN, hM, (bd_fr hB rfl (h40_775 (nn + 1) (by omega)) (h40_775 (nn + 3) (by omega)))⟩ (by omega) (by omega)
end
end
section
section
variable {l : Launch} {g : pm_G} {b L : Nat} {xs : Nat → Int32} {J : pm_J} {xo h : Nat}
set_option maxRecDepth 100000 in
set_option maxHeartbeats 2000000 in
theorem lx_b15 (hC : pm_Cl l g (lw_ro b L xs) 7 600000 7302250 lw_Rt bk_L_law J) {i : Int32} (hi : 0 ≤ i.toInt ∧ i.toInt + 6 ≤ L) (hL : L ≤ 3072) {E : Nat} (hE : E < 1000) {A : pm_H} {c s : Nat} (hA : LX g xo h E A) (hc : c + 4 ≤ 600000) (hs0 : s + 485 ≤ 7302250) (cont : ∀ (A' : pm_H) (c' s' : Nat), LX g xo h (E + 1) A' → c' ≤ c + 4 → s' ≤ s + 485 → J 2563 [some (.ref b), some (.ref xo), some (.ref h), some (.int i)] [] A' c' s') : J 797 [some (.ref b), some (.ref xo), some (.ref h), some (.int i)] [] A c s := by
  obtain ⟨A00, K, nn, dn, q, w, e, v, f, mq, mv, mf, M, rfl, rfl, hI, hS, D, hv, hf, dj, hw, hE1, hE2, hR1, hR2, hg, he0, hN, hM, hB⟩ := hA
  have hu9 := hI.2.1
  unfold cw_W at hu9
  have hro : lw_ro b L xs b = some (L, xs) := if_pos rfl
  refine hC.1 15 797 _ _ rfl _ _ _ _ _ ?_
  refine pq_aload_n1 (pq_aload_n0 (pq_iload_n3 (pq_iconst (pq_iadd ?_))))
  intro m1 em1
  have e1 : m1.toInt = i.toInt + 1 := lx_ad1 hi hL em1
  refine pq_iaload ?_
  refine Exists.intro _ (Exists.intro _ (And.intro (Or.inr hro) (And.intro (lx_bn1 hi e1) ?_)))
  obtain ⟨a1, ha1⟩ : ∃ z9, z9 = xs m1.toInt.toNat := ⟨_, rfl⟩
  have m_a1 := em1
  rw [← ha1]
  refine pq_aload_n0 (pq_iload_n3 (pq_iconst (pq_iadd ?_)))
  intro m2 em2
  have e2 : m2.toInt = i.toInt + 2 := lx_ad2 hi hL em2
  refine pq_iaload ?_
  refine Exists.intro _ (Exists.intro _ (And.intro (Or.inr hro) (And.intro (lx_bn2 hi e2) ?_)))
  obtain ⟨a2, ha2⟩ : ∃ z9, z9 = xs m2.toInt.toNat := ⟨_, rfl⟩
  have m_a2 := em2
  rw [← ha2]
  refine pq_iv2_10 ?_
  refine And.intro (Exists.intro _ (cw_o0 hI.1)) (Exists.intro _ (Exists.intro _ (Exists.intro _ (Exists.intro _ (And.intro (c_X10_at hI hS a1 a2 ) (And.intro (lw_bnd rfl (lx_c1 hc (by decide)) (lx_c1 hs0 (by decide)) rfl) (fun r9 A9 h9 => ?_)))))))
  obtain ⟨y808, rfl, rfl, by808⟩ := h9
  refine pq_id1 (pq_pop (pq_aload_n2 (pq_aload_n0 (pq_iload_n3 (pq_iconst (pq_iadd ?_))))))
  intro m3 em3
  have e3 : m3.toInt = i.toInt + 1 := lx_ad1 hi hL em3
  refine pq_iaload ?_
  refine Exists.intro _ (Exists.intro _ (And.intro (Or.inr hro) (And.intro (lx_bn1 hi e3) ?_)))
  have ha1_3 : a1 = xs m3.toInt.toNat := by rw [ha1, em3, ← m_a1]
  rw [← ha1_3]
  refine pq_aload_n0 (pq_iload_n3 (pq_iconst (pq_iadd ?_)))
  intro m4 em4
  have e4 : m4.toInt = i.toInt + 2 := lx_ad2 hi hL em4
  refine pq_iaload ?_
  refine Exists.intro _ (Exists.intro _ (And.intro (Or.inr hro) (And.intro (lx_bn2 hi e4) ?_)))
  have ha2_4 : a2 = xs m4.toInt.toNat := by rw [ha2, em4, ← m_a2]
  rw [← ha2_4]
  refine pq_iv2_11 ?_
  rw [cw_md D dj]
  refine And.intro (Exists.intro _ (md_o)) (Exists.intro _ (Exists.intro _ (Exists.intro _ (Exists.intro _ (And.intro (c_X11_at D mv mf hv hf a1 a2 ) (And.intro (lw_bnd rfl (lx_c2 hc (by decide)) (lx_c2 hs0 (by decide)) rfl) (fun r9 A9 h9 => ?_)))))))
  obtain ⟨y823, rfl, rfl, by823⟩ := h9
  refine pq_id1 (pq_pop (pq_goto ?_))
  clear hu9
  exact cont _ _ _ ⟨A00, K, nn, dn, q, w, e, v, f, mq, mv, mf, M, (cw_md D dj).symm, rfl, hI, hS, D, hv, hf, dj, fun j hj => by exact hw j hj, by omega, by omega, hR1, hR2, hg, (by omega), hN, hM, hB⟩ (by omega) (by omega)

set_option maxRecDepth 100000 in
set_option maxHeartbeats 2000000 in
theorem lx_b16 (hC : pm_Cl l g (lw_ro b L xs) 7 600000 7302250 lw_Rt bk_L_law J) {i : Int32} (hi : 0 ≤ i.toInt ∧ i.toInt + 6 ≤ L) (hL : L ≤ 3072) {E : Nat} (hE : E < 1000) {A : pm_H} {c s : Nat} (hA : LX g xo h E A) (hc : c + 4 ≤ 600000) (hs0 : s + 485 ≤ 7302250) (cont : ∀ (A' : pm_H) (c' s' : Nat), LX g xo h (E + 1) A' → c' ≤ c + 4 → s' ≤ s + 485 → J 2563 [some (.ref b), some (.ref xo), some (.ref h), some (.int i)] [] A' c' s') : J 830 [some (.ref b), some (.ref xo), some (.ref h), some (.int i)] [] A c s := by
  obtain ⟨A00, K, nn, dn, q, w, e, v, f, mq, mv, mf, M, rfl, rfl, hI, hS, D, hv, hf, dj, hw, hE1, hE2, hR1, hR2, hg, he0, hN, hM, hB⟩ := hA
  have hu9 := hI.2.1
  unfold cw_W at hu9
  have hro : lw_ro b L xs b = some (L, xs) := if_pos rfl
  refine hC.1 16 830 _ _ rfl _ _ _ _ _ ?_
  refine pq_aload_n1 (pq_aload_n0 (pq_iload_n3 (pq_iconst (pq_iadd ?_))))
  intro m1 em1
  have e1 : m1.toInt = i.toInt + 1 := lx_ad1 hi hL em1
  refine pq_iaload ?_
  refine Exists.intro _ (Exists.intro _ (And.intro (Or.inr hro) (And.intro (lx_bn1 hi e1) ?_)))
  obtain ⟨a1, ha1⟩ : ∃ z9, z9 = xs m1.toInt.toNat := ⟨_, rfl⟩
  have m_a1 := em1
  rw [← ha1]
  refine pq_iv1_10 ?_
  refine And.intro (Exists.intro _ (cw_o0 hI.1)) (Exists.intro _ (Exists.intro _ (Exists.intro _ (Exists.intro _ (And.intro (F_X10_place hI hS a1 ) (And.intro (lw_bnd rfl (lx_c1 hc (by decide)) (lx_c1 hs0 (by decide)) rfl) (fun r9 A9 h9 => ?_)))))))
  obtain ⟨y836, rfl, rfl, by836⟩ := h9
  refine pq_id1 (pq_pop (pq_aload_n2 (pq_aload_n0 (pq_iload_n3 (pq_iconst (pq_iadd ?_))))))
  intro m2 em2
  have e2 : m2.toInt = i.toInt + 1 := lx_ad1 hi hL em2
  refine pq_iaload ?_
  refine Exists.intro _ (Exists.intro _ (And.intro (Or.inr hro) (And.intro (lx_bn1 hi e2) ?_)))
  have ha1_2 : a1 = xs m2.toInt.toNat := by rw [ha1, em2, ← m_a1]
  rw [← ha1_2]
  refine pq_iv1_11 ?_
  rw [cw_md D dj]
  refine And.intro (Exists.intro _ (md_o)) (Exists.intro _ (Exists.intro _ (Exists.intro _ (Exists.intro _ (And.intro (F_X11_place D mv mf hv hf a1 ) (And.intro (lw_bnd rfl (lx_c2 hc (by decide)) (lx_c2 hs0 (by decide)) rfl) (fun r9 A9 h9 => ?_)))))))
  obtain ⟨y846, rfl, rfl, by846⟩ := h9
  refine pq_id1 (pq_pop (pq_goto ?_))
  clear hu9
  exact cont _ _ _ ⟨A00, K, nn, dn, q, w, e, v, f, mq, mv, mf, M, (cw_md D dj).symm, rfl, hI, hS, D, hv, hf, dj, fun j hj => by exact hw j hj, by omega, by omega, hR1, hR2, hg, (by omega), hN, hM, hB⟩ (by omega) (by omega)

set_option maxRecDepth 100000 in
set_option maxHeartbeats 2000000 in
theorem lx_b17 (hC : pm_Cl l g (lw_ro b L xs) 7 600000 7302250 lw_Rt bk_L_law J) {i : Int32} (hi : 0 ≤ i.toInt ∧ i.toInt + 6 ≤ L) (hL : L ≤ 3072) {E : Nat} (hE : E < 1000) {A : pm_H} {c s : Nat} (hA : LX g xo h E A) (hc : c + 4 ≤ 600000) (hs0 : s + 485 ≤ 7302250) (cont : ∀ (A' : pm_H) (c' s' : Nat), LX g xo h (E + 1) A' → c' ≤ c + 4 → s' ≤ s + 485 → J 2563 [some (.ref b), some (.ref xo), some (.ref h), some (.int i)] [] A' c' s') : J 853 [some (.ref b), some (.ref xo), some (.ref h), some (.int i)] [] A c s := by
  obtain ⟨A00, K, nn, dn, q, w, e, v, f, mq, mv, mf, M, rfl, rfl, hI, hS, D, hv, hf, dj, hw, hE1, hE2, hR1, hR2, hg, he0, hN, hM, hB⟩ := hA
  have hu9 := hI.2.1
  unfold cw_W at hu9
  have hro : lw_ro b L xs b = some (L, xs) := if_pos rfl
  refine hC.1 17 853 _ _ rfl _ _ _ _ _ ?_
  refine pq_aload_n1 (pq_aload_n0 (pq_iload_n3 (pq_iconst (pq_iadd ?_))))
  intro m1 em1
  have e1 : m1.toInt = i.toInt + 1 := lx_ad1 hi hL em1
  refine pq_iaload ?_
  refine Exists.intro _ (Exists.intro _ (And.intro (Or.inr hro) (And.intro (lx_bn1 hi e1) ?_)))
  obtain ⟨a1, ha1⟩ : ∃ z9, z9 = xs m1.toInt.toNat := ⟨_, rfl⟩
  have m_a1 := em1
  rw [← ha1]
  refine pq_aload_n0 (pq_iload_n3 (pq_iconst (pq_iadd ?_)))
  intro m2 em2
  have e2 : m2.toInt = i.toInt + 2 := lx_ad2 hi hL em2
  refine pq_iaload ?_
  refine Exists.intro _ (Exists.intro _ (And.intro (Or.inr hro) (And.intro (lx_bn2 hi e2) ?_)))
  obtain ⟨a2, ha2⟩ : ∃ z9, z9 = xs m2.toInt.toNat := ⟨_, rfl⟩
  have m_a2 := em2
  rw [← ha2]
  refine pq_iv2_10 ?_
  refine And.intro (Exists.intro _ (cw_o0 hI.1)) (Exists.intro _ (Exists.intro _ (Exists.intro _ (Exists.intro _ (And.intro (c_X10_colour hI hS a1 a2 ) (And.intro (lw_bnd rfl (lx_c1 hc (by decide)) (lx_c1 hs0 (by decide)) rfl) (fun r9 A9 h9 => ?_)))))))
  obtain ⟨y864, rfl, rfl, by864⟩ := h9
  refine pq_id1 (pq_pop (pq_aload_n2 (pq_aload_n0 (pq_iload_n3 (pq_iconst (pq_iadd ?_))))))
  intro m3 em3
  have e3 : m3.toInt = i.toInt + 1 := lx_ad1 hi hL em3
  refine pq_iaload ?_
  refine Exists.intro _ (Exists.intro _ (And.intro (Or.inr hro) (And.intro (lx_bn1 hi e3) ?_)))
  have ha1_3 : a1 = xs m3.toInt.toNat := by rw [ha1, em3, ← m_a1]
  rw [← ha1_3]
  refine pq_aload_n0 (pq_iload_n3 (pq_iconst (pq_iadd ?_)))
  intro m4 em4
  have e4 : m4.toInt = i.toInt + 2 := lx_ad2 hi hL em4
  refine pq_iaload ?_
  refine Exists.intro _ (Exists.intro _ (And.intro (Or.inr hro) (And.intro (lx_bn2 hi e4) ?_)))
  have ha2_4 : a2 = xs m4.toInt.toNat := by rw [ha2, em4, ← m_a2]
  rw [← ha2_4]
  refine pq_iv2_11 ?_
  rw [cw_md D dj]
  refine And.intro (Exists.intro _ (md_o)) (Exists.intro _ (Exists.intro _ (Exists.intro _ (Exists.intro _ (And.intro (c_X11_colour D mv mf hv hf a1 a2 ) (And.intro (lw_bnd rfl (lx_c2 hc (by decide)) (lx_c2 hs0 (by decide)) rfl) (fun r9 A9 h9 => ?_)))))))
  obtain ⟨y879, rfl, rfl, by879⟩ := h9
  refine pq_id1 (pq_pop (pq_goto ?_))
  clear hu9
  exact cont _ _ _ ⟨A00, K, nn, dn, q, w, e, v, f, mq, mv, mf, M, (cw_md D dj).symm, rfl, hI, hS, D, hv, hf, dj, fun j hj => by exact hw j hj, by omega, by omega, hR1, hR2, hg, (by omega), hN, hM, hB⟩ (by omega) (by omega)

set_option maxRecDepth 100000 in
set_option maxHeartbeats 2000000 in
theorem lx_b18 (hC : pm_Cl l g (lw_ro b L xs) 7 600000 7302250 lw_Rt bk_L_law J) {i : Int32} (hi : 0 ≤ i.toInt ∧ i.toInt + 6 ≤ L) (hL : L ≤ 3072) {E : Nat} (hE : E < 1000) {A : pm_H} {c s : Nat} (hA : LX g xo h E A) (hc : c + 4 ≤ 600000) (hs0 : s + 485 ≤ 7302250) (cont : ∀ (A' : pm_H) (c' s' : Nat), LX g xo h (E + 1) A' → c' ≤ c + 4 → s' ≤ s + 485 → J 2563 [some (.ref b), some (.ref xo), some (.ref h), some (.int i)] [] A' c' s') : J 886 [some (.ref b), some (.ref xo), some (.ref h), some (.int i)] [] A c s := by
  obtain ⟨A00, K, nn, dn, q, w, e, v, f, mq, mv, mf, M, rfl, rfl, hI, hS, D, hv, hf, dj, hw, hE1, hE2, hR1, hR2, hg, he0, hN, hM, hB⟩ := hA
  have hu9 := hI.2.1
  unfold cw_W at hu9
  have hro : lw_ro b L xs b = some (L, xs) := if_pos rfl
  refine hC.1 18 886 _ _ rfl _ _ _ _ _ ?_
  refine pq_aload_n1 (pq_aload_n0 (pq_iload_n3 (pq_iconst (pq_iadd ?_))))
  intro m1 em1
  have e1 : m1.toInt = i.toInt + 1 := lx_ad1 hi hL em1
  refine pq_iaload ?_
  refine Exists.intro _ (Exists.intro _ (And.intro (Or.inr hro) (And.intro (lx_bn1 hi e1) ?_)))
  obtain ⟨a1, ha1⟩ : ∃ z9, z9 = xs m1.toInt.toNat := ⟨_, rfl⟩
  have m_a1 := em1
  rw [← ha1]
  refine pq_aload_n0 (pq_iload_n3 (pq_iconst (pq_iadd ?_)))
  intro m2 em2
  have e2 : m2.toInt = i.toInt + 2 := lx_ad2 hi hL em2
  refine pq_iaload ?_
  refine Exists.intro _ (Exists.intro _ (And.intro (Or.inr hro) (And.intro (lx_bn2 hi e2) ?_)))
  obtain ⟨a2, ha2⟩ : ∃ z9, z9 = xs m2.toInt.toNat := ⟨_, rfl⟩
  have m_a2 := em2
  rw [← ha2]
  refine pq_iv2_10 ?_
  refine And.intro (Exists.intro _ (cw_o0 hI.1)) (Exists.intro _ (Exists.intro _ (Exists.intro _ (Exists.intro _ (And.intro (F_X10_nth hI hS a1 a2 ) (And.intro (lw_bnd rfl (lx_c1 hc (by decide)) (lx_c1 hs0 (by decide)) rfl) (fun r9 A9 h9 => ?_)))))))
  obtain ⟨y897, rfl, rfl, by897⟩ := h9
  refine pq_id1 (pq_pop (pq_aload_n2 (pq_aload_n0 (pq_iload_n3 (pq_iconst (pq_iadd ?_))))))
  intro m3 em3
  have e3 : m3.toInt = i.toInt + 1 := lx_ad1 hi hL em3
  refine pq_iaload ?_
  refine Exists.intro _ (Exists.intro _ (And.intro (Or.inr hro) (And.intro (lx_bn1 hi e3) ?_)))
  have ha1_3 : a1 = xs m3.toInt.toNat := by rw [ha1, em3, ← m_a1]
  rw [← ha1_3]
  refine pq_aload_n0 (pq_iload_n3 (pq_iconst (pq_iadd ?_)))
  intro m4 em4
  have e4 : m4.toInt = i.toInt + 2 := lx_ad2 hi hL em4
  refine pq_iaload ?_
  refine Exists.intro _ (Exists.intro _ (And.intro (Or.inr hro) (And.intro (lx_bn2 hi e4) ?_)))
  have ha2_4 : a2 = xs m4.toInt.toNat := by rw [ha2, em4, ← m_a2]
  rw [← ha2_4]
  refine pq_iv2_11 ?_
  rw [cw_md D dj]
  refine And.intro (Exists.intro _ (md_o)) (Exists.intro _ (Exists.intro _ (Exists.intro _ (Exists.intro _ (And.intro (F_X11_nth D mv mf hv hf a1 a2 ) (And.intro (lw_bnd rfl (lx_c2 hc (by decide)) (lx_c2 hs0 (by decide)) rfl) (fun r9 A9 h9 => ?_)))))))
  obtain ⟨y912, rfl, rfl, by912⟩ := h9
  refine pq_id1 (pq_pop (pq_goto ?_))
  clear hu9
  exact cont _ _ _ ⟨A00, K, nn, dn, q, w, e, v, f, mq, mv, mf, M, (cw_md D dj).symm, rfl, hI, hS, D, hv, hf, dj, fun j hj => by exact hw j hj, by omega, by omega, hR1, hR2, hg, (by omega), hN, hM, hB⟩ (by omega) (by omega)

set_option maxRecDepth 100000 in
set_option maxHeartbeats 2000000 in
theorem lx_b19 (hC : pm_Cl l g (lw_ro b L xs) 7 600000 7302250 lw_Rt bk_L_law J) {i : Int32} (hi : 0 ≤ i.toInt ∧ i.toInt + 6 ≤ L) (hL : L ≤ 3072) {E : Nat} (hE : E < 1000) {A : pm_H} {c s : Nat} (hA : LX g xo h E A) (hc : c + 4 ≤ 600000) (hs0 : s + 485 ≤ 7302250) (cont : ∀ (A' : pm_H) (c' s' : Nat), LX g xo h (E + 1) A' → c' ≤ c + 4 → s' ≤ s + 485 → J 2563 [some (.ref b), some (.ref xo), some (.ref h), some (.int i)] [] A' c' s') : J 919 [some (.ref b), some (.ref xo), some (.ref h), some (.int i)] [] A c s := by
  obtain ⟨A00, K, nn, dn, q, w, e, v, f, mq, mv, mf, M, rfl, rfl, hI, hS, D, hv, hf, dj, hw, hE1, hE2, hR1, hR2, hg, he0, hN, hM, hB⟩ := hA
  have hu9 := hI.2.1
  unfold cw_W at hu9
  have hro : lw_ro b L xs b = some (L, xs) := if_pos rfl
  refine hC.1 19 919 _ _ rfl _ _ _ _ _ ?_
  refine pq_aload_n1 (pq_aload_n0 (pq_iload_n3 (pq_iconst (pq_iadd ?_))))
  intro m1 em1
  have e1 : m1.toInt = i.toInt + 1 := lx_ad1 hi hL em1
  refine pq_iaload ?_
  refine Exists.intro _ (Exists.intro _ (And.intro (Or.inr hro) (And.intro (lx_bn1 hi e1) ?_)))
  obtain ⟨a1, ha1⟩ : ∃ z9, z9 = xs m1.toInt.toNat := ⟨_, rfl⟩
  have m_a1 := em1
  rw [← ha1]
  refine pq_iv1_10 ?_
  refine And.intro (Exists.intro _ (cw_o0 hI.1)) (Exists.intro _ (Exists.intro _ (Exists.intro _ (Exists.intro _ (And.intro (c_X10_about hI hS a1 ) (And.intro (lw_bnd rfl (lx_c1 hc (by decide)) (lx_c1 hs0 (by decide)) rfl) (fun r9 A9 h9 => ?_)))))))
  obtain ⟨v925, f925, rfl, hS925, y925, rfl, by925⟩ := h9
  refine pq_id1 (pq_pop (pq_aload_n2 (pq_aload_n0 (pq_iload_n3 (pq_iconst (pq_iadd ?_))))))
  intro m2 em2
  have e2 : m2.toInt = i.toInt + 1 := lx_ad1 hi hL em2
  refine pq_iaload ?_
  refine Exists.intro _ (Exists.intro _ (And.intro (Or.inr hro) (And.intro (lx_bn1 hi e2) ?_)))
  have ha1_2 : a1 = xs m2.toInt.toNat := by rw [ha1, em2, ← m_a1]
  rw [← ha1_2]
  refine pq_iv1_11 ?_
  rw [cw_md D dj]
  refine And.intro (Exists.intro _ (md_o)) (Exists.intro _ (Exists.intro _ (Exists.intro _ (Exists.intro _ (And.intro (c_X11_about D mv mf hv hf a1 ) (And.intro (lw_bnd rfl (lx_c2 hc (by decide)) (lx_c2 hs0 (by decide)) rfl) (fun r9 A9 h9 => ?_)))))))
  obtain ⟨y935, rfl, rfl, by935⟩ := h9
  refine pq_id1 (pq_pop (pq_goto ?_))
  clear hu9
  exact cont _ _ _ ⟨A00, K, nn, dn, q, w, e, v925, f925, mq, mv, mf, M, (cw_md D dj).symm, rfl, hI, hS925, D, hv, hf, dj, fun j hj => by exact hw j hj, by omega, by omega, hR1, hR2, hg, (by omega), hN, hM, hB⟩ (by omega) (by omega)

set_option maxRecDepth 100000 in
set_option maxHeartbeats 2000000 in
theorem lx_b20 (hC : pm_Cl l g (lw_ro b L xs) 7 600000 7302250 lw_Rt bk_L_law J) {i : Int32} (hi : 0 ≤ i.toInt ∧ i.toInt + 6 ≤ L) (hL : L ≤ 3072) {E : Nat} (hE : E < 1000) {A : pm_H} {c s : Nat} (hA : LX g xo h E A) (hc : c + 4 ≤ 600000) (hs0 : s + 485 ≤ 7302250) (cont : ∀ (A' : pm_H) (c' s' : Nat), LX g xo h (E + 1) A' → c' ≤ c + 4 → s' ≤ s + 485 → J 2563 [some (.ref b), some (.ref xo), some (.ref h), some (.int i)] [] A' c' s') : J 942 [some (.ref b), some (.ref xo), some (.ref h), some (.int i)] [] A c s := by
  obtain ⟨A00, K, nn, dn, q, w, e, v, f, mq, mv, mf, M, rfl, rfl, hI, hS, D, hv, hf, dj, hw, hE1, hE2, hR1, hR2, hg, he0, hN, hM, hB⟩ := hA
  have hu9 := hI.2.1
  unfold cw_W at hu9
  have hro : lw_ro b L xs b = some (L, xs) := if_pos rfl
  refine hC.1 20 942 _ _ rfl _ _ _ _ _ ?_
  refine pq_aload_n1 (pq_aload_n0 (pq_iload_n3 (pq_iconst (pq_iadd ?_))))
  intro m1 em1
  have e1 : m1.toInt = i.toInt + 1 := lx_ad1 hi hL em1
  refine pq_iaload ?_
  refine Exists.intro _ (Exists.intro _ (And.intro (Or.inr hro) (And.intro (lx_bn1 hi e1) ?_)))
  obtain ⟨a1, ha1⟩ : ∃ z9, z9 = xs m1.toInt.toNat := ⟨_, rfl⟩
  have m_a1 := em1
  rw [← ha1]
  refine pq_aload_n0 (pq_iload_n3 (pq_iconst (pq_iadd ?_)))
  intro m2 em2
  have e2 : m2.toInt = i.toInt + 2 := lx_ad2 hi hL em2
  refine pq_iaload ?_
  refine Exists.intro _ (Exists.intro _ (And.intro (Or.inr hro) (And.intro (lx_bn2 hi e2) ?_)))
  obtain ⟨a2, ha2⟩ : ∃ z9, z9 = xs m2.toInt.toNat := ⟨_, rfl⟩
  have m_a2 := em2
  rw [← ha2]
  refine pq_iv2_10 ?_
  refine And.intro (Exists.intro _ (cw_o0 hI.1)) (Exists.intro _ (Exists.intro _ (Exists.intro _ (Exists.intro _ (And.intro (c_X10_count hI hS a1 a2 ) (And.intro (lw_bnd rfl (lx_c1 hc (by decide)) (lx_c1 hs0 (by decide)) rfl) (fun r9 A9 h9 => ?_)))))))
  obtain ⟨v953, f953, rfl, hS953, y953, rfl, by953⟩ := h9
  refine pq_id1 (pq_pop (pq_aload_n2 (pq_aload_n0 (pq_iload_n3 (pq_iconst (pq_iadd ?_))))))
  intro m3 em3
  have e3 : m3.toInt = i.toInt + 1 := lx_ad1 hi hL em3
  refine pq_iaload ?_
  refine Exists.intro _ (Exists.intro _ (And.intro (Or.inr hro) (And.intro (lx_bn1 hi e3) ?_)))
  have ha1_3 : a1 = xs m3.toInt.toNat := by rw [ha1, em3, ← m_a1]
  rw [← ha1_3]
  refine pq_aload_n0 (pq_iload_n3 (pq_iconst (pq_iadd ?_)))
  intro m4 em4
  have e4 : m4.toInt = i.toInt + 2 := lx_ad2 hi hL em4
  refine pq_iaload ?_
  refine Exists.intro _ (Exists.intro _ (And.intro (Or.inr hro) (And.intro (lx_bn2 hi e4) ?_)))
  have ha2_4 : a2 = xs m4.toInt.toNat := by rw [ha2, em4, ← m_a2]
  rw [← ha2_4]
  refine pq_iv2_11 ?_
  rw [cw_md D dj]
  refine And.intro (Exists.intro _ (md_o)) (Exists.intro _ (Exists.intro _ (Exists.intro _ (Exists.intro _ (And.intro (c_X11_count D mv mf hv hf a1 a2 ) (And.intro (lw_bnd rfl (lx_c2 hc (by decide)) (lx_c2 hs0 (by decide)) rfl) (fun r9 A9 h9 => ?_)))))))
  obtain ⟨y968, rfl, rfl, by968⟩ := h9
  refine pq_id1 (pq_pop (pq_goto ?_))
  clear hu9
  exact cont _ _ _ ⟨A00, K, nn, dn, q, w, e, v953, f953, mq, mv, mf, M, (cw_md D dj).symm, rfl, hI, hS953, D, hv, hf, dj, fun j hj => by exact hw j hj, by omega, by omega, hR1, hR2, hg, (by omega), hN, hM, hB⟩ (by omega) (by omega)

set_option maxRecDepth 100000 in
set_option maxHeartbeats 2000000 in
theorem lx_b21 (hC : pm_Cl l g (lw_ro b L xs) 7 600000 7302250 lw_Rt bk_L_law J) {i : Int32} (hi : 0 ≤ i.toInt ∧ i.toInt + 6 ≤ L) (hL : L ≤ 3072) {E : Nat} (hE : E < 1000) {A : pm_H} {c s : Nat} (hA : LX g xo h E A) (hc : c + 4 ≤ 600000) (hs0 : s + 485 ≤ 7302250) (cont : ∀ (A' : pm_H) (c' s' : Nat), LX g xo h (E + 1) A' → c' ≤ c + 4 → s' ≤ s + 485 → J 2563 [some (.ref b), some (.ref xo), some (.ref h), some (.int i)] [] A' c' s') : J 975 [some (.ref b), some (.ref xo), some (.ref h), some (.int i)] [] A c s := by
  obtain ⟨A00, K, nn, dn, q, w, e, v, f, mq, mv, mf, M, rfl, rfl, hI, hS, D, hv, hf, dj, hw, hE1, hE2, hR1, hR2, hg, he0, hN, hM, hB⟩ := hA
  have hu9 := hI.2.1
  unfold cw_W at hu9
  have hro : lw_ro b L xs b = some (L, xs) := if_pos rfl
  refine hC.1 21 975 _ _ rfl _ _ _ _ _ ?_
  refine pq_aload_n1 (pq_aload_n0 (pq_iload_n3 (pq_iconst (pq_iadd ?_))))
  intro m1 em1
  have e1 : m1.toInt = i.toInt + 1 := lx_ad1 hi hL em1
  refine pq_iaload ?_
  refine Exists.intro _ (Exists.intro _ (And.intro (Or.inr hro) (And.intro (lx_bn1 hi e1) ?_)))
  obtain ⟨a1, ha1⟩ : ∃ z9, z9 = xs m1.toInt.toNat := ⟨_, rfl⟩
  have m_a1 := em1
  rw [← ha1]
  refine pq_aload_n0 (pq_iload_n3 (pq_iconst (pq_iadd ?_)))
  intro m2 em2
  have e2 : m2.toInt = i.toInt + 2 := lx_ad2 hi hL em2
  refine pq_iaload ?_
  refine Exists.intro _ (Exists.intro _ (And.intro (Or.inr hro) (And.intro (lx_bn2 hi e2) ?_)))
  obtain ⟨a2, ha2⟩ : ∃ z9, z9 = xs m2.toInt.toNat := ⟨_, rfl⟩
  have m_a2 := em2
  rw [← ha2]
  refine pq_iv2_10 ?_
  refine And.intro (Exists.intro _ (cw_o0 hI.1)) (Exists.intro _ (Exists.intro _ (Exists.intro _ (Exists.intro _ (And.intro (c_X10_weight hI hS a1 a2 ) (And.intro (lw_bnd rfl (lx_c1 hc (by decide)) (lx_c1 hs0 (by decide)) rfl) (fun r9 A9 h9 => ?_)))))))
  obtain ⟨v986, f986, rfl, hS986, y986, rfl, by986⟩ := h9
  refine pq_id1 (pq_pop (pq_aload_n2 (pq_aload_n0 (pq_iload_n3 (pq_iconst (pq_iadd ?_))))))
  intro m3 em3
  have e3 : m3.toInt = i.toInt + 1 := lx_ad1 hi hL em3
  refine pq_iaload ?_
  refine Exists.intro _ (Exists.intro _ (And.intro (Or.inr hro) (And.intro (lx_bn1 hi e3) ?_)))
  have ha1_3 : a1 = xs m3.toInt.toNat := by rw [ha1, em3, ← m_a1]
  rw [← ha1_3]
  refine pq_aload_n0 (pq_iload_n3 (pq_iconst (pq_iadd ?_)))
  intro m4 em4
  have e4 : m4.toInt = i.toInt + 2 := lx_ad2 hi hL em4
  refine pq_iaload ?_
  refine Exists.intro _ (Exists.intro _ (And.intro (Or.inr hro) (And.intro (lx_bn2 hi e4) ?_)))
  have ha2_4 : a2 = xs m4.toInt.toNat := by rw [ha2, em4, ← m_a2]
  rw [← ha2_4]
  refine pq_iv2_11 ?_
  rw [cw_md D dj]
  refine And.intro (Exists.intro _ (md_o)) (Exists.intro _ (Exists.intro _ (Exists.intro _ (Exists.intro _ (And.intro (c_X11_weight D mv mf hv hf a1 a2 ) (And.intro (lw_bnd rfl (lx_c2 hc (by decide)) (lx_c2 hs0 (by decide)) rfl) (fun r9 A9 h9 => ?_)))))))
  obtain ⟨y1001, rfl, rfl, by1001⟩ := h9
  refine pq_id1 (pq_pop (pq_goto ?_))
  clear hu9
  exact cont _ _ _ ⟨A00, K, nn, dn, q, w, e, v986, f986, mq, mv, mf, M, (cw_md D dj).symm, rfl, hI, hS986, D, hv, hf, dj, fun j hj => by exact hw j hj, by omega, by omega, hR1, hR2, hg, (by omega), hN, hM, hB⟩ (by omega) (by omega)

set_option maxRecDepth 100000 in
set_option maxHeartbeats 2000000 in
theorem lx_b22 (hC : pm_Cl l g (lw_ro b L xs) 7 600000 7302250 lw_Rt bk_L_law J) {i : Int32} (hi : 0 ≤ i.toInt ∧ i.toInt + 6 ≤ L) (hL : L ≤ 3072) {E : Nat} (hE : E < 1000) {A : pm_H} {c s : Nat} (hA : LX g xo h E A) (hc : c + 4 ≤ 600000) (hs0 : s + 485 ≤ 7302250) (cont : ∀ (A' : pm_H) (c' s' : Nat), LX g xo h (E + 1) A' → c' ≤ c + 4 → s' ≤ s + 485 → J 2563 [some (.ref b), some (.ref xo), some (.ref h), some (.int i)] [] A' c' s') : J 1008 [some (.ref b), some (.ref xo), some (.ref h), some (.int i)] [] A c s := by
  obtain ⟨A00, K, nn, dn, q, w, e, v, f, mq, mv, mf, M, rfl, rfl, hI, hS, D, hv, hf, dj, hw, hE1, hE2, hR1, hR2, hg, he0, hN, hM, hB⟩ := hA
  have hu9 := hI.2.1
  unfold cw_W at hu9
  have hro : lw_ro b L xs b = some (L, xs) := if_pos rfl
  refine hC.1 22 1008 _ _ rfl _ _ _ _ _ ?_
  refine pq_aload_n1 (pq_aload_n0 (pq_iload_n3 (pq_iconst (pq_iadd ?_))))
  intro m1 em1
  have e1 : m1.toInt = i.toInt + 1 := lx_ad1 hi hL em1
  refine pq_iaload ?_
  refine Exists.intro _ (Exists.intro _ (And.intro (Or.inr hro) (And.intro (lx_bn1 hi e1) ?_)))
  obtain ⟨a1, ha1⟩ : ∃ z9, z9 = xs m1.toInt.toNat := ⟨_, rfl⟩
  have m_a1 := em1
  rw [← ha1]
  refine pq_aload_n0 (pq_iload_n3 (pq_iconst (pq_iadd ?_)))
  intro m2 em2
  have e2 : m2.toInt = i.toInt + 2 := lx_ad2 hi hL em2
  refine pq_iaload ?_
  refine Exists.intro _ (Exists.intro _ (And.intro (Or.inr hro) (And.intro (lx_bn2 hi e2) ?_)))
  obtain ⟨a2, ha2⟩ : ∃ z9, z9 = xs m2.toInt.toNat := ⟨_, rfl⟩
  have m_a2 := em2
  rw [← ha2]
  refine pq_iv2_10 ?_
  refine And.intro (Exists.intro _ (cw_o0 hI.1)) (Exists.intro _ (Exists.intro _ (Exists.intro _ (Exists.intro _ (And.intro (c_X10_set hI hS a1 a2 ) (And.intro (lw_bnd rfl (lx_c1 hc (by decide)) (lx_c1 hs0 (by decide)) rfl) (fun r9 A9 h9 => ?_)))))))
  obtain ⟨v1019, f1019, rfl, hS1019, y1019, rfl, by1019⟩ := h9
  refine pq_id1 (pq_pop (pq_aload_n2 (pq_aload_n0 (pq_iload_n3 (pq_iconst (pq_iadd ?_))))))
  intro m3 em3
  have e3 : m3.toInt = i.toInt + 1 := lx_ad1 hi hL em3
  refine pq_iaload ?_
  refine Exists.intro _ (Exists.intro _ (And.intro (Or.inr hro) (And.intro (lx_bn1 hi e3) ?_)))
  have ha1_3 : a1 = xs m3.toInt.toNat := by rw [ha1, em3, ← m_a1]
  rw [← ha1_3]
  refine pq_aload_n0 (pq_iload_n3 (pq_iconst (pq_iadd ?_)))
  intro m4 em4
  have e4 : m4.toInt = i.toInt + 2 := lx_ad2 hi hL em4
  refine pq_iaload ?_
  refine Exists.intro _ (Exists.intro _ (And.intro (Or.inr hro) (And.intro (lx_bn2 hi e4) ?_)))
  have ha2_4 : a2 = xs m4.toInt.toNat := by rw [ha2, em4, ← m_a2]
  rw [← ha2_4]
  refine pq_iv2_11 ?_
  rw [cw_md D dj]
  refine And.intro (Exists.intro _ (md_o)) (Exists.intro _ (Exists.intro _ (Exists.intro _ (Exists.intro _ (And.intro (c_X11_set D mv mf hv hf a1 a2 ) (And.intro (lw_bnd rfl (lx_c2 hc (by decide)) (lx_c2 hs0 (by decide)) rfl) (fun r9 A9 h9 => ?_)))))))
  obtain ⟨y1034, rfl, rfl, by1034⟩ := h9
  refine pq_id1 (pq_pop (pq_goto ?_))
  clear hu9
  exact cont _ _ _ ⟨A00, K, nn, dn, q, w, e, v1019, f1019, mq, mv, mf, M, (cw_md D dj).symm, rfl, hI, hS1019, D, hv, hf, dj, fun j hj => by exact hw j hj, by omega, by omega, hR1, hR2, hg, (by omega), hN, hM, hB⟩ (by omega) (by omega)

set_option maxRecDepth 100000 in
set_option maxHeartbeats 2000000 in
theorem lx_b23 (hC : pm_Cl l g (lw_ro b L xs) 7 600000 7302250 lw_Rt bk_L_law J) {i : Int32} (hi : 0 ≤ i.toInt ∧ i.toInt + 6 ≤ L) (hL : L ≤ 3072) {E : Nat} (hE : E < 1000) {A : pm_H} {c s : Nat} (hA : LX g xo h E A) (hc : c + 4 ≤ 600000) (hs0 : s + 485 ≤ 7302250) (cont : ∀ (A' : pm_H) (c' s' : Nat), LX g xo h (E + 1) A' → c' ≤ c + 4 → s' ≤ s + 485 → J 2563 [some (.ref b), some (.ref xo), some (.ref h), some (.int i)] [] A' c' s') : J 1041 [some (.ref b), some (.ref xo), some (.ref h), some (.int i)] [] A c s := by
  obtain ⟨A00, K, nn, dn, q, w, e, v, f, mq, mv, mf, M, rfl, rfl, hI, hS, D, hv, hf, dj, hw, hE1, hE2, hR1, hR2, hg, he0, hN, hM, hB⟩ := hA
  have hu9 := hI.2.1
  unfold cw_W at hu9
  have hro : lw_ro b L xs b = some (L, xs) := if_pos rfl
  refine hC.1 23 1041 _ _ rfl _ _ _ _ _ ?_
  refine pq_aload_n1 (pq_aload_n0 (pq_iload_n3 (pq_iconst (pq_iadd ?_))))
  intro m1 em1
  have e1 : m1.toInt = i.toInt + 1 := lx_ad1 hi hL em1
  refine pq_iaload ?_
  refine Exists.intro _ (Exists.intro _ (And.intro (Or.inr hro) (And.intro (lx_bn1 hi e1) ?_)))
  obtain ⟨a1, ha1⟩ : ∃ z9, z9 = xs m1.toInt.toNat := ⟨_, rfl⟩
  have m_a1 := em1
  rw [← ha1]
  refine pq_aload_n0 (pq_iload_n3 (pq_iconst (pq_iadd ?_)))
  intro m2 em2
  have e2 : m2.toInt = i.toInt + 2 := lx_ad2 hi hL em2
  refine pq_iaload ?_
  refine Exists.intro _ (Exists.intro _ (And.intro (Or.inr hro) (And.intro (lx_bn2 hi e2) ?_)))
  obtain ⟨a2, ha2⟩ : ∃ z9, z9 = xs m2.toInt.toNat := ⟨_, rfl⟩
  have m_a2 := em2
  rw [← ha2]
  refine pq_aload_n0 (pq_iload_n3 (pq_iconst (pq_iadd ?_)))
  intro m3 em3
  have e3 : m3.toInt = i.toInt + 3 := lx_ad3 hi hL em3
  refine pq_iaload ?_
  refine Exists.intro _ (Exists.intro _ (And.intro (Or.inr hro) (And.intro (lx_bn3 hi e3) ?_)))
  obtain ⟨a3, ha3⟩ : ∃ z9, z9 = xs m3.toInt.toNat := ⟨_, rfl⟩
  have m_a3 := em3
  rw [← ha3]
  refine pq_iv3_10 ?_
  refine And.intro (Exists.intro _ (cw_o0 hI.1)) (Exists.intro _ (Exists.intro _ (Exists.intro _ (Exists.intro _ (And.intro (c_X10_times hI hS a1 a2 a3 ) (And.intro (lw_bnd rfl (lx_c1 hc (by decide)) (lx_c1 hs0 (by decide)) rfl) (fun r9 A9 h9 => ?_)))))))
  obtain ⟨v1057, f1057, rfl, hS1057, y1057, rfl, by1057⟩ := h9
  refine pq_id1 (pq_pop (pq_aload_n2 (pq_aload_n0 (pq_iload_n3 (pq_iconst (pq_iadd ?_))))))
  intro m4 em4
  have e4 : m4.toInt = i.toInt + 1 := lx_ad1 hi hL em4
  refine pq_iaload ?_
  refine Exists.intro _ (Exists.intro _ (And.intro (Or.inr hro) (And.intro (lx_bn1 hi e4) ?_)))
  have ha1_4 : a1 = xs m4.toInt.toNat := by rw [ha1, em4, ← m_a1]
  rw [← ha1_4]
  refine pq_aload_n0 (pq_iload_n3 (pq_iconst (pq_iadd ?_)))
  intro m5 em5
  have e5 : m5.toInt = i.toInt + 2 := lx_ad2 hi hL em5
  refine pq_iaload ?_
  refine Exists.intro _ (Exists.intro _ (And.intro (Or.inr hro) (And.intro (lx_bn2 hi e5) ?_)))
  have ha2_5 : a2 = xs m5.toInt.toNat := by rw [ha2, em5, ← m_a2]
  rw [← ha2_5]
  refine pq_aload_n0 (pq_iload_n3 (pq_iconst (pq_iadd ?_)))
  intro m6 em6
  have e6 : m6.toInt = i.toInt + 3 := lx_ad3 hi hL em6
  refine pq_iaload ?_
  refine Exists.intro _ (Exists.intro _ (And.intro (Or.inr hro) (And.intro (lx_bn3 hi e6) ?_)))
  have ha3_6 : a3 = xs m6.toInt.toNat := by rw [ha3, em6, ← m_a3]
  rw [← ha3_6]
  refine pq_iv3_11 ?_
  rw [cw_md D dj]
  refine And.intro (Exists.intro _ (md_o)) (Exists.intro _ (Exists.intro _ (Exists.intro _ (Exists.intro _ (And.intro (c_X11_times D mv mf hv hf a1 a2 a3 ) (And.intro (lw_bnd rfl (lx_c2 hc (by decide)) (lx_c2 hs0 (by decide)) rfl) (fun r9 A9 h9 => ?_)))))))
  obtain ⟨y1077, rfl, rfl, by1077⟩ := h9
  refine pq_id1 (pq_pop (pq_goto ?_))
  clear hu9
  exact cont _ _ _ ⟨A00, K, nn, dn, q, w, e, v1057, f1057, mq, mv, mf, M, (cw_md D dj).symm, rfl, hI, hS1057, D, hv, hf, dj, fun j hj => by exact hw j hj, by omega, by omega, hR1, hR2, hg, (by omega), hN, hM, hB⟩ (by omega) (by omega)

set_option maxRecDepth 100000 in
set_option maxHeartbeats 2000000 in
theorem lx_b24 (hC : pm_Cl l g (lw_ro b L xs) 7 600000 7302250 lw_Rt bk_L_law J) {i : Int32} (hi : 0 ≤ i.toInt ∧ i.toInt + 6 ≤ L) (hL : L ≤ 3072) {E : Nat} (hE : E < 1000) {A : pm_H} {c s : Nat} (hA : LX g xo h E A) (hc : c + 4 ≤ 600000) (hs0 : s + 485 ≤ 7302250) (cont : ∀ (A' : pm_H) (c' s' : Nat), LX g xo h (E + 1) A' → c' ≤ c + 4 → s' ≤ s + 485 → J 2563 [some (.ref b), some (.ref xo), some (.ref h), some (.int i)] [] A' c' s') : J 1084 [some (.ref b), some (.ref xo), some (.ref h), some (.int i)] [] A c s := by
  obtain ⟨A00, K, nn, dn, q, w, e, v, f, mq, mv, mf, M, rfl, rfl, hI, hS, D, hv, hf, dj, hw, hE1, hE2, hR1, hR2, hg, he0, hN, hM, hB⟩ := hA
  have hu9 := hI.2.1
  unfold cw_W at hu9
  have hro : lw_ro b L xs b = some (L, xs) := if_pos rfl
  refine hC.1 24 1084 _ _ rfl _ _ _ _ _ ?_
  refine pq_aload_n1 (pq_aload_n0 (pq_iload_n3 (pq_iconst (pq_iadd ?_))))
  intro m1 em1
  have e1 : m1.toInt = i.toInt + 1 := lx_ad1 hi hL em1
  refine pq_iaload ?_
  refine Exists.intro _ (Exists.intro _ (And.intro (Or.inr hro) (And.intro (lx_bn1 hi e1) ?_)))
  obtain ⟨a1, ha1⟩ : ∃ z9, z9 = xs m1.toInt.toNat := ⟨_, rfl⟩
  have m_a1 := em1
  rw [← ha1]
  refine pq_aload_n0 (pq_iload_n3 (pq_iconst (pq_iadd ?_)))
  intro m2 em2
  have e2 : m2.toInt = i.toInt + 2 := lx_ad2 hi hL em2
  refine pq_iaload ?_
  refine Exists.intro _ (Exists.intro _ (And.intro (Or.inr hro) (And.intro (lx_bn2 hi e2) ?_)))
  obtain ⟨a2, ha2⟩ : ∃ z9, z9 = xs m2.toInt.toNat := ⟨_, rfl⟩
  have m_a2 := em2
  rw [← ha2]
  refine pq_aload_n0 (pq_iload_n3 (pq_iconst (pq_iadd ?_)))
  intro m3 em3
  have e3 : m3.toInt = i.toInt + 3 := lx_ad3 hi hL em3
  refine pq_iaload ?_
  refine Exists.intro _ (Exists.intro _ (And.intro (Or.inr hro) (And.intro (lx_bn3 hi e3) ?_)))
  obtain ⟨a3, ha3⟩ : ∃ z9, z9 = xs m3.toInt.toNat := ⟨_, rfl⟩
  have m_a3 := em3
  rw [← ha3]
  refine pq_iv3_10 ?_
  refine And.intro (Exists.intro _ (cw_o0 hI.1)) (Exists.intro _ (Exists.intro _ (Exists.intro _ (Exists.intro _ (And.intro (c_X10_often hI hS a1 a2 a3 ) (And.intro (lw_bnd rfl (lx_c1 hc (by decide)) (lx_c1 hs0 (by decide)) rfl) (fun r9 A9 h9 => ?_)))))))
  obtain ⟨v1100, f1100, rfl, hS1100, y1100, rfl, by1100⟩ := h9
  refine pq_id1 (pq_pop (pq_aload_n2 (pq_aload_n0 (pq_iload_n3 (pq_iconst (pq_iadd ?_))))))
  intro m4 em4
  have e4 : m4.toInt = i.toInt + 1 := lx_ad1 hi hL em4
  refine pq_iaload ?_
  refine Exists.intro _ (Exists.intro _ (And.intro (Or.inr hro) (And.intro (lx_bn1 hi e4) ?_)))
  have ha1_4 : a1 = xs m4.toInt.toNat := by rw [ha1, em4, ← m_a1]
  rw [← ha1_4]
  refine pq_aload_n0 (pq_iload_n3 (pq_iconst (pq_iadd ?_)))
  intro m5 em5
  have e5 : m5.toInt = i.toInt + 2 := lx_ad2 hi hL em5
  refine pq_iaload ?_
  refine Exists.intro _ (Exists.intro _ (And.intro (Or.inr hro) (And.intro (lx_bn2 hi e5) ?_)))
  have ha2_5 : a2 = xs m5.toInt.toNat := by rw [ha2, em5, ← m_a2]
  rw [← ha2_5]
  refine pq_aload_n0 (pq_iload_n3 (pq_iconst (pq_iadd ?_)))
  intro m6 em6
  have e6 : m6.toInt = i.toInt + 3 := lx_ad3 hi hL em6
  refine pq_iaload ?_
  refine Exists.intro _ (Exists.intro _ (And.intro (Or.inr hro) (And.intro (lx_bn3 hi e6) ?_)))
  have ha3_6 : a3 = xs m6.toInt.toNat := by rw [ha3, em6, ← m_a3]
  rw [← ha3_6]
  refine pq_iv3_11 ?_
  rw [cw_md D dj]
  refine And.intro (Exists.intro _ (md_o)) (Exists.intro _ (Exists.intro _ (Exists.intro _ (Exists.intro _ (And.intro (c_X11_often D mv mf hv hf a1 a2 a3 ) (And.intro (lw_bnd rfl (lx_c2 hc (by decide)) (lx_c2 hs0 (by decide)) rfl) (fun r9 A9 h9 => ?_)))))))
  obtain ⟨y1120, rfl, rfl, by1120⟩ := h9
  refine pq_id1 (pq_pop (pq_goto ?_))
  clear hu9
  exact cont _ _ _ ⟨A00, K, nn, dn, q, w, e, v1100, f1100, mq, mv, mf, M, (cw_md D dj).symm, rfl, hI, hS1100, D, hv, hf, dj, fun j hj => by exact hw j hj, by omega, by omega, hR1, hR2, hg, (by omega), hN, hM, hB⟩ (by omega) (by omega)

set_option maxRecDepth 100000 in
set_option maxHeartbeats 2000000 in
theorem lx_b25 (hC : pm_Cl l g (lw_ro b L xs) 7 600000 7302250 lw_Rt bk_L_law J) {i : Int32} (hi : 0 ≤ i.toInt ∧ i.toInt + 6 ≤ L) (hL : L ≤ 3072) {E : Nat} (hE : E < 1000) {A : pm_H} {c s : Nat} (hA : LX g xo h E A) (hc : c + 4 ≤ 600000) (hs0 : s + 485 ≤ 7302250) (cont : ∀ (A' : pm_H) (c' s' : Nat), LX g xo h (E + 1) A' → c' ≤ c + 4 → s' ≤ s + 485 → J 2563 [some (.ref b), some (.ref xo), some (.ref h), some (.int i)] [] A' c' s') : J 1127 [some (.ref b), some (.ref xo), some (.ref h), some (.int i)] [] A c s := by
  obtain ⟨A00, K, nn, dn, q, w, e, v, f, mq, mv, mf, M, rfl, rfl, hI, hS, D, hv, hf, dj, hw, hE1, hE2, hR1, hR2, hg, he0, hN, hM, hB⟩ := hA
  have hu9 := hI.2.1
  unfold cw_W at hu9
  have hro : lw_ro b L xs b = some (L, xs) := if_pos rfl
  refine hC.1 25 1127 _ _ rfl _ _ _ _ _ ?_
  refine pq_aload_n1 (pq_aload_n0 (pq_iload_n3 (pq_iconst (pq_iadd ?_))))
  intro m1 em1
  have e1 : m1.toInt = i.toInt + 1 := lx_ad1 hi hL em1
  refine pq_iaload ?_
  refine Exists.intro _ (Exists.intro _ (And.intro (Or.inr hro) (And.intro (lx_bn1 hi e1) ?_)))
  obtain ⟨a1, ha1⟩ : ∃ z9, z9 = xs m1.toInt.toNat := ⟨_, rfl⟩
  have m_a1 := em1
  rw [← ha1]
  refine pq_aload_n0 (pq_iload_n3 (pq_iconst (pq_iadd ?_)))
  intro m2 em2
  have e2 : m2.toInt = i.toInt + 2 := lx_ad2 hi hL em2
  refine pq_iaload ?_
  refine Exists.intro _ (Exists.intro _ (And.intro (Or.inr hro) (And.intro (lx_bn2 hi e2) ?_)))
  obtain ⟨a2, ha2⟩ : ∃ z9, z9 = xs m2.toInt.toNat := ⟨_, rfl⟩
  have m_a2 := em2
  rw [← ha2]
  refine pq_aload_n0 (pq_iload_n3 (pq_iconst (pq_iadd ?_)))
  intro m3 em3
  have e3 : m3.toInt = i.toInt + 3 := lx_ad3 hi hL em3
  refine pq_iaload ?_
  refine Exists.intro _ (Exists.intro _ (And.intro (Or.inr hro) (And.intro (lx_bn3 hi e3) ?_)))
  obtain ⟨a3, ha3⟩ : ∃ z9, z9 = xs m3.toInt.toNat := ⟨_, rfl⟩
  have m_a3 := em3
  rw [← ha3]
  refine pq_aload_n0 (pq_iload_n3 (pq_iconst (pq_iadd ?_)))
  intro m4 em4
  have e4 : m4.toInt = i.toInt + 4 := lx_ad4 hi hL em4
  refine pq_iaload ?_
  refine Exists.intro _ (Exists.intro _ (And.intro (Or.inr hro) (And.intro (lx_bn4 hi e4) ?_)))
  obtain ⟨a4, ha4⟩ : ∃ z9, z9 = xs m4.toInt.toNat := ⟨_, rfl⟩
  have m_a4 := em4
  rw [← ha4]
  refine pq_iv4_10 ?_
  refine And.intro (Exists.intro _ (cw_o0 hI.1)) (Exists.intro _ (Exists.intro _ (Exists.intro _ (Exists.intro _ (And.intro (c_X10_report hI hS a1 a2 a3 a4 ) (And.intro (lw_bnd rfl (lx_c1 hc (by decide)) (lx_c1 hs0 (by decide)) rfl) (fun r9 A9 h9 => ?_)))))))
  obtain ⟨v1148, f1148, rfl, hS1148, y1148, rfl, by1148⟩ := h9
  refine pq_id1 (pq_pop (pq_aload_n2 (pq_aload_n0 (pq_iload_n3 (pq_iconst (pq_iadd ?_))))))
  intro m5 em5
  have e5 : m5.toInt = i.toInt + 1 := lx_ad1 hi hL em5
  refine pq_iaload ?_
  refine Exists.intro _ (Exists.intro _ (And.intro (Or.inr hro) (And.intro (lx_bn1 hi e5) ?_)))
  have ha1_5 : a1 = xs m5.toInt.toNat := by rw [ha1, em5, ← m_a1]
  rw [← ha1_5]
  refine pq_aload_n0 (pq_iload_n3 (pq_iconst (pq_iadd ?_)))
  intro m6 em6
  have e6 : m6.toInt = i.toInt + 2 := lx_ad2 hi hL em6
  refine pq_iaload ?_
  refine Exists.intro _ (Exists.intro _ (And.intro (Or.inr hro) (And.intro (lx_bn2 hi e6) ?_)))
  have ha2_6 : a2 = xs m6.toInt.toNat := by rw [ha2, em6, ← m_a2]
  rw [← ha2_6]
  refine pq_aload_n0 (pq_iload_n3 (pq_iconst (pq_iadd ?_)))
  intro m7 em7
  have e7 : m7.toInt = i.toInt + 3 := lx_ad3 hi hL em7
  refine pq_iaload ?_
  refine Exists.intro _ (Exists.intro _ (And.intro (Or.inr hro) (And.intro (lx_bn3 hi e7) ?_)))
  have ha3_7 : a3 = xs m7.toInt.toNat := by rw [ha3, em7, ← m_a3]
  rw [← ha3_7]
  refine pq_aload_n0 (pq_iload_n3 (pq_iconst (pq_iadd ?_)))
  intro m8 em8
  have e8 : m8.toInt = i.toInt + 4 := lx_ad4 hi hL em8
  refine pq_iaload ?_
  refine Exists.intro _ (Exists.intro _ (And.intro (Or.inr hro) (And.intro (lx_bn4 hi e8) ?_)))
  have ha4_8 : a4 = xs m8.toInt.toNat := by rw [ha4, em8, ← m_a4]
  rw [← ha4_8]
  refine pq_iv4_11 ?_
  rw [cw_md D dj]
  refine And.intro (Exists.intro _ (md_o)) (Exists.intro _ (Exists.intro _ (Exists.intro _ (Exists.intro _ (And.intro (c_X11_report D mv mf hv hf a1 a2 a3 a4 ) (And.intro (lw_bnd rfl (lx_c2 hc (by decide)) (lx_c2 hs0 (by decide)) rfl) (fun r9 A9 h9 => ?_)))))))
  obtain ⟨y1173, rfl, rfl, by1173⟩ := h9
  refine pq_id1 (pq_pop (pq_goto ?_))
  clear hu9
  exact cont _ _ _ ⟨A00, K, nn, dn, q, w, e, v1148, f1148, mq, mv, mf, M, (cw_md D dj).symm, rfl, hI, hS1148, D, hv, hf, dj, fun j hj => by exact hw j hj, by omega, by omega, hR1, hR2, hg, (by omega), hN, hM, hB⟩ (by omega) (by omega)

set_option maxRecDepth 100000 in
set_option maxHeartbeats 2000000 in
theorem lx_b26 (hC : pm_Cl l g (lw_ro b L xs) 7 600000 7302250 lw_Rt bk_L_law J) {i : Int32} (hi : 0 ≤ i.toInt ∧ i.toInt + 6 ≤ L) (hL : L ≤ 3072) {E : Nat} (hE : E < 1000) {A : pm_H} {c s : Nat} (hA : LX g xo h E A) (hc : c + 4 ≤ 600000) (hs0 : s + 485 ≤ 7302250) (cont : ∀ (A' : pm_H) (c' s' : Nat), LX g xo h (E + 1) A' → c' ≤ c + 4 → s' ≤ s + 485 → J 2563 [some (.ref b), some (.ref xo), some (.ref h), some (.int i)] [] A' c' s') : J 1180 [some (.ref b), some (.ref xo), some (.ref h), some (.int i)] [] A c s := by
  obtain ⟨A00, K, nn, dn, q, w, e, v, f, mq, mv, mf, M, rfl, rfl, hI, hS, D, hv, hf, dj, hw, hE1, hE2, hR1, hR2, hg, he0, hN, hM, hB⟩ := hA
  have hu9 := hI.2.1
  unfold cw_W at hu9
  have hro : lw_ro b L xs b = some (L, xs) := if_pos rfl
  refine hC.1 26 1180 _ _ rfl _ _ _ _ _ ?_
  refine pq_aload_n1 (pq_aload_n0 (pq_iload_n3 (pq_iconst (pq_iadd ?_))))
  intro m1 em1
  have e1 : m1.toInt = i.toInt + 1 := lx_ad1 hi hL em1
  refine pq_iaload ?_
  refine Exists.intro _ (Exists.intro _ (And.intro (Or.inr hro) (And.intro (lx_bn1 hi e1) ?_)))
  obtain ⟨a1, ha1⟩ : ∃ z9, z9 = xs m1.toInt.toNat := ⟨_, rfl⟩
  have m_a1 := em1
  rw [← ha1]
  refine pq_aload_n0 (pq_iload_n3 (pq_iconst (pq_iadd ?_)))
  intro m2 em2
  have e2 : m2.toInt = i.toInt + 2 := lx_ad2 hi hL em2
  refine pq_iaload ?_
  refine Exists.intro _ (Exists.intro _ (And.intro (Or.inr hro) (And.intro (lx_bn2 hi e2) ?_)))
  obtain ⟨a2, ha2⟩ : ∃ z9, z9 = xs m2.toInt.toNat := ⟨_, rfl⟩
  have m_a2 := em2
  rw [← ha2]
  refine pq_aload_n0 (pq_iload_n3 (pq_iconst (pq_iadd ?_)))
  intro m3 em3
  have e3 : m3.toInt = i.toInt + 3 := lx_ad3 hi hL em3
  refine pq_iaload ?_
  refine Exists.intro _ (Exists.intro _ (And.intro (Or.inr hro) (And.intro (lx_bn3 hi e3) ?_)))
  obtain ⟨a3, ha3⟩ : ∃ z9, z9 = xs m3.toInt.toNat := ⟨_, rfl⟩
  have m_a3 := em3
  rw [← ha3]
  refine pq_aload_n0 (pq_iload_n3 (pq_iconst (pq_iadd ?_)))
  intro m4 em4
  have e4 : m4.toInt = i.toInt + 4 := lx_ad4 hi hL em4
  refine pq_iaload ?_
  refine Exists.intro _ (Exists.intro _ (And.intro (Or.inr hro) (And.intro (lx_bn4 hi e4) ?_)))
  obtain ⟨a4, ha4⟩ : ∃ z9, z9 = xs m4.toInt.toNat := ⟨_, rfl⟩
  have m_a4 := em4
  rw [← ha4]
  refine pq_iv4_10 ?_
  refine And.intro (Exists.intro _ (cw_o0 hI.1)) (Exists.intro _ (Exists.intro _ (Exists.intro _ (Exists.intro _ (And.intro (c_X10_kth hI hS a1 a2 a3 a4 ) (And.intro (lw_bnd rfl (lx_c1 hc (by decide)) (lx_c1 hs0 (by decide)) rfl) (fun r9 A9 h9 => ?_)))))))
  obtain ⟨v1201, f1201, rfl, hS1201, y1201, rfl, by1201⟩ := h9
  refine pq_id1 (pq_pop (pq_aload_n2 (pq_aload_n0 (pq_iload_n3 (pq_iconst (pq_iadd ?_))))))
  intro m5 em5
  have e5 : m5.toInt = i.toInt + 1 := lx_ad1 hi hL em5
  refine pq_iaload ?_
  refine Exists.intro _ (Exists.intro _ (And.intro (Or.inr hro) (And.intro (lx_bn1 hi e5) ?_)))
  have ha1_5 : a1 = xs m5.toInt.toNat := by rw [ha1, em5, ← m_a1]
  rw [← ha1_5]
  refine pq_aload_n0 (pq_iload_n3 (pq_iconst (pq_iadd ?_)))
  intro m6 em6
  have e6 : m6.toInt = i.toInt + 2 := lx_ad2 hi hL em6
  refine pq_iaload ?_
  refine Exists.intro _ (Exists.intro _ (And.intro (Or.inr hro) (And.intro (lx_bn2 hi e6) ?_)))
  have ha2_6 : a2 = xs m6.toInt.toNat := by rw [ha2, em6, ← m_a2]
  rw [← ha2_6]
  refine pq_aload_n0 (pq_iload_n3 (pq_iconst (pq_iadd ?_)))
  intro m7 em7
  have e7 : m7.toInt = i.toInt + 3 := lx_ad3 hi hL em7
  refine pq_iaload ?_
  refine Exists.intro _ (Exists.intro _ (And.intro (Or.inr hro) (And.intro (lx_bn3 hi e7) ?_)))
  have ha3_7 : a3 = xs m7.toInt.toNat := by rw [ha3, em7, ← m_a3]
  rw [← ha3_7]
  refine pq_aload_n0 (pq_iload_n3 (pq_iconst (pq_iadd ?_)))
  intro m8 em8
  have e8 : m8.toInt = i.toInt + 4 := lx_ad4 hi hL em8
  refine pq_iaload ?_
  refine Exists.intro _ (Exists.intro _ (And.intro (Or.inr hro) (And.intro (lx_bn4 hi e8) ?_)))
  have ha4_8 : a4 = xs m8.toInt.toNat := by rw [ha4, em8, ← m_a4]
  rw [← ha4_8]
  refine pq_iv4_11 ?_
  rw [cw_md D dj]
  refine And.intro (Exists.intro _ (md_o)) (Exists.intro _ (Exists.intro _ (Exists.intro _ (Exists.intro _ (And.intro (F_X11_kth D mv mf hv hf a1 a2 a3 a4 ) (And.intro (lw_bnd rfl (lx_c2 hc (by decide)) (lx_c2 hs0 (by decide)) rfl) (fun r9 A9 h9 => ?_)))))))
  obtain ⟨y1226, mv1226, mf1226, rfl, rfl, hv1226, hf1226, hx1226, hg1226_0, hg1226_1, by1226⟩ := h9
  refine pq_id1 (pq_pop (pq_goto ?_))
  exact cont _ _ _ ⟨A00, K, nn, dn, q, w, e, v1201, f1201, mq, mv1226, mf1226, M, (cw_md D dj).symm, rfl, hI, hS1201, D, hv1226, hf1226, dj, fun j hj => by rw [hx1226]; exact hw j hj, by omega, by omega, hR1, (rp_fr hR2 (by omega) hg1226_0 hg1226_1), (pm_eqI (by have q9 := congrArg Int32.toInt hg; omega)), (by omega), hN, hM, hB⟩ (by omega) (by omega)

set_option maxRecDepth 100000 in
set_option maxHeartbeats 2000000 in
theorem lx_b27 (hC : pm_Cl l g (lw_ro b L xs) 7 600000 7302250 lw_Rt bk_L_law J) {i : Int32} (hi : 0 ≤ i.toInt ∧ i.toInt + 6 ≤ L) (hL : L ≤ 3072) {E : Nat} (hE : E < 1000) {A : pm_H} {c s : Nat} (hA : LX g xo h E A) (hc : c + 4 ≤ 600000) (hs0 : s + 485 ≤ 7302250) (cont : ∀ (A' : pm_H) (c' s' : Nat), LX g xo h (E + 1) A' → c' ≤ c + 4 → s' ≤ s + 485 → J 2563 [some (.ref b), some (.ref xo), some (.ref h), some (.int i)] [] A' c' s') : J 1233 [some (.ref b), some (.ref xo), some (.ref h), some (.int i)] [] A c s := by
  obtain ⟨A00, K, nn, dn, q, w, e, v, f, mq, mv, mf, M, rfl, rfl, hI, hS, D, hv, hf, dj, hw, hE1, hE2, hR1, hR2, hg, he0, hN, hM, hB⟩ := hA
  have hu9 := hI.2.1
  unfold cw_W at hu9
  have hro : lw_ro b L xs b = some (L, xs) := if_pos rfl
  refine hC.1 27 1233 _ _ rfl _ _ _ _ _ ?_
  refine pq_aload_n1 (pq_aload_n0 (pq_iload_n3 (pq_iconst (pq_iadd ?_))))
  intro m1 em1
  have e1 : m1.toInt = i.toInt + 1 := lx_ad1 hi hL em1
  refine pq_iaload ?_
  refine Exists.intro _ (Exists.intro _ (And.intro (Or.inr hro) (And.intro (lx_bn1 hi e1) ?_)))
  obtain ⟨a1, ha1⟩ : ∃ z9, z9 = xs m1.toInt.toNat := ⟨_, rfl⟩
  have m_a1 := em1
  rw [← ha1]
  refine pq_aload_n0 (pq_iload_n3 (pq_iconst (pq_iadd ?_)))
  intro m2 em2
  have e2 : m2.toInt = i.toInt + 2 := lx_ad2 hi hL em2
  refine pq_iaload ?_
  refine Exists.intro _ (Exists.intro _ (And.intro (Or.inr hro) (And.intro (lx_bn2 hi e2) ?_)))
  obtain ⟨a2, ha2⟩ : ∃ z9, z9 = xs m2.toInt.toNat := ⟨_, rfl⟩
  have m_a2 := em2
  rw [← ha2]
  refine pq_aload_n0 (pq_iload_n3 (pq_iconst (pq_iadd ?_)))
  intro m3 em3
  have e3 : m3.toInt = i.toInt + 3 := lx_ad3 hi hL em3
  refine pq_iaload ?_
  refine Exists.intro _ (Exists.intro _ (And.intro (Or.inr hro) (And.intro (lx_bn3 hi e3) ?_)))
  obtain ⟨a3, ha3⟩ : ∃ z9, z9 = xs m3.toInt.toNat := ⟨_, rfl⟩
  have m_a3 := em3
  rw [← ha3]
  refine pq_iv3_10 ?_
  refine And.intro (Exists.intro _ (cw_o0 hI.1)) (Exists.intro _ (Exists.intro _ (Exists.intro _ (Exists.intro _ (And.intro (c_X10_absent hI hS a1 a2 a3 ) (And.intro (lw_bnd rfl (lx_c1 hc (by decide)) (lx_c1 hs0 (by decide)) rfl) (fun r9 A9 h9 => ?_)))))))
  obtain ⟨v1249, f1249, rfl, hS1249, y1249, rfl, by1249⟩ := h9
  refine pq_id1 (pq_pop (pq_aload_n2 (pq_aload_n0 (pq_iload_n3 (pq_iconst (pq_iadd ?_))))))
  intro m4 em4
  have e4 : m4.toInt = i.toInt + 1 := lx_ad1 hi hL em4
  refine pq_iaload ?_
  refine Exists.intro _ (Exists.intro _ (And.intro (Or.inr hro) (And.intro (lx_bn1 hi e4) ?_)))
  have ha1_4 : a1 = xs m4.toInt.toNat := by rw [ha1, em4, ← m_a1]
  rw [← ha1_4]
  refine pq_aload_n0 (pq_iload_n3 (pq_iconst (pq_iadd ?_)))
  intro m5 em5
  have e5 : m5.toInt = i.toInt + 2 := lx_ad2 hi hL em5
  refine pq_iaload ?_
  refine Exists.intro _ (Exists.intro _ (And.intro (Or.inr hro) (And.intro (lx_bn2 hi e5) ?_)))
  have ha2_5 : a2 = xs m5.toInt.toNat := by rw [ha2, em5, ← m_a2]
  rw [← ha2_5]
  refine pq_aload_n0 (pq_iload_n3 (pq_iconst (pq_iadd ?_)))
  intro m6 em6
  have e6 : m6.toInt = i.toInt + 3 := lx_ad3 hi hL em6
  refine pq_iaload ?_
  refine Exists.intro _ (Exists.intro _ (And.intro (Or.inr hro) (And.intro (lx_bn3 hi e6) ?_)))
  have ha3_6 : a3 = xs m6.toInt.toNat := by rw [ha3, em6, ← m_a3]
  rw [← ha3_6]
  refine pq_iv3_11 ?_
  rw [cw_md D dj]
  refine And.intro (Exists.intro _ (md_o)) (Exists.intro _ (Exists.intro _ (Exists.intro _ (Exists.intro _ (And.intro (c_X11_absent D mv mf hv hf a1 a2 a3 ) (And.intro (lw_bnd rfl (lx_c2 hc (by decide)) (lx_c2 hs0 (by decide)) rfl) (fun r9 A9 h9 => ?_)))))))
  obtain ⟨y1269, rfl, rfl, by1269⟩ := h9
  refine pq_id1 (pq_pop (pq_goto ?_))
  clear hu9
  exact cont _ _ _ ⟨A00, K, nn, dn, q, w, e, v1249, f1249, mq, mv, mf, M, (cw_md D dj).symm, rfl, hI, hS1249, D, hv, hf, dj, fun j hj => by exact hw j hj, by omega, by omega, hR1, hR2, hg, (by omega), hN, hM, hB⟩ (by omega) (by omega)
end
end
section
section
variable {l : Launch} {g : pm_G} {b L : Nat} {xs : Nat → Int32} {J : pm_J} {xo h : Nat}
set_option maxRecDepth 100000 in
set_option maxHeartbeats 2000000 in
theorem lx_b28 (hC : pm_Cl l g (lw_ro b L xs) 7 600000 7302250 lw_Rt bk_L_law J) {i : Int32} (hi : 0 ≤ i.toInt ∧ i.toInt + 6 ≤ L) (hL : L ≤ 3072) {E : Nat} (hE : E < 1000) {A : pm_H} {c s : Nat} (hA : LX g xo h E A) (hc : c + 4 ≤ 600000) (hs0 : s + 485 ≤ 7302250) (cont : ∀ (A' : pm_H) (c' s' : Nat), LX g xo h (E + 1) A' → c' ≤ c + 4 → s' ≤ s + 485 → J 2563 [some (.ref b), some (.ref xo), some (.ref h), some (.int i)] [] A' c' s') : J 1276 [some (.ref b), some (.ref xo), some (.ref h), some (.int i)] [] A c s := by
  obtain ⟨A00, K, nn, dn, q, w, e, v, f, mq, mv, mf, M, rfl, rfl, hI, hS, D, hv, hf, dj, hw, hE1, hE2, hR1, hR2, hg, he0, hN, hM, hB⟩ := hA
  have hu9 := hI.2.1
  unfold cw_W at hu9
  have hro : lw_ro b L xs b = some (L, xs) := if_pos rfl
  refine hC.1 28 1276 _ _ rfl _ _ _ _ _ ?_
  refine pq_aload_n1 (pq_aload_n0 (pq_iload_n3 (pq_iconst (pq_iadd ?_))))
  intro m1 em1
  have e1 : m1.toInt = i.toInt + 1 := lx_ad1 hi hL em1
  refine pq_iaload ?_
  refine Exists.intro _ (Exists.intro _ (And.intro (Or.inr hro) (And.intro (lx_bn1 hi e1) ?_)))
  obtain ⟨a1, ha1⟩ : ∃ z9, z9 = xs m1.toInt.toNat := ⟨_, rfl⟩
  have m_a1 := em1
  rw [← ha1]
  refine pq_aload_n0 (pq_iload_n3 (pq_iconst (pq_iadd ?_)))
  intro m2 em2
  have e2 : m2.toInt = i.toInt + 2 := lx_ad2 hi hL em2
  refine pq_iaload ?_
  refine Exists.intro _ (Exists.intro _ (And.intro (Or.inr hro) (And.intro (lx_bn2 hi e2) ?_)))
  obtain ⟨a2, ha2⟩ : ∃ z9, z9 = xs m2.toInt.toNat := ⟨_, rfl⟩
  have m_a2 := em2
  rw [← ha2]
  refine pq_aload_n0 (pq_iload_n3 (pq_iconst (pq_iadd ?_)))
  intro m3 em3
  have e3 : m3.toInt = i.toInt + 3 := lx_ad3 hi hL em3
  refine pq_iaload ?_
  refine Exists.intro _ (Exists.intro _ (And.intro (Or.inr hro) (And.intro (lx_bn3 hi e3) ?_)))
  obtain ⟨a3, ha3⟩ : ∃ z9, z9 = xs m3.toInt.toNat := ⟨_, rfl⟩
  have m_a3 := em3
  rw [← ha3]
  refine pq_aload_n0 (pq_iload_n3 (pq_iconst (pq_iadd ?_)))
  intro m4 em4
  have e4 : m4.toInt = i.toInt + 4 := lx_ad4 hi hL em4
  refine pq_iaload ?_
  refine Exists.intro _ (Exists.intro _ (And.intro (Or.inr hro) (And.intro (lx_bn4 hi e4) ?_)))
  obtain ⟨a4, ha4⟩ : ∃ z9, z9 = xs m4.toInt.toNat := ⟨_, rfl⟩
  have m_a4 := em4
  rw [← ha4]
  refine pq_aload_n0 (pq_iload_n3 (pq_iconst (pq_iadd ?_)))
  intro m5 em5
  have e5 : m5.toInt = i.toInt + 5 := lx_ad5 hi hL em5
  refine pq_iaload ?_
  refine Exists.intro _ (Exists.intro _ (And.intro (Or.inr hro) (And.intro (lx_bn5 hi e5) ?_)))
  obtain ⟨a5, ha5⟩ : ∃ z9, z9 = xs m5.toInt.toNat := ⟨_, rfl⟩
  have m_a5 := em5
  rw [← ha5]
  refine pq_iv5_10 ?_
  refine And.intro (Exists.intro _ (cw_o0 hI.1)) (Exists.intro _ (Exists.intro _ (Exists.intro _ (Exists.intro _ (And.intro (c_X10_both hI hS a1 a2 a3 a4 a5 ) (And.intro (lw_bnd rfl (lx_c1 hc (by decide)) (lx_c1 hs0 (by decide)) rfl) (fun r9 A9 h9 => ?_)))))))
  obtain ⟨v1302, f1302, rfl, hS1302, y1302, rfl, by1302⟩ := h9
  refine pq_id1 (pq_pop (pq_aload_n2 (pq_aload_n0 (pq_iload_n3 (pq_iconst (pq_iadd ?_))))))
  intro m6 em6
  have e6 : m6.toInt = i.toInt + 1 := lx_ad1 hi hL em6
  refine pq_iaload ?_
  refine Exists.intro _ (Exists.intro _ (And.intro (Or.inr hro) (And.intro (lx_bn1 hi e6) ?_)))
  have ha1_6 : a1 = xs m6.toInt.toNat := by rw [ha1, em6, ← m_a1]
  rw [← ha1_6]
  refine pq_aload_n0 (pq_iload_n3 (pq_iconst (pq_iadd ?_)))
  intro m7 em7
  have e7 : m7.toInt = i.toInt + 2 := lx_ad2 hi hL em7
  refine pq_iaload ?_
  refine Exists.intro _ (Exists.intro _ (And.intro (Or.inr hro) (And.intro (lx_bn2 hi e7) ?_)))
  have ha2_7 : a2 = xs m7.toInt.toNat := by rw [ha2, em7, ← m_a2]
  rw [← ha2_7]
  refine pq_aload_n0 (pq_iload_n3 (pq_iconst (pq_iadd ?_)))
  intro m8 em8
  have e8 : m8.toInt = i.toInt + 3 := lx_ad3 hi hL em8
  refine pq_iaload ?_
  refine Exists.intro _ (Exists.intro _ (And.intro (Or.inr hro) (And.intro (lx_bn3 hi e8) ?_)))
  have ha3_8 : a3 = xs m8.toInt.toNat := by rw [ha3, em8, ← m_a3]
  rw [← ha3_8]
  refine pq_aload_n0 (pq_iload_n3 (pq_iconst (pq_iadd ?_)))
  intro m9 em9
  have e9 : m9.toInt = i.toInt + 4 := lx_ad4 hi hL em9
  refine pq_iaload ?_
  refine Exists.intro _ (Exists.intro _ (And.intro (Or.inr hro) (And.intro (lx_bn4 hi e9) ?_)))
  have ha4_9 : a4 = xs m9.toInt.toNat := by rw [ha4, em9, ← m_a4]
  rw [← ha4_9]
  refine pq_aload_n0 (pq_iload_n3 (pq_iconst (pq_iadd ?_)))
  intro m10 em10
  have e10 : m10.toInt = i.toInt + 5 := lx_ad5 hi hL em10
  refine pq_iaload ?_
  refine Exists.intro _ (Exists.intro _ (And.intro (Or.inr hro) (And.intro (lx_bn5 hi e10) ?_)))
  have ha5_10 : a5 = xs m10.toInt.toNat := by rw [ha5, em10, ← m_a5]
  rw [← ha5_10]
  refine pq_iv5_11 ?_
  rw [cw_md D dj]
  refine And.intro (Exists.intro _ (md_o)) (Exists.intro _ (Exists.intro _ (Exists.intro _ (Exists.intro _ (And.intro (c_X11_both D mv mf hv hf a1 a2 a3 a4 a5 ) (And.intro (lw_bnd rfl (lx_c2 hc (by decide)) (lx_c2 hs0 (by decide)) rfl) (fun r9 A9 h9 => ?_)))))))
  obtain ⟨y1332, rfl, rfl, by1332⟩ := h9
  refine pq_id1 (pq_pop (pq_goto ?_))
  clear hu9
  exact cont _ _ _ ⟨A00, K, nn, dn, q, w, e, v1302, f1302, mq, mv, mf, M, (cw_md D dj).symm, rfl, hI, hS1302, D, hv, hf, dj, fun j hj => by exact hw j hj, by omega, by omega, hR1, hR2, hg, (by omega), hN, hM, hB⟩ (by omega) (by omega)

set_option maxRecDepth 100000 in
set_option maxHeartbeats 2000000 in
theorem lx_b29 (hC : pm_Cl l g (lw_ro b L xs) 7 600000 7302250 lw_Rt bk_L_law J) {i : Int32} (hi : 0 ≤ i.toInt ∧ i.toInt + 6 ≤ L) (hL : L ≤ 3072) {E : Nat} (hE : E < 1000) {A : pm_H} {c s : Nat} (hA : LX g xo h E A) (hc : c + 4 ≤ 600000) (hs0 : s + 485 ≤ 7302250) (cont : ∀ (A' : pm_H) (c' s' : Nat), LX g xo h (E + 1) A' → c' ≤ c + 4 → s' ≤ s + 485 → J 2563 [some (.ref b), some (.ref xo), some (.ref h), some (.int i)] [] A' c' s') : J 1339 [some (.ref b), some (.ref xo), some (.ref h), some (.int i)] [] A c s := by
  obtain ⟨A00, K, nn, dn, q, w, e, v, f, mq, mv, mf, M, rfl, rfl, hI, hS, D, hv, hf, dj, hw, hE1, hE2, hR1, hR2, hg, he0, hN, hM, hB⟩ := hA
  have hu9 := hI.2.1
  unfold cw_W at hu9
  have hro : lw_ro b L xs b = some (L, xs) := if_pos rfl
  refine hC.1 29 1339 _ _ rfl _ _ _ _ _ ?_
  refine pq_aload_n1 (pq_aload_n0 (pq_iload_n3 (pq_iconst (pq_iadd ?_))))
  intro m1 em1
  have e1 : m1.toInt = i.toInt + 1 := lx_ad1 hi hL em1
  refine pq_iaload ?_
  refine Exists.intro _ (Exists.intro _ (And.intro (Or.inr hro) (And.intro (lx_bn1 hi e1) ?_)))
  obtain ⟨a1, ha1⟩ : ∃ z9, z9 = xs m1.toInt.toNat := ⟨_, rfl⟩
  have m_a1 := em1
  rw [← ha1]
  refine pq_aload_n0 (pq_iload_n3 (pq_iconst (pq_iadd ?_)))
  intro m2 em2
  have e2 : m2.toInt = i.toInt + 2 := lx_ad2 hi hL em2
  refine pq_iaload ?_
  refine Exists.intro _ (Exists.intro _ (And.intro (Or.inr hro) (And.intro (lx_bn2 hi e2) ?_)))
  obtain ⟨a2, ha2⟩ : ∃ z9, z9 = xs m2.toInt.toNat := ⟨_, rfl⟩
  have m_a2 := em2
  rw [← ha2]
  refine pq_aload_n0 (pq_iload_n3 (pq_iconst (pq_iadd ?_)))
  intro m3 em3
  have e3 : m3.toInt = i.toInt + 3 := lx_ad3 hi hL em3
  refine pq_iaload ?_
  refine Exists.intro _ (Exists.intro _ (And.intro (Or.inr hro) (And.intro (lx_bn3 hi e3) ?_)))
  obtain ⟨a3, ha3⟩ : ∃ z9, z9 = xs m3.toInt.toNat := ⟨_, rfl⟩
  have m_a3 := em3
  rw [← ha3]
  refine pq_iv3_10 ?_
  refine And.intro (Exists.intro _ (cw_o0 hI.1)) (Exists.intro _ (Exists.intro _ (Exists.intro _ (Exists.intro _ (And.intro (c_X10_tally hI hS a1 a2 a3 ) (And.intro (lw_bnd rfl (lx_c1 hc (by decide)) (lx_c1 hs0 (by decide)) rfl) (fun r9 A9 h9 => ?_)))))))
  obtain ⟨v1355, f1355, rfl, hS1355, y1355, rfl, by1355⟩ := h9
  refine pq_id1 (pq_pop (pq_aload_n2 (pq_aload_n0 (pq_iload_n3 (pq_iconst (pq_iadd ?_))))))
  intro m4 em4
  have e4 : m4.toInt = i.toInt + 1 := lx_ad1 hi hL em4
  refine pq_iaload ?_
  refine Exists.intro _ (Exists.intro _ (And.intro (Or.inr hro) (And.intro (lx_bn1 hi e4) ?_)))
  have ha1_4 : a1 = xs m4.toInt.toNat := by rw [ha1, em4, ← m_a1]
  rw [← ha1_4]
  refine pq_aload_n0 (pq_iload_n3 (pq_iconst (pq_iadd ?_)))
  intro m5 em5
  have e5 : m5.toInt = i.toInt + 2 := lx_ad2 hi hL em5
  refine pq_iaload ?_
  refine Exists.intro _ (Exists.intro _ (And.intro (Or.inr hro) (And.intro (lx_bn2 hi e5) ?_)))
  have ha2_5 : a2 = xs m5.toInt.toNat := by rw [ha2, em5, ← m_a2]
  rw [← ha2_5]
  refine pq_aload_n0 (pq_iload_n3 (pq_iconst (pq_iadd ?_)))
  intro m6 em6
  have e6 : m6.toInt = i.toInt + 3 := lx_ad3 hi hL em6
  refine pq_iaload ?_
  refine Exists.intro _ (Exists.intro _ (And.intro (Or.inr hro) (And.intro (lx_bn3 hi e6) ?_)))
  have ha3_6 : a3 = xs m6.toInt.toNat := by rw [ha3, em6, ← m_a3]
  rw [← ha3_6]
  refine pq_iv3_11 ?_
  rw [cw_md D dj]
  refine And.intro (Exists.intro _ (md_o)) (Exists.intro _ (Exists.intro _ (Exists.intro _ (Exists.intro _ (And.intro (c_X11_tally D mv mf hv hf a1 a2 a3 ) (And.intro (lw_bnd rfl (lx_c2 hc (by decide)) (lx_c2 hs0 (by decide)) rfl) (fun r9 A9 h9 => ?_)))))))
  obtain ⟨y1375, rfl, rfl, by1375⟩ := h9
  refine pq_id1 (pq_pop (pq_goto ?_))
  clear hu9
  exact cont _ _ _ ⟨A00, K, nn, dn, q, w, e, v1355, f1355, mq, mv, mf, M, (cw_md D dj).symm, rfl, hI, hS1355, D, hv, hf, dj, fun j hj => by exact hw j hj, by omega, by omega, hR1, hR2, hg, (by omega), hN, hM, hB⟩ (by omega) (by omega)

set_option maxRecDepth 100000 in
set_option maxHeartbeats 2000000 in
theorem lx_b30 (hC : pm_Cl l g (lw_ro b L xs) 7 600000 7302250 lw_Rt bk_L_law J) {i : Int32} (hi : 0 ≤ i.toInt ∧ i.toInt + 6 ≤ L) (hL : L ≤ 3072) {E : Nat} (hE : E < 1000) {A : pm_H} {c s : Nat} (hA : LX g xo h E A) (hc : c + 4 ≤ 600000) (hs0 : s + 485 ≤ 7302250) (cont : ∀ (A' : pm_H) (c' s' : Nat), LX g xo h (E + 1) A' → c' ≤ c + 4 → s' ≤ s + 485 → J 2563 [some (.ref b), some (.ref xo), some (.ref h), some (.int i)] [] A' c' s') : J 1382 [some (.ref b), some (.ref xo), some (.ref h), some (.int i)] [] A c s := by
  obtain ⟨A00, K, nn, dn, q, w, e, v, f, mq, mv, mf, M, rfl, rfl, hI, hS, D, hv, hf, dj, hw, hE1, hE2, hR1, hR2, hg, he0, hN, hM, hB⟩ := hA
  have hu9 := hI.2.1
  unfold cw_W at hu9
  have hro : lw_ro b L xs b = some (L, xs) := if_pos rfl
  refine hC.1 30 1382 _ _ rfl _ _ _ _ _ ?_
  refine pq_aload_n1 (pq_aload_n0 (pq_iload_n3 (pq_iconst (pq_iadd ?_))))
  intro m1 em1
  have e1 : m1.toInt = i.toInt + 1 := lx_ad1 hi hL em1
  refine pq_iaload ?_
  refine Exists.intro _ (Exists.intro _ (And.intro (Or.inr hro) (And.intro (lx_bn1 hi e1) ?_)))
  obtain ⟨a1, ha1⟩ : ∃ z9, z9 = xs m1.toInt.toNat := ⟨_, rfl⟩
  have m_a1 := em1
  rw [← ha1]
  refine pq_aload_n0 (pq_iload_n3 (pq_iconst (pq_iadd ?_)))
  intro m2 em2
  have e2 : m2.toInt = i.toInt + 2 := lx_ad2 hi hL em2
  refine pq_iaload ?_
  refine Exists.intro _ (Exists.intro _ (And.intro (Or.inr hro) (And.intro (lx_bn2 hi e2) ?_)))
  obtain ⟨a2, ha2⟩ : ∃ z9, z9 = xs m2.toInt.toNat := ⟨_, rfl⟩
  have m_a2 := em2
  rw [← ha2]
  refine pq_iv2_10 ?_
  refine And.intro (Exists.intro _ (cw_o0 hI.1)) (Exists.intro _ (Exists.intro _ (Exists.intro _ (Exists.intro _ (And.intro (c_X10_major hI hS a1 a2 ) (And.intro (lw_bnd rfl (lx_c1 hc (by decide)) (lx_c1 hs0 (by decide)) rfl) (fun r9 A9 h9 => ?_)))))))
  obtain ⟨v1393, f1393, rfl, hS1393, y1393, rfl, by1393⟩ := h9
  refine pq_id1 (pq_pop (pq_aload_n2 (pq_aload_n0 (pq_iload_n3 (pq_iconst (pq_iadd ?_))))))
  intro m3 em3
  have e3 : m3.toInt = i.toInt + 1 := lx_ad1 hi hL em3
  refine pq_iaload ?_
  refine Exists.intro _ (Exists.intro _ (And.intro (Or.inr hro) (And.intro (lx_bn1 hi e3) ?_)))
  have ha1_3 : a1 = xs m3.toInt.toNat := by rw [ha1, em3, ← m_a1]
  rw [← ha1_3]
  refine pq_aload_n0 (pq_iload_n3 (pq_iconst (pq_iadd ?_)))
  intro m4 em4
  have e4 : m4.toInt = i.toInt + 2 := lx_ad2 hi hL em4
  refine pq_iaload ?_
  refine Exists.intro _ (Exists.intro _ (And.intro (Or.inr hro) (And.intro (lx_bn2 hi e4) ?_)))
  have ha2_4 : a2 = xs m4.toInt.toNat := by rw [ha2, em4, ← m_a2]
  rw [← ha2_4]
  refine pq_iv2_11 ?_
  rw [cw_md D dj]
  refine And.intro (Exists.intro _ (md_o)) (Exists.intro _ (Exists.intro _ (Exists.intro _ (Exists.intro _ (And.intro (c_X11_major D mv mf hv hf a1 a2 ) (And.intro (lw_bnd rfl (lx_c2 hc (by decide)) (lx_c2 hs0 (by decide)) rfl) (fun r9 A9 h9 => ?_)))))))
  obtain ⟨y1408, rfl, rfl, by1408⟩ := h9
  refine pq_id1 (pq_pop (pq_goto ?_))
  clear hu9
  exact cont _ _ _ ⟨A00, K, nn, dn, q, w, e, v1393, f1393, mq, mv, mf, M, (cw_md D dj).symm, rfl, hI, hS1393, D, hv, hf, dj, fun j hj => by exact hw j hj, by omega, by omega, hR1, hR2, hg, (by omega), hN, hM, hB⟩ (by omega) (by omega)

set_option maxRecDepth 100000 in
set_option maxHeartbeats 2000000 in
theorem lx_b31 (hC : pm_Cl l g (lw_ro b L xs) 7 600000 7302250 lw_Rt bk_L_law J) {i : Int32} (hi : 0 ≤ i.toInt ∧ i.toInt + 6 ≤ L) (hL : L ≤ 3072) {E : Nat} (hE : E < 1000) {A : pm_H} {c s : Nat} (hA : LX g xo h E A) (hc : c + 4 ≤ 600000) (hs0 : s + 485 ≤ 7302250) (cont : ∀ (A' : pm_H) (c' s' : Nat), LX g xo h (E + 1) A' → c' ≤ c + 4 → s' ≤ s + 485 → J 2563 [some (.ref b), some (.ref xo), some (.ref h), some (.int i)] [] A' c' s') : J 1415 [some (.ref b), some (.ref xo), some (.ref h), some (.int i)] [] A c s := by
  obtain ⟨A00, K, nn, dn, q, w, e, v, f, mq, mv, mf, M, rfl, rfl, hI, hS, D, hv, hf, dj, hw, hE1, hE2, hR1, hR2, hg, he0, hN, hM, hB⟩ := hA
  have hu9 := hI.2.1
  unfold cw_W at hu9
  have hro : lw_ro b L xs b = some (L, xs) := if_pos rfl
  refine hC.1 31 1415 _ _ rfl _ _ _ _ _ ?_
  refine pq_aload_n1 (pq_aload_n0 (pq_iload_n3 (pq_iconst (pq_iadd ?_))))
  intro m1 em1
  have e1 : m1.toInt = i.toInt + 1 := lx_ad1 hi hL em1
  refine pq_iaload ?_
  refine Exists.intro _ (Exists.intro _ (And.intro (Or.inr hro) (And.intro (lx_bn1 hi e1) ?_)))
  obtain ⟨a1, ha1⟩ : ∃ z9, z9 = xs m1.toInt.toNat := ⟨_, rfl⟩
  have m_a1 := em1
  rw [← ha1]
  refine pq_aload_n0 (pq_iload_n3 (pq_iconst (pq_iadd ?_)))
  intro m2 em2
  have e2 : m2.toInt = i.toInt + 2 := lx_ad2 hi hL em2
  refine pq_iaload ?_
  refine Exists.intro _ (Exists.intro _ (And.intro (Or.inr hro) (And.intro (lx_bn2 hi e2) ?_)))
  obtain ⟨a2, ha2⟩ : ∃ z9, z9 = xs m2.toInt.toNat := ⟨_, rfl⟩
  have m_a2 := em2
  rw [← ha2]
  refine pq_aload_n0 (pq_iload_n3 (pq_iconst (pq_iadd ?_)))
  intro m3 em3
  have e3 : m3.toInt = i.toInt + 3 := lx_ad3 hi hL em3
  refine pq_iaload ?_
  refine Exists.intro _ (Exists.intro _ (And.intro (Or.inr hro) (And.intro (lx_bn3 hi e3) ?_)))
  obtain ⟨a3, ha3⟩ : ∃ z9, z9 = xs m3.toInt.toNat := ⟨_, rfl⟩
  have m_a3 := em3
  rw [← ha3]
  refine pq_iv3_10 ?_
  refine And.intro (Exists.intro _ (cw_o0 hI.1)) (Exists.intro _ (Exists.intro _ (Exists.intro _ (Exists.intro _ (And.intro (c_X10_close hI hS a1 a2 a3 ) (And.intro (lw_bnd rfl (lx_c1 hc (by decide)) (lx_c1 hs0 (by decide)) rfl) (fun r9 A9 h9 => ?_)))))))
  obtain ⟨v1431, f1431, rfl, hS1431, y1431, rfl, by1431⟩ := h9
  refine pq_id1 (pq_pop (pq_aload_n2 (pq_aload_n0 (pq_iload_n3 (pq_iconst (pq_iadd ?_))))))
  intro m4 em4
  have e4 : m4.toInt = i.toInt + 1 := lx_ad1 hi hL em4
  refine pq_iaload ?_
  refine Exists.intro _ (Exists.intro _ (And.intro (Or.inr hro) (And.intro (lx_bn1 hi e4) ?_)))
  have ha1_4 : a1 = xs m4.toInt.toNat := by rw [ha1, em4, ← m_a1]
  rw [← ha1_4]
  refine pq_aload_n0 (pq_iload_n3 (pq_iconst (pq_iadd ?_)))
  intro m5 em5
  have e5 : m5.toInt = i.toInt + 2 := lx_ad2 hi hL em5
  refine pq_iaload ?_
  refine Exists.intro _ (Exists.intro _ (And.intro (Or.inr hro) (And.intro (lx_bn2 hi e5) ?_)))
  have ha2_5 : a2 = xs m5.toInt.toNat := by rw [ha2, em5, ← m_a2]
  rw [← ha2_5]
  refine pq_aload_n0 (pq_iload_n3 (pq_iconst (pq_iadd ?_)))
  intro m6 em6
  have e6 : m6.toInt = i.toInt + 3 := lx_ad3 hi hL em6
  refine pq_iaload ?_
  refine Exists.intro _ (Exists.intro _ (And.intro (Or.inr hro) (And.intro (lx_bn3 hi e6) ?_)))
  have ha3_6 : a3 = xs m6.toInt.toNat := by rw [ha3, em6, ← m_a3]
  rw [← ha3_6]
  refine pq_iv3_11 ?_
  rw [cw_md D dj]
  refine And.intro (Exists.intro _ (md_o)) (Exists.intro _ (Exists.intro _ (Exists.intro _ (Exists.intro _ (And.intro (c_X11_close D mv mf hv hf a1 a2 a3 ) (And.intro (lw_bnd rfl (lx_c2 hc (by decide)) (lx_c2 hs0 (by decide)) rfl) (fun r9 A9 h9 => ?_)))))))
  obtain ⟨y1451, rfl, rfl, by1451⟩ := h9
  refine pq_id1 (pq_pop (pq_goto ?_))
  clear hu9
  exact cont _ _ _ ⟨A00, K, nn, dn, q, w, e, v1431, f1431, mq, mv, mf, M, (cw_md D dj).symm, rfl, hI, hS1431, D, hv, hf, dj, fun j hj => by exact hw j hj, by omega, by omega, hR1, hR2, hg, (by omega), hN, hM, hB⟩ (by omega) (by omega)

set_option maxRecDepth 100000 in
set_option maxHeartbeats 2000000 in
theorem lx_b32 (hC : pm_Cl l g (lw_ro b L xs) 7 600000 7302250 lw_Rt bk_L_law J) {i : Int32} (hi : 0 ≤ i.toInt ∧ i.toInt + 6 ≤ L) (hL : L ≤ 3072) {E : Nat} (hE : E < 1000) {A : pm_H} {c s : Nat} (hA : LX g xo h E A) (hc : c + 4 ≤ 600000) (hs0 : s + 485 ≤ 7302250) (cont : ∀ (A' : pm_H) (c' s' : Nat), LX g xo h (E + 1) A' → c' ≤ c + 4 → s' ≤ s + 485 → J 2563 [some (.ref b), some (.ref xo), some (.ref h), some (.int i)] [] A' c' s') : J 1458 [some (.ref b), some (.ref xo), some (.ref h), some (.int i)] [] A c s := by
  obtain ⟨A00, K, nn, dn, q, w, e, v, f, mq, mv, mf, M, rfl, rfl, hI, hS, D, hv, hf, dj, hw, hE1, hE2, hR1, hR2, hg, he0, hN, hM, hB⟩ := hA
  have hu9 := hI.2.1
  unfold cw_W at hu9
  have hro : lw_ro b L xs b = some (L, xs) := if_pos rfl
  refine hC.1 32 1458 _ _ rfl _ _ _ _ _ ?_
  refine pq_aload_n1 (pq_aload_n0 (pq_iload_n3 (pq_iconst (pq_iadd ?_))))
  intro m1 em1
  have e1 : m1.toInt = i.toInt + 1 := lx_ad1 hi hL em1
  refine pq_iaload ?_
  refine Exists.intro _ (Exists.intro _ (And.intro (Or.inr hro) (And.intro (lx_bn1 hi e1) ?_)))
  obtain ⟨a1, ha1⟩ : ∃ z9, z9 = xs m1.toInt.toNat := ⟨_, rfl⟩
  have m_a1 := em1
  rw [← ha1]
  refine pq_aload_n0 (pq_iload_n3 (pq_iconst (pq_iadd ?_)))
  intro m2 em2
  have e2 : m2.toInt = i.toInt + 2 := lx_ad2 hi hL em2
  refine pq_iaload ?_
  refine Exists.intro _ (Exists.intro _ (And.intro (Or.inr hro) (And.intro (lx_bn2 hi e2) ?_)))
  obtain ⟨a2, ha2⟩ : ∃ z9, z9 = xs m2.toInt.toNat := ⟨_, rfl⟩
  have m_a2 := em2
  rw [← ha2]
  refine pq_iv2_10 ?_
  refine And.intro (Exists.intro _ (cw_o0 hI.1)) (Exists.intro _ (Exists.intro _ (Exists.intro _ (Exists.intro _ (And.intro (c_X10_sides hI hS a1 a2 ) (And.intro (lw_bnd rfl (lx_c1 hc (by decide)) (lx_c1 hs0 (by decide)) rfl) (fun r9 A9 h9 => ?_)))))))
  obtain ⟨v1469, f1469, rfl, hS1469, y1469, rfl, by1469⟩ := h9
  refine pq_id1 (pq_pop (pq_aload_n2 (pq_aload_n0 (pq_iload_n3 (pq_iconst (pq_iadd ?_))))))
  intro m3 em3
  have e3 : m3.toInt = i.toInt + 1 := lx_ad1 hi hL em3
  refine pq_iaload ?_
  refine Exists.intro _ (Exists.intro _ (And.intro (Or.inr hro) (And.intro (lx_bn1 hi e3) ?_)))
  have ha1_3 : a1 = xs m3.toInt.toNat := by rw [ha1, em3, ← m_a1]
  rw [← ha1_3]
  refine pq_aload_n0 (pq_iload_n3 (pq_iconst (pq_iadd ?_)))
  intro m4 em4
  have e4 : m4.toInt = i.toInt + 2 := lx_ad2 hi hL em4
  refine pq_iaload ?_
  refine Exists.intro _ (Exists.intro _ (And.intro (Or.inr hro) (And.intro (lx_bn2 hi e4) ?_)))
  have ha2_4 : a2 = xs m4.toInt.toNat := by rw [ha2, em4, ← m_a2]
  rw [← ha2_4]
  refine pq_iv2_11 ?_
  rw [cw_md D dj]
  refine And.intro (Exists.intro _ (md_o)) (Exists.intro _ (Exists.intro _ (Exists.intro _ (Exists.intro _ (And.intro (c_X11_sides D mv mf hv hf a1 a2 ) (And.intro (lw_bnd rfl (lx_c2 hc (by decide)) (lx_c2 hs0 (by decide)) rfl) (fun r9 A9 h9 => ?_)))))))
  obtain ⟨y1484, rfl, rfl, by1484⟩ := h9
  refine pq_id1 (pq_pop (pq_goto ?_))
  clear hu9
  exact cont _ _ _ ⟨A00, K, nn, dn, q, w, e, v1469, f1469, mq, mv, mf, M, (cw_md D dj).symm, rfl, hI, hS1469, D, hv, hf, dj, fun j hj => by exact hw j hj, by omega, by omega, hR1, hR2, hg, (by omega), hN, hM, hB⟩ (by omega) (by omega)

set_option maxRecDepth 100000 in
set_option maxHeartbeats 2000000 in
theorem lx_b33 (hC : pm_Cl l g (lw_ro b L xs) 7 600000 7302250 lw_Rt bk_L_law J) {i : Int32} (hi : 0 ≤ i.toInt ∧ i.toInt + 6 ≤ L) (hL : L ≤ 3072) {E : Nat} (hE : E < 1000) {A : pm_H} {c s : Nat} (hA : LX g xo h E A) (hc : c + 4 ≤ 600000) (hs0 : s + 485 ≤ 7302250) (cont : ∀ (A' : pm_H) (c' s' : Nat), LX g xo h (E + 1) A' → c' ≤ c + 4 → s' ≤ s + 485 → J 2563 [some (.ref b), some (.ref xo), some (.ref h), some (.int i)] [] A' c' s') : J 1491 [some (.ref b), some (.ref xo), some (.ref h), some (.int i)] [] A c s := by
  obtain ⟨A00, K, nn, dn, q, w, e, v, f, mq, mv, mf, M, rfl, rfl, hI, hS, D, hv, hf, dj, hw, hE1, hE2, hR1, hR2, hg, he0, hN, hM, hB⟩ := hA
  have hu9 := hI.2.1
  unfold cw_W at hu9
  have hro : lw_ro b L xs b = some (L, xs) := if_pos rfl
  refine hC.1 33 1491 _ _ rfl _ _ _ _ _ ?_
  refine pq_aload_n1 (pq_aload_n0 (pq_iload_n3 (pq_iconst (pq_iadd ?_))))
  intro m1 em1
  have e1 : m1.toInt = i.toInt + 1 := lx_ad1 hi hL em1
  refine pq_iaload ?_
  refine Exists.intro _ (Exists.intro _ (And.intro (Or.inr hro) (And.intro (lx_bn1 hi e1) ?_)))
  obtain ⟨a1, ha1⟩ : ∃ z9, z9 = xs m1.toInt.toNat := ⟨_, rfl⟩
  have m_a1 := em1
  rw [← ha1]
  refine pq_aload_n0 (pq_iload_n3 (pq_iconst (pq_iadd ?_)))
  intro m2 em2
  have e2 : m2.toInt = i.toInt + 2 := lx_ad2 hi hL em2
  refine pq_iaload ?_
  refine Exists.intro _ (Exists.intro _ (And.intro (Or.inr hro) (And.intro (lx_bn2 hi e2) ?_)))
  obtain ⟨a2, ha2⟩ : ∃ z9, z9 = xs m2.toInt.toNat := ⟨_, rfl⟩
  have m_a2 := em2
  rw [← ha2]
  refine pq_iv2_10 ?_
  refine And.intro (Exists.intro _ (cw_o0 hI.1)) (Exists.intro _ (Exists.intro _ (Exists.intro _ (Exists.intro _ (And.intro (c_X10_cover hI hS a1 a2 ) (And.intro (lw_bnd rfl (lx_c1 hc (by decide)) (lx_c1 hs0 (by decide)) rfl) (fun r9 A9 h9 => ?_)))))))
  obtain ⟨v1502, f1502, rfl, hS1502, y1502, rfl, by1502⟩ := h9
  refine pq_id1 (pq_pop (pq_aload_n2 (pq_aload_n0 (pq_iload_n3 (pq_iconst (pq_iadd ?_))))))
  intro m3 em3
  have e3 : m3.toInt = i.toInt + 1 := lx_ad1 hi hL em3
  refine pq_iaload ?_
  refine Exists.intro _ (Exists.intro _ (And.intro (Or.inr hro) (And.intro (lx_bn1 hi e3) ?_)))
  have ha1_3 : a1 = xs m3.toInt.toNat := by rw [ha1, em3, ← m_a1]
  rw [← ha1_3]
  refine pq_aload_n0 (pq_iload_n3 (pq_iconst (pq_iadd ?_)))
  intro m4 em4
  have e4 : m4.toInt = i.toInt + 2 := lx_ad2 hi hL em4
  refine pq_iaload ?_
  refine Exists.intro _ (Exists.intro _ (And.intro (Or.inr hro) (And.intro (lx_bn2 hi e4) ?_)))
  have ha2_4 : a2 = xs m4.toInt.toNat := by rw [ha2, em4, ← m_a2]
  rw [← ha2_4]
  refine pq_iv2_11 ?_
  rw [cw_md D dj]
  refine And.intro (Exists.intro _ (md_o)) (Exists.intro _ (Exists.intro _ (Exists.intro _ (Exists.intro _ (And.intro (c_X11_cover D mv mf hv hf a1 a2 ) (And.intro (lw_bnd rfl (lx_c2 hc (by decide)) (lx_c2 hs0 (by decide)) rfl) (fun r9 A9 h9 => ?_)))))))
  obtain ⟨y1517, rfl, rfl, by1517⟩ := h9
  refine pq_id1 (pq_pop (pq_goto ?_))
  clear hu9
  exact cont _ _ _ ⟨A00, K, nn, dn, q, w, e, v1502, f1502, mq, mv, mf, M, (cw_md D dj).symm, rfl, hI, hS1502, D, hv, hf, dj, fun j hj => by exact hw j hj, by omega, by omega, hR1, hR2, hg, (by omega), hN, hM, hB⟩ (by omega) (by omega)

set_option maxRecDepth 100000 in
set_option maxHeartbeats 2000000 in
theorem lx_b34 (hC : pm_Cl l g (lw_ro b L xs) 7 600000 7302250 lw_Rt bk_L_law J) {i : Int32} (hi : 0 ≤ i.toInt ∧ i.toInt + 6 ≤ L) (hL : L ≤ 3072) {E : Nat} (hE : E < 1000) {A : pm_H} {c s : Nat} (hA : LX g xo h E A) (hc : c + 4 ≤ 600000) (hs0 : s + 485 ≤ 7302250) (cont : ∀ (A' : pm_H) (c' s' : Nat), LX g xo h (E + 1) A' → c' ≤ c + 4 → s' ≤ s + 485 → J 2563 [some (.ref b), some (.ref xo), some (.ref h), some (.int i)] [] A' c' s') : J 1524 [some (.ref b), some (.ref xo), some (.ref h), some (.int i)] [] A c s := by
  obtain ⟨A00, K, nn, dn, q, w, e, v, f, mq, mv, mf, M, rfl, rfl, hI, hS, D, hv, hf, dj, hw, hE1, hE2, hR1, hR2, hg, he0, hN, hM, hB⟩ := hA
  have hu9 := hI.2.1
  unfold cw_W at hu9
  have hro : lw_ro b L xs b = some (L, xs) := if_pos rfl
  refine hC.1 34 1524 _ _ rfl _ _ _ _ _ ?_
  refine pq_aload_n1 (pq_aload_n0 (pq_iload_n3 (pq_iconst (pq_iadd ?_))))
  intro m1 em1
  have e1 : m1.toInt = i.toInt + 1 := lx_ad1 hi hL em1
  refine pq_iaload ?_
  refine Exists.intro _ (Exists.intro _ (And.intro (Or.inr hro) (And.intro (lx_bn1 hi e1) ?_)))
  obtain ⟨a1, ha1⟩ : ∃ z9, z9 = xs m1.toInt.toNat := ⟨_, rfl⟩
  have m_a1 := em1
  rw [← ha1]
  refine pq_aload_n0 (pq_iload_n3 (pq_iconst (pq_iadd ?_)))
  intro m2 em2
  have e2 : m2.toInt = i.toInt + 2 := lx_ad2 hi hL em2
  refine pq_iaload ?_
  refine Exists.intro _ (Exists.intro _ (And.intro (Or.inr hro) (And.intro (lx_bn2 hi e2) ?_)))
  obtain ⟨a2, ha2⟩ : ∃ z9, z9 = xs m2.toInt.toNat := ⟨_, rfl⟩
  have m_a2 := em2
  rw [← ha2]
  refine pq_aload_n0 (pq_iload_n3 (pq_iconst (pq_iadd ?_)))
  intro m3 em3
  have e3 : m3.toInt = i.toInt + 3 := lx_ad3 hi hL em3
  refine pq_iaload ?_
  refine Exists.intro _ (Exists.intro _ (And.intro (Or.inr hro) (And.intro (lx_bn3 hi e3) ?_)))
  obtain ⟨a3, ha3⟩ : ∃ z9, z9 = xs m3.toInt.toNat := ⟨_, rfl⟩
  have m_a3 := em3
  rw [← ha3]
  refine pq_iv3_10 ?_
  refine And.intro (Exists.intro _ (cw_o0 hI.1)) (Exists.intro _ (Exists.intro _ (Exists.intro _ (Exists.intro _ (And.intro (c_X10_least hI hS a1 a2 a3 ) (And.intro (lw_bnd rfl (lx_c1 hc (by decide)) (lx_c1 hs0 (by decide)) rfl) (fun r9 A9 h9 => ?_)))))))
  obtain ⟨v1540, f1540, rfl, hS1540, y1540, rfl, by1540⟩ := h9
  refine pq_id1 (pq_pop (pq_aload_n2 (pq_aload_n0 (pq_iload_n3 (pq_iconst (pq_iadd ?_))))))
  intro m4 em4
  have e4 : m4.toInt = i.toInt + 1 := lx_ad1 hi hL em4
  refine pq_iaload ?_
  refine Exists.intro _ (Exists.intro _ (And.intro (Or.inr hro) (And.intro (lx_bn1 hi e4) ?_)))
  have ha1_4 : a1 = xs m4.toInt.toNat := by rw [ha1, em4, ← m_a1]
  rw [← ha1_4]
  refine pq_aload_n0 (pq_iload_n3 (pq_iconst (pq_iadd ?_)))
  intro m5 em5
  have e5 : m5.toInt = i.toInt + 2 := lx_ad2 hi hL em5
  refine pq_iaload ?_
  refine Exists.intro _ (Exists.intro _ (And.intro (Or.inr hro) (And.intro (lx_bn2 hi e5) ?_)))
  have ha2_5 : a2 = xs m5.toInt.toNat := by rw [ha2, em5, ← m_a2]
  rw [← ha2_5]
  refine pq_aload_n0 (pq_iload_n3 (pq_iconst (pq_iadd ?_)))
  intro m6 em6
  have e6 : m6.toInt = i.toInt + 3 := lx_ad3 hi hL em6
  refine pq_iaload ?_
  refine Exists.intro _ (Exists.intro _ (And.intro (Or.inr hro) (And.intro (lx_bn3 hi e6) ?_)))
  have ha3_6 : a3 = xs m6.toInt.toNat := by rw [ha3, em6, ← m_a3]
  rw [← ha3_6]
  refine pq_iv3_11 ?_
  rw [cw_md D dj]
  refine And.intro (Exists.intro _ (md_o)) (Exists.intro _ (Exists.intro _ (Exists.intro _ (Exists.intro _ (And.intro (F_X11_least D mv mf hv hf a1 a2 a3 ) (And.intro (lw_bnd rfl (lx_c2 hc (by decide)) (lx_c2 hs0 (by decide)) rfl) (fun r9 A9 h9 => ?_)))))))
  obtain ⟨y1560, mv1560, mf1560, rfl, rfl, hv1560, hf1560, hx1560, hg1560_0, hg1560_1, by1560⟩ := h9
  refine pq_id1 (pq_pop (pq_goto ?_))
  exact cont _ _ _ ⟨A00, K, nn, dn, q, w, e, v1540, f1540, mq, mv1560, mf1560, M, (cw_md D dj).symm, rfl, hI, hS1540, D, hv1560, hf1560, dj, fun j hj => by rw [hx1560]; exact hw j hj, by omega, by omega, hR1, (rp_fr hR2 (by omega) hg1560_0 hg1560_1), (pm_eqI (by have q9 := congrArg Int32.toInt hg; omega)), (by omega), hN, hM, hB⟩ (by omega) (by omega)

set_option maxRecDepth 100000 in
set_option maxHeartbeats 2000000 in
theorem lx_b35 (hC : pm_Cl l g (lw_ro b L xs) 7 600000 7302250 lw_Rt bk_L_law J) {i : Int32} (hi : 0 ≤ i.toInt ∧ i.toInt + 6 ≤ L) (hL : L ≤ 3072) {E : Nat} (hE : E < 1000) {A : pm_H} {c s : Nat} (hA : LX g xo h E A) (hc : c + 4 ≤ 600000) (hs0 : s + 485 ≤ 7302250) (cont : ∀ (A' : pm_H) (c' s' : Nat), LX g xo h (E + 1) A' → c' ≤ c + 4 → s' ≤ s + 485 → J 2563 [some (.ref b), some (.ref xo), some (.ref h), some (.int i)] [] A' c' s') : J 1567 [some (.ref b), some (.ref xo), some (.ref h), some (.int i)] [] A c s := by
  obtain ⟨A00, K, nn, dn, q, w, e, v, f, mq, mv, mf, M, rfl, rfl, hI, hS, D, hv, hf, dj, hw, hE1, hE2, hR1, hR2, hg, he0, hN, hM, hB⟩ := hA
  have hu9 := hI.2.1
  unfold cw_W at hu9
  have hro : lw_ro b L xs b = some (L, xs) := if_pos rfl
  refine hC.1 35 1567 _ _ rfl _ _ _ _ _ ?_
  refine pq_aload_n1 (pq_aload_n0 (pq_iload_n3 (pq_iconst (pq_iadd ?_))))
  intro m1 em1
  have e1 : m1.toInt = i.toInt + 1 := lx_ad1 hi hL em1
  refine pq_iaload ?_
  refine Exists.intro _ (Exists.intro _ (And.intro (Or.inr hro) (And.intro (lx_bn1 hi e1) ?_)))
  obtain ⟨a1, ha1⟩ : ∃ z9, z9 = xs m1.toInt.toNat := ⟨_, rfl⟩
  have m_a1 := em1
  rw [← ha1]
  refine pq_aload_n0 (pq_iload_n3 (pq_iconst (pq_iadd ?_)))
  intro m2 em2
  have e2 : m2.toInt = i.toInt + 2 := lx_ad2 hi hL em2
  refine pq_iaload ?_
  refine Exists.intro _ (Exists.intro _ (And.intro (Or.inr hro) (And.intro (lx_bn2 hi e2) ?_)))
  obtain ⟨a2, ha2⟩ : ∃ z9, z9 = xs m2.toInt.toNat := ⟨_, rfl⟩
  have m_a2 := em2
  rw [← ha2]
  refine pq_aload_n0 (pq_iload_n3 (pq_iconst (pq_iadd ?_)))
  intro m3 em3
  have e3 : m3.toInt = i.toInt + 3 := lx_ad3 hi hL em3
  refine pq_iaload ?_
  refine Exists.intro _ (Exists.intro _ (And.intro (Or.inr hro) (And.intro (lx_bn3 hi e3) ?_)))
  obtain ⟨a3, ha3⟩ : ∃ z9, z9 = xs m3.toInt.toNat := ⟨_, rfl⟩
  have m_a3 := em3
  rw [← ha3]
  refine pq_iv3_10 ?_
  refine And.intro (Exists.intro _ (cw_o0 hI.1)) (Exists.intro _ (Exists.intro _ (Exists.intro _ (Exists.intro _ (And.intro (c_X10_fair hI hS a1 a2 a3 ) (And.intro (lw_bnd rfl (lx_c1 hc (by decide)) (lx_c1 hs0 (by decide)) rfl) (fun r9 A9 h9 => ?_)))))))
  obtain ⟨v1583, f1583, rfl, hS1583, y1583, rfl, by1583⟩ := h9
  refine pq_id1 (pq_pop (pq_aload_n2 (pq_aload_n0 (pq_iload_n3 (pq_iconst (pq_iadd ?_))))))
  intro m4 em4
  have e4 : m4.toInt = i.toInt + 1 := lx_ad1 hi hL em4
  refine pq_iaload ?_
  refine Exists.intro _ (Exists.intro _ (And.intro (Or.inr hro) (And.intro (lx_bn1 hi e4) ?_)))
  have ha1_4 : a1 = xs m4.toInt.toNat := by rw [ha1, em4, ← m_a1]
  rw [← ha1_4]
  refine pq_aload_n0 (pq_iload_n3 (pq_iconst (pq_iadd ?_)))
  intro m5 em5
  have e5 : m5.toInt = i.toInt + 2 := lx_ad2 hi hL em5
  refine pq_iaload ?_
  refine Exists.intro _ (Exists.intro _ (And.intro (Or.inr hro) (And.intro (lx_bn2 hi e5) ?_)))
  have ha2_5 : a2 = xs m5.toInt.toNat := by rw [ha2, em5, ← m_a2]
  rw [← ha2_5]
  refine pq_aload_n0 (pq_iload_n3 (pq_iconst (pq_iadd ?_)))
  intro m6 em6
  have e6 : m6.toInt = i.toInt + 3 := lx_ad3 hi hL em6
  refine pq_iaload ?_
  refine Exists.intro _ (Exists.intro _ (And.intro (Or.inr hro) (And.intro (lx_bn3 hi e6) ?_)))
  have ha3_6 : a3 = xs m6.toInt.toNat := by rw [ha3, em6, ← m_a3]
  rw [← ha3_6]
  refine pq_iv3_11 ?_
  rw [cw_md D dj]
  refine And.intro (Exists.intro _ (md_o)) (Exists.intro _ (Exists.intro _ (Exists.intro _ (Exists.intro _ (And.intro (c_X11_fair D mv mf hv hf a1 a2 a3 ) (And.intro (lw_bnd rfl (lx_c2 hc (by decide)) (lx_c2 hs0 (by decide)) rfl) (fun r9 A9 h9 => ?_)))))))
  obtain ⟨y1603, rfl, rfl, by1603⟩ := h9
  refine pq_id1 (pq_pop (pq_goto ?_))
  clear hu9
  exact cont _ _ _ ⟨A00, K, nn, dn, q, w, e, v1583, f1583, mq, mv, mf, M, (cw_md D dj).symm, rfl, hI, hS1583, D, hv, hf, dj, fun j hj => by exact hw j hj, by omega, by omega, hR1, hR2, hg, (by omega), hN, hM, hB⟩ (by omega) (by omega)

set_option maxRecDepth 100000 in
set_option maxHeartbeats 2000000 in
theorem lx_b36 (hC : pm_Cl l g (lw_ro b L xs) 7 600000 7302250 lw_Rt bk_L_law J) {i : Int32} (hi : 0 ≤ i.toInt ∧ i.toInt + 6 ≤ L) (hL : L ≤ 3072) {E : Nat} (hE : E < 1000) {A : pm_H} {c s : Nat} (hA : LX g xo h E A) (hc : c + 4 ≤ 600000) (hs0 : s + 485 ≤ 7302250) (cont : ∀ (A' : pm_H) (c' s' : Nat), LX g xo h (E + 1) A' → c' ≤ c + 4 → s' ≤ s + 485 → J 2563 [some (.ref b), some (.ref xo), some (.ref h), some (.int i)] [] A' c' s') : J 1610 [some (.ref b), some (.ref xo), some (.ref h), some (.int i)] [] A c s := by
  obtain ⟨A00, K, nn, dn, q, w, e, v, f, mq, mv, mf, M, rfl, rfl, hI, hS, D, hv, hf, dj, hw, hE1, hE2, hR1, hR2, hg, he0, hN, hM, hB⟩ := hA
  have hu9 := hI.2.1
  unfold cw_W at hu9
  have hro : lw_ro b L xs b = some (L, xs) := if_pos rfl
  refine hC.1 36 1610 _ _ rfl _ _ _ _ _ ?_
  refine pq_aload_n1 (pq_aload_n0 (pq_iload_n3 (pq_iconst (pq_iadd ?_))))
  intro m1 em1
  have e1 : m1.toInt = i.toInt + 1 := lx_ad1 hi hL em1
  refine pq_iaload ?_
  refine Exists.intro _ (Exists.intro _ (And.intro (Or.inr hro) (And.intro (lx_bn1 hi e1) ?_)))
  obtain ⟨a1, ha1⟩ : ∃ z9, z9 = xs m1.toInt.toNat := ⟨_, rfl⟩
  have m_a1 := em1
  rw [← ha1]
  refine pq_aload_n0 (pq_iload_n3 (pq_iconst (pq_iadd ?_)))
  intro m2 em2
  have e2 : m2.toInt = i.toInt + 2 := lx_ad2 hi hL em2
  refine pq_iaload ?_
  refine Exists.intro _ (Exists.intro _ (And.intro (Or.inr hro) (And.intro (lx_bn2 hi e2) ?_)))
  obtain ⟨a2, ha2⟩ : ∃ z9, z9 = xs m2.toInt.toNat := ⟨_, rfl⟩
  have m_a2 := em2
  rw [← ha2]
  refine pq_iv2_10 ?_
  refine And.intro (Exists.intro _ (cw_o0 hI.1)) (Exists.intro _ (Exists.intro _ (Exists.intro _ (Exists.intro _ (And.intro (c_X10_alike hI hS a1 a2 ) (And.intro (lw_bnd rfl (lx_c1 hc (by decide)) (lx_c1 hs0 (by decide)) rfl) (fun r9 A9 h9 => ?_)))))))
  obtain ⟨v1621, f1621, rfl, hS1621, y1621, rfl, by1621⟩ := h9
  refine pq_id1 (pq_pop (pq_aload_n2 (pq_aload_n0 (pq_iload_n3 (pq_iconst (pq_iadd ?_))))))
  intro m3 em3
  have e3 : m3.toInt = i.toInt + 1 := lx_ad1 hi hL em3
  refine pq_iaload ?_
  refine Exists.intro _ (Exists.intro _ (And.intro (Or.inr hro) (And.intro (lx_bn1 hi e3) ?_)))
  have ha1_3 : a1 = xs m3.toInt.toNat := by rw [ha1, em3, ← m_a1]
  rw [← ha1_3]
  refine pq_aload_n0 (pq_iload_n3 (pq_iconst (pq_iadd ?_)))
  intro m4 em4
  have e4 : m4.toInt = i.toInt + 2 := lx_ad2 hi hL em4
  refine pq_iaload ?_
  refine Exists.intro _ (Exists.intro _ (And.intro (Or.inr hro) (And.intro (lx_bn2 hi e4) ?_)))
  have ha2_4 : a2 = xs m4.toInt.toNat := by rw [ha2, em4, ← m_a2]
  rw [← ha2_4]
  refine pq_iv2_11 ?_
  rw [cw_md D dj]
  refine And.intro (Exists.intro _ (md_o)) (Exists.intro _ (Exists.intro _ (Exists.intro _ (Exists.intro _ (And.intro (c_X11_alike D mv mf hv hf a1 a2 ) (And.intro (lw_bnd rfl (lx_c2 hc (by decide)) (lx_c2 hs0 (by decide)) rfl) (fun r9 A9 h9 => ?_)))))))
  obtain ⟨y1636, rfl, rfl, by1636⟩ := h9
  refine pq_id1 (pq_pop (pq_goto ?_))
  clear hu9
  exact cont _ _ _ ⟨A00, K, nn, dn, q, w, e, v1621, f1621, mq, mv, mf, M, (cw_md D dj).symm, rfl, hI, hS1621, D, hv, hf, dj, fun j hj => by exact hw j hj, by omega, by omega, hR1, hR2, hg, (by omega), hN, hM, hB⟩ (by omega) (by omega)

set_option maxRecDepth 100000 in
set_option maxHeartbeats 2000000 in
theorem lx_b37 (hC : pm_Cl l g (lw_ro b L xs) 7 600000 7302250 lw_Rt bk_L_law J) {i : Int32} (hi : 0 ≤ i.toInt ∧ i.toInt + 6 ≤ L) (hL : L ≤ 3072) {E : Nat} (hE : E < 1000) {A : pm_H} {c s : Nat} (hA : LX g xo h E A) (hc : c + 4 ≤ 600000) (hs0 : s + 485 ≤ 7302250) (cont : ∀ (A' : pm_H) (c' s' : Nat), LX g xo h (E + 1) A' → c' ≤ c + 4 → s' ≤ s + 485 → J 2563 [some (.ref b), some (.ref xo), some (.ref h), some (.int i)] [] A' c' s') : J 1643 [some (.ref b), some (.ref xo), some (.ref h), some (.int i)] [] A c s := by
  obtain ⟨A00, K, nn, dn, q, w, e, v, f, mq, mv, mf, M, rfl, rfl, hI, hS, D, hv, hf, dj, hw, hE1, hE2, hR1, hR2, hg, he0, hN, hM, hB⟩ := hA
  have hu9 := hI.2.1
  unfold cw_W at hu9
  have hro : lw_ro b L xs b = some (L, xs) := if_pos rfl
  refine hC.1 37 1643 _ _ rfl _ _ _ _ _ ?_
  refine pq_aload_n1 (pq_aload_n0 (pq_iload_n3 (pq_iconst (pq_iadd ?_))))
  intro m1 em1
  have e1 : m1.toInt = i.toInt + 1 := lx_ad1 hi hL em1
  refine pq_iaload ?_
  refine Exists.intro _ (Exists.intro _ (And.intro (Or.inr hro) (And.intro (lx_bn1 hi e1) ?_)))
  obtain ⟨a1, ha1⟩ : ∃ z9, z9 = xs m1.toInt.toNat := ⟨_, rfl⟩
  have m_a1 := em1
  rw [← ha1]
  refine pq_aload_n0 (pq_iload_n3 (pq_iconst (pq_iadd ?_)))
  intro m2 em2
  have e2 : m2.toInt = i.toInt + 2 := lx_ad2 hi hL em2
  refine pq_iaload ?_
  refine Exists.intro _ (Exists.intro _ (And.intro (Or.inr hro) (And.intro (lx_bn2 hi e2) ?_)))
  obtain ⟨a2, ha2⟩ : ∃ z9, z9 = xs m2.toInt.toNat := ⟨_, rfl⟩
  have m_a2 := em2
  rw [← ha2]
  refine pq_iv2_10 ?_
  refine And.intro (Exists.intro _ (cw_o0 hI.1)) (Exists.intro _ (Exists.intro _ (Exists.intro _ (Exists.intro _ (And.intro (c_X10_even hI hS a1 a2 ) (And.intro (lw_bnd rfl (lx_c1 hc (by decide)) (lx_c1 hs0 (by decide)) rfl) (fun r9 A9 h9 => ?_)))))))
  obtain ⟨v1654, f1654, rfl, hS1654, y1654, rfl, by1654⟩ := h9
  refine pq_id1 (pq_pop (pq_aload_n2 (pq_aload_n0 (pq_iload_n3 (pq_iconst (pq_iadd ?_))))))
  intro m3 em3
  have e3 : m3.toInt = i.toInt + 1 := lx_ad1 hi hL em3
  refine pq_iaload ?_
  refine Exists.intro _ (Exists.intro _ (And.intro (Or.inr hro) (And.intro (lx_bn1 hi e3) ?_)))
  have ha1_3 : a1 = xs m3.toInt.toNat := by rw [ha1, em3, ← m_a1]
  rw [← ha1_3]
  refine pq_aload_n0 (pq_iload_n3 (pq_iconst (pq_iadd ?_)))
  intro m4 em4
  have e4 : m4.toInt = i.toInt + 2 := lx_ad2 hi hL em4
  refine pq_iaload ?_
  refine Exists.intro _ (Exists.intro _ (And.intro (Or.inr hro) (And.intro (lx_bn2 hi e4) ?_)))
  have ha2_4 : a2 = xs m4.toInt.toNat := by rw [ha2, em4, ← m_a2]
  rw [← ha2_4]
  refine pq_iv2_11 ?_
  rw [cw_md D dj]
  refine And.intro (Exists.intro _ (md_o)) (Exists.intro _ (Exists.intro _ (Exists.intro _ (Exists.intro _ (And.intro (c_X11_even D mv mf hv hf a1 a2 ) (And.intro (lw_bnd rfl (lx_c2 hc (by decide)) (lx_c2 hs0 (by decide)) rfl) (fun r9 A9 h9 => ?_)))))))
  obtain ⟨y1669, rfl, rfl, by1669⟩ := h9
  refine pq_id1 (pq_pop (pq_goto ?_))
  clear hu9
  exact cont _ _ _ ⟨A00, K, nn, dn, q, w, e, v1654, f1654, mq, mv, mf, M, (cw_md D dj).symm, rfl, hI, hS1654, D, hv, hf, dj, fun j hj => by exact hw j hj, by omega, by omega, hR1, hR2, hg, (by omega), hN, hM, hB⟩ (by omega) (by omega)

set_option maxRecDepth 100000 in
set_option maxHeartbeats 2000000 in
theorem lx_b38 (hC : pm_Cl l g (lw_ro b L xs) 7 600000 7302250 lw_Rt bk_L_law J) {i : Int32} (hi : 0 ≤ i.toInt ∧ i.toInt + 6 ≤ L) (hL : L ≤ 3072) {E : Nat} (hE : E < 1000) {A : pm_H} {c s : Nat} (hA : LX g xo h E A) (hc : c + 4 ≤ 600000) (hs0 : s + 485 ≤ 7302250) (cont : ∀ (A' : pm_H) (c' s' : Nat), LX g xo h (E + 1) A' → c' ≤ c + 4 → s' ≤ s + 485 → J 2563 [some (.ref b), some (.ref xo), some (.ref h), some (.int i)] [] A' c' s') : J 1676 [some (.ref b), some (.ref xo), some (.ref h), some (.int i)] [] A c s := by
  obtain ⟨A00, K, nn, dn, q, w, e, v, f, mq, mv, mf, M, rfl, rfl, hI, hS, D, hv, hf, dj, hw, hE1, hE2, hR1, hR2, hg, he0, hN, hM, hB⟩ := hA
  have hu9 := hI.2.1
  unfold cw_W at hu9
  have hro : lw_ro b L xs b = some (L, xs) := if_pos rfl
  refine hC.1 38 1676 _ _ rfl _ _ _ _ _ ?_
  refine pq_aload_n1 (pq_aload_n0 (pq_iload_n3 (pq_iconst (pq_iadd ?_))))
  intro m1 em1
  have e1 : m1.toInt = i.toInt + 1 := lx_ad1 hi hL em1
  refine pq_iaload ?_
  refine Exists.intro _ (Exists.intro _ (And.intro (Or.inr hro) (And.intro (lx_bn1 hi e1) ?_)))
  obtain ⟨a1, ha1⟩ : ∃ z9, z9 = xs m1.toInt.toNat := ⟨_, rfl⟩
  have m_a1 := em1
  rw [← ha1]
  refine pq_aload_n0 (pq_iload_n3 (pq_iconst (pq_iadd ?_)))
  intro m2 em2
  have e2 : m2.toInt = i.toInt + 2 := lx_ad2 hi hL em2
  refine pq_iaload ?_
  refine Exists.intro _ (Exists.intro _ (And.intro (Or.inr hro) (And.intro (lx_bn2 hi e2) ?_)))
  obtain ⟨a2, ha2⟩ : ∃ z9, z9 = xs m2.toInt.toNat := ⟨_, rfl⟩
  have m_a2 := em2
  rw [← ha2]
  refine pq_aload_n0 (pq_iload_n3 (pq_iconst (pq_iadd ?_)))
  intro m3 em3
  have e3 : m3.toInt = i.toInt + 3 := lx_ad3 hi hL em3
  refine pq_iaload ?_
  refine Exists.intro _ (Exists.intro _ (And.intro (Or.inr hro) (And.intro (lx_bn3 hi e3) ?_)))
  obtain ⟨a3, ha3⟩ : ∃ z9, z9 = xs m3.toInt.toNat := ⟨_, rfl⟩
  have m_a3 := em3
  rw [← ha3]
  refine pq_iv3_10 ?_
  refine And.intro (Exists.intro _ (cw_o0 hI.1)) (Exists.intro _ (Exists.intro _ (Exists.intro _ (Exists.intro _ (And.intro (c_X10_apart hI hS a1 a2 a3 ) (And.intro (lw_bnd rfl (lx_c1 hc (by decide)) (lx_c1 hs0 (by decide)) rfl) (fun r9 A9 h9 => ?_)))))))
  obtain ⟨v1692, f1692, rfl, hS1692, y1692, rfl, by1692⟩ := h9
  refine pq_id1 (pq_pop (pq_aload_n2 (pq_aload_n0 (pq_iload_n3 (pq_iconst (pq_iadd ?_))))))
  intro m4 em4
  have e4 : m4.toInt = i.toInt + 1 := lx_ad1 hi hL em4
  refine pq_iaload ?_
  refine Exists.intro _ (Exists.intro _ (And.intro (Or.inr hro) (And.intro (lx_bn1 hi e4) ?_)))
  have ha1_4 : a1 = xs m4.toInt.toNat := by rw [ha1, em4, ← m_a1]
  rw [← ha1_4]
  refine pq_aload_n0 (pq_iload_n3 (pq_iconst (pq_iadd ?_)))
  intro m5 em5
  have e5 : m5.toInt = i.toInt + 2 := lx_ad2 hi hL em5
  refine pq_iaload ?_
  refine Exists.intro _ (Exists.intro _ (And.intro (Or.inr hro) (And.intro (lx_bn2 hi e5) ?_)))
  have ha2_5 : a2 = xs m5.toInt.toNat := by rw [ha2, em5, ← m_a2]
  rw [← ha2_5]
  refine pq_aload_n0 (pq_iload_n3 (pq_iconst (pq_iadd ?_)))
  intro m6 em6
  have e6 : m6.toInt = i.toInt + 3 := lx_ad3 hi hL em6
  refine pq_iaload ?_
  refine Exists.intro _ (Exists.intro _ (And.intro (Or.inr hro) (And.intro (lx_bn3 hi e6) ?_)))
  have ha3_6 : a3 = xs m6.toInt.toNat := by rw [ha3, em6, ← m_a3]
  rw [← ha3_6]
  refine pq_iv3_11 ?_
  rw [cw_md D dj]
  refine And.intro (Exists.intro _ (md_o)) (Exists.intro _ (Exists.intro _ (Exists.intro _ (Exists.intro _ (And.intro (c_X11_apart D mv mf hv hf a1 a2 a3 ) (And.intro (lw_bnd rfl (lx_c2 hc (by decide)) (lx_c2 hs0 (by decide)) rfl) (fun r9 A9 h9 => ?_)))))))
  obtain ⟨y1712, rfl, rfl, by1712⟩ := h9
  refine pq_id1 (pq_pop (pq_goto ?_))
  clear hu9
  exact cont _ _ _ ⟨A00, K, nn, dn, q, w, e, v1692, f1692, mq, mv, mf, M, (cw_md D dj).symm, rfl, hI, hS1692, D, hv, hf, dj, fun j hj => by exact hw j hj, by omega, by omega, hR1, hR2, hg, (by omega), hN, hM, hB⟩ (by omega) (by omega)

set_option maxRecDepth 100000 in
set_option maxHeartbeats 2000000 in
theorem lx_b39 (hC : pm_Cl l g (lw_ro b L xs) 7 600000 7302250 lw_Rt bk_L_law J) {i : Int32} (hi : 0 ≤ i.toInt ∧ i.toInt + 6 ≤ L) (hL : L ≤ 3072) {E : Nat} (hE : E < 1000) {A : pm_H} {c s : Nat} (hA : LX g xo h E A) (hc : c + 4 ≤ 600000) (hs0 : s + 485 ≤ 7302250) (cont : ∀ (A' : pm_H) (c' s' : Nat), LX g xo h (E + 1) A' → c' ≤ c + 4 → s' ≤ s + 485 → J 2563 [some (.ref b), some (.ref xo), some (.ref h), some (.int i)] [] A' c' s') : J 1719 [some (.ref b), some (.ref xo), some (.ref h), some (.int i)] [] A c s := by
  obtain ⟨A00, K, nn, dn, q, w, e, v, f, mq, mv, mf, M, rfl, rfl, hI, hS, D, hv, hf, dj, hw, hE1, hE2, hR1, hR2, hg, he0, hN, hM, hB⟩ := hA
  have hu9 := hI.2.1
  unfold cw_W at hu9
  have hro : lw_ro b L xs b = some (L, xs) := if_pos rfl
  refine hC.1 39 1719 _ _ rfl _ _ _ _ _ ?_
  refine pq_aload_n1 (pq_aload_n0 (pq_iload_n3 (pq_iconst (pq_iadd ?_))))
  intro m1 em1
  have e1 : m1.toInt = i.toInt + 1 := lx_ad1 hi hL em1
  refine pq_iaload ?_
  refine Exists.intro _ (Exists.intro _ (And.intro (Or.inr hro) (And.intro (lx_bn1 hi e1) ?_)))
  obtain ⟨a1, ha1⟩ : ∃ z9, z9 = xs m1.toInt.toNat := ⟨_, rfl⟩
  have m_a1 := em1
  rw [← ha1]
  refine pq_aload_n0 (pq_iload_n3 (pq_iconst (pq_iadd ?_)))
  intro m2 em2
  have e2 : m2.toInt = i.toInt + 2 := lx_ad2 hi hL em2
  refine pq_iaload ?_
  refine Exists.intro _ (Exists.intro _ (And.intro (Or.inr hro) (And.intro (lx_bn2 hi e2) ?_)))
  obtain ⟨a2, ha2⟩ : ∃ z9, z9 = xs m2.toInt.toNat := ⟨_, rfl⟩
  have m_a2 := em2
  rw [← ha2]
  refine pq_iv2_10 ?_
  refine And.intro (Exists.intro _ (cw_o0 hI.1)) (Exists.intro _ (Exists.intro _ (Exists.intro _ (Exists.intro _ (And.intro (c_X10_reach hI hS a1 a2 ) (And.intro (lw_bnd rfl (lx_c1 hc (by decide)) (lx_c1 hs0 (by decide)) rfl) (fun r9 A9 h9 => ?_)))))))
  obtain ⟨v1730, f1730, rfl, hS1730, y1730, rfl, by1730⟩ := h9
  refine pq_id1 (pq_pop (pq_aload_n2 (pq_aload_n0 (pq_iload_n3 (pq_iconst (pq_iadd ?_))))))
  intro m3 em3
  have e3 : m3.toInt = i.toInt + 1 := lx_ad1 hi hL em3
  refine pq_iaload ?_
  refine Exists.intro _ (Exists.intro _ (And.intro (Or.inr hro) (And.intro (lx_bn1 hi e3) ?_)))
  have ha1_3 : a1 = xs m3.toInt.toNat := by rw [ha1, em3, ← m_a1]
  rw [← ha1_3]
  refine pq_aload_n0 (pq_iload_n3 (pq_iconst (pq_iadd ?_)))
  intro m4 em4
  have e4 : m4.toInt = i.toInt + 2 := lx_ad2 hi hL em4
  refine pq_iaload ?_
  refine Exists.intro _ (Exists.intro _ (And.intro (Or.inr hro) (And.intro (lx_bn2 hi e4) ?_)))
  have ha2_4 : a2 = xs m4.toInt.toNat := by rw [ha2, em4, ← m_a2]
  rw [← ha2_4]
  refine pq_iv2_11 ?_
  rw [cw_md D dj]
  refine And.intro (Exists.intro _ (md_o)) (Exists.intro _ (Exists.intro _ (Exists.intro _ (Exists.intro _ (And.intro (c_X11_reach D mv mf hv hf a1 a2 ) (And.intro (lw_bnd rfl (lx_c2 hc (by decide)) (lx_c2 hs0 (by decide)) rfl) (fun r9 A9 h9 => ?_)))))))
  obtain ⟨y1745, rfl, rfl, by1745⟩ := h9
  refine pq_id1 (pq_pop (pq_goto ?_))
  clear hu9
  exact cont _ _ _ ⟨A00, K, nn, dn, q, w, e, v1730, f1730, mq, mv, mf, M, (cw_md D dj).symm, rfl, hI, hS1730, D, hv, hf, dj, fun j hj => by exact hw j hj, by omega, by omega, hR1, hR2, hg, (by omega), hN, hM, hB⟩ (by omega) (by omega)

set_option maxRecDepth 100000 in
set_option maxHeartbeats 2000000 in
theorem lx_b40 (hC : pm_Cl l g (lw_ro b L xs) 7 600000 7302250 lw_Rt bk_L_law J) {i : Int32} (hi : 0 ≤ i.toInt ∧ i.toInt + 6 ≤ L) (hL : L ≤ 3072) {E : Nat} (hE : E < 1000) {A : pm_H} {c s : Nat} (hA : LX g xo h E A) (hc : c + 4 ≤ 600000) (hs0 : s + 485 ≤ 7302250) (cont : ∀ (A' : pm_H) (c' s' : Nat), LX g xo h (E + 1) A' → c' ≤ c + 4 → s' ≤ s + 485 → J 2563 [some (.ref b), some (.ref xo), some (.ref h), some (.int i)] [] A' c' s') : J 1752 [some (.ref b), some (.ref xo), some (.ref h), some (.int i)] [] A c s := by
  obtain ⟨A00, K, nn, dn, q, w, e, v, f, mq, mv, mf, M, rfl, rfl, hI, hS, D, hv, hf, dj, hw, hE1, hE2, hR1, hR2, hg, he0, hN, hM, hB⟩ := hA
  have hu9 := hI.2.1
  unfold cw_W at hu9
  have hro : lw_ro b L xs b = some (L, xs) := if_pos rfl
  refine hC.1 40 1752 _ _ rfl _ _ _ _ _ ?_
  refine pq_aload_n1 (pq_aload_n0 (pq_iload_n3 (pq_iconst (pq_iadd ?_))))
  intro m1 em1
  have e1 : m1.toInt = i.toInt + 1 := lx_ad1 hi hL em1
  refine pq_iaload ?_
  refine Exists.intro _ (Exists.intro _ (And.intro (Or.inr hro) (And.intro (lx_bn1 hi e1) ?_)))
  obtain ⟨a1, ha1⟩ : ∃ z9, z9 = xs m1.toInt.toNat := ⟨_, rfl⟩
  have m_a1 := em1
  rw [← ha1]
  refine pq_aload_n0 (pq_iload_n3 (pq_iconst (pq_iadd ?_)))
  intro m2 em2
  have e2 : m2.toInt = i.toInt + 2 := lx_ad2 hi hL em2
  refine pq_iaload ?_
  refine Exists.intro _ (Exists.intro _ (And.intro (Or.inr hro) (And.intro (lx_bn2 hi e2) ?_)))
  obtain ⟨a2, ha2⟩ : ∃ z9, z9 = xs m2.toInt.toNat := ⟨_, rfl⟩
  have m_a2 := em2
  rw [← ha2]
  refine pq_iv2_10 ?_
  refine And.intro (Exists.intro _ (cw_o0 hI.1)) (Exists.intro _ (Exists.intro _ (Exists.intro _ (Exists.intro _ (And.intro (c_X10_reachBack hI hS a1 a2 ) (And.intro (lw_bnd rfl (lx_c1 hc (by decide)) (lx_c1 hs0 (by decide)) rfl) (fun r9 A9 h9 => ?_)))))))
  obtain ⟨v1763, f1763, rfl, hS1763, y1763, rfl, by1763⟩ := h9
  refine pq_id1 (pq_pop (pq_aload_n2 (pq_aload_n0 (pq_iload_n3 (pq_iconst (pq_iadd ?_))))))
  intro m3 em3
  have e3 : m3.toInt = i.toInt + 1 := lx_ad1 hi hL em3
  refine pq_iaload ?_
  refine Exists.intro _ (Exists.intro _ (And.intro (Or.inr hro) (And.intro (lx_bn1 hi e3) ?_)))
  have ha1_3 : a1 = xs m3.toInt.toNat := by rw [ha1, em3, ← m_a1]
  rw [← ha1_3]
  refine pq_aload_n0 (pq_iload_n3 (pq_iconst (pq_iadd ?_)))
  intro m4 em4
  have e4 : m4.toInt = i.toInt + 2 := lx_ad2 hi hL em4
  refine pq_iaload ?_
  refine Exists.intro _ (Exists.intro _ (And.intro (Or.inr hro) (And.intro (lx_bn2 hi e4) ?_)))
  have ha2_4 : a2 = xs m4.toInt.toNat := by rw [ha2, em4, ← m_a2]
  rw [← ha2_4]
  refine pq_iv2_11 ?_
  rw [cw_md D dj]
  refine And.intro (Exists.intro _ (md_o)) (Exists.intro _ (Exists.intro _ (Exists.intro _ (Exists.intro _ (And.intro (c_X11_reachBack D mv mf hv hf a1 a2 ) (And.intro (lw_bnd rfl (lx_c2 hc (by decide)) (lx_c2 hs0 (by decide)) rfl) (fun r9 A9 h9 => ?_)))))))
  obtain ⟨y1778, rfl, rfl, by1778⟩ := h9
  refine pq_id1 (pq_pop (pq_goto ?_))
  clear hu9
  exact cont _ _ _ ⟨A00, K, nn, dn, q, w, e, v1763, f1763, mq, mv, mf, M, (cw_md D dj).symm, rfl, hI, hS1763, D, hv, hf, dj, fun j hj => by exact hw j hj, by omega, by omega, hR1, hR2, hg, (by omega), hN, hM, hB⟩ (by omega) (by omega)
end
end
