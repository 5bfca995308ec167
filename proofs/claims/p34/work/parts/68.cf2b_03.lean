section
section
variable {l : Launch} {g : pm_G} {A0 : pm_H} {K nn dn : Nat} {q : Nat → Nat} {w : Nat → Int32} {e : Nat → Nat → Int32} {v : Nat → Int32} {f : Nat → Nat → Int32}
set_option maxRecDepth 100000 in
set_option maxHeartbeats 2000000 in
theorem H_X10_merge (hI : cw_I K nn dn q w e) (hs : cw_S v f) (x1 : Int32) (x2 : Int32) (p0 : (w 0).toInt < 100000) : pm_Mt l g 37 4 4 485 [.ref (q 0), .int x1, .int x2] (cw A0 g K nn dn q w e v f) (cw_Qb A0 g K nn q (fun r K2 nn2 dn2 w2 e2 => e2 15 = e 15 ∧ (∃ x : Int32, r = some (.int x) ∧ (((w2 0).toInt ≤ (w 0).toInt + 1 ∧ (w 0).toInt ≤ (w2 0).toInt) ∧ (∀ L, rp (w nn) (e (nn + 1)) (e (nn + 2)) L → (nn : Int) = 40 + 4 * ((w 0).toInt % 41) → rp (w2 nn2) (e2 (nn2 + 1)) (e2 (nn2 + 2)) ((ed_merge L x1 x2).getD L) ∧ (w2 0).toInt = (w 0).toInt + edn (ed_merge L x1 x2) ∧ (w2 1).toInt = (w 1).toInt + edn (ed_merge L x1 x2) * (0) ∧ (nn2 : Int) = 40 + 4 * ((w2 0).toInt % 41) ∧ (bd (w nn) (e (nn + 1)) (e (nn + 3)) → bd (w2 nn2) (e2 (nn2 + 1)) (e2 (nn2 + 3)))))))) := by
  refine mt_X10_merge rfl (fun J hC => ?_)
  have ro_nn : cw_ro K nn := hI.2.1.2.1
  have ro_dn : cw_ro K dn := hI.2.1.2.2.1
  have hu1 := hI.2.1
  unfold cw_W at hu1
  replace hu1 := And.intro hu1.1 (And.intro (And.intro hu1.2.1.1 hu1.2.1.2.1) (And.intro (And.intro hu1.2.2.1.1 hu1.2.2.1.2.1) (And.intro hu1.2.2.2.1 (And.intro hu1.2.2.2.2.2.1 hu1.2.2.2.2.2.2))))
  have zs2 := cw_sz hI ro_nn
  have zs3 := cw_sz hI ro_dn
  have rg_x1 := pm_rng x1
  have rg_x2 := pm_rng x2
  refine hC.1 0 0 _ _ rfl _ _ _ _ _ ?_
  refine Exists.intro _ (Exists.intro _ (Exists.intro _ (Exists.intro _ (And.intro (F_X10_areUnlikeColours (cw A0 g K nn dn q w e v f) x1 x2 ) (And.intro rfl (fun r9 A9 h9 => ?_))))))
  rcases h9 with ⟨y4, rfl, rfl, ⟨rfl, by4⟩ | ⟨rfl, by4⟩⟩
  · skip
    have k1 : (1 : Int32).toInt = 1 := rfl
    refine And.intro (fun _ => ?_) (fun c9 => absurd c9 (by decide))
    refine hC.1 1 10 _ _ rfl _ _ _ _ _ ?_
    refine Exists.intro _ (And.intro (cw_o0 hI.1) ?_)
    refine Exists.intro _ (And.intro (cw_o1 hI.1) ?_)
    refine Exists.intro _ (And.intro (cw_o0 hI.1) ?_)
    refine And.intro (Exists.intro _ (cw_o1 hI.1)) (Exists.intro _ (Exists.intro _ (Exists.intro _ (Exists.intro _ (And.intro (F_X9_begin hI hs  (by omega)) (And.intro rfl (fun r9 A9 h9 => ?_)))))))
    obtain ⟨K7, dn7, q7, w7, e7, rfl, rfl, hI7, hX7, hk7, hw7, hy7, hdn7, hfm7, hz7⟩ := h9
    have hq7_0 : q 0 = q7 0 := (hX7.2.1 0 (by omega)).symm
    have hq7_nn : q nn = q7 nn := (hX7.2.1 nn (by omega)).symm
    rw [hq7_0, hq7_nn]
    have hw7_0 := congrArg Int32.toInt hw7.1
    have hw7_1 := congrArg Int32.toInt hw7.2.1
    have hw7_3 := congrArg Int32.toInt hw7.2.2.2
    have ro7 : cw_ro K7 dn7 := hI7.2.1.2.2.1
    have rn7 : cw_ro K7 nn := hI7.2.1.2.1
    have hx7 : e7 15 = e 15 := hy7.trans rfl
    have hu8 := hI7.2.1
    unfold cw_W at hu8
    replace hu8 := And.intro hu8.1 (And.intro (And.intro hu8.2.1.1 hu8.2.1.2.1) (And.intro (And.intro hu8.2.2.1.1 hu8.2.2.1.2.1) (And.intro hu8.2.2.2.1 (And.intro hu8.2.2.2.2.2.1 hu8.2.2.2.2.2.2))))
    have zs9 := cw_sz hI7 rn7
    have zs10 := cw_sz hI7 ro7
    have hz9 := hz7
    have hL7 : ∀ L, rp (w nn) (e (nn + 1)) (e (nn + 2)) L → (nn : Int) = 40 + 4 * ((w 0).toInt % 41) → nn ≠ dn7 ∧ rp (w7 nn) (e7 (nn + 1)) (e7 (nn + 2)) L := hL_b ro_nn ro7 hdn7 hfm7
    have k0 : (0 : Int32).toInt = 0 := rfl
    have lp12 : ∀ (n : Nat) (z4_28 : Int32) (w11 : Nat → Int32) (e11 : Nat → Nat → Int32) (v11 : Nat → Int32) (f11 : Nat → Nat → Int32), cw_I K7 nn dn7 q7 w11 e11 → e11 15 = e 15 → (∀ L, rp (w nn) (e (nn + 1)) (e (nn + 2)) L → (nn : Int) = 40 + 4 * ((w 0).toInt % 41) → nn ≠ dn7 ∧ rp (w11 nn) (e11 (nn + 1)) (e11 (nn + 2)) L) → cw_S v11 f11 → (0 ≤ z4_28.toInt ∧ z4_28.toInt ≤ 160) → (∀ L, rp (w nn) (e (nn + 1)) (e (nn + 2)) L → (nn : Int) = 40 + 4 * ((w 0).toInt % 41) → rp (w11 dn7) (e11 (dn7 + 1)) (e11 (dn7 + 2)) ((si L 0 z4_28.toInt).map (fun p => (if p.1 = x1 then x2 else p.1, p.2)))) → (∀ L, rp (w nn) (e (nn + 1)) (e (nn + 2)) L → (nn : Int) = 40 + 4 * ((w 0).toInt % 41) → z4_28.toInt ≤ (L.length : Int)) → (w11 0).toInt = (w 0).toInt → (w11 1).toInt = (w 1).toInt → (w11 3).toInt = (w 3).toInt → 200 - z4_28.toInt < (n : Int) → J 28 [some (.ref (q7 0)), some (.int x1), some (.int x2), some (.ref (q7 nn)), some (.int z4_28)] [] (cw A0 g K7 nn dn7 q7 w11 e11 v11 f11) 4 485 := by
      intro n
      induction n with
      | zero =>
        intro z4_28 w11 e11 v11 f11 hI11 hx11 hL11 hs11 j0_28 j1_28 j2_28 j3_28 j4_28 j5_28 j6_28
        clear hu8 zs9 zs10
        omega
      | succ n ih13 =>
        intro z4_28 w11 e11 v11 f11 hI11 hx11 hL11 hs11 j0_28 j1_28 j2_28 j3_28 j4_28 j5_28 j6_28
        clear hu8 zs9 zs10
        have lh9 := hL11
        have hu14 := hI11.2.1
        unfold cw_W at hu14
        replace hu14 := And.intro hu14.1 (And.intro (And.intro hu14.2.1.1 hu14.2.1.2.1) (And.intro (And.intro hu14.2.2.1.1 hu14.2.2.1.2.1) (And.intro hu14.2.2.2.1 (And.intro hu14.2.2.2.2.2.1 hu14.2.2.2.2.2.2))))
        have zs15 := cw_sz hI11 rn7
        have zs16 := cw_sz hI11 ro7
        refine hC.1 2 28 _ _ rfl _ _ _ _ _ ?_
        refine Exists.intro _ (And.intro (cw_ro_o hI11.1 rn7) ?_)
        have z17 := cw_sz hI11 rn7
        refine And.intro (fun c18 => ?_) (fun c18 => ?_)
        · skip
          refine hC.1 5 74 _ _ rfl _ _ _ _ _ ?_
          refine Exists.intro _ (And.intro (cw_o0 hI11.1) ?_)
          have hp_78 := hL11
          refine And.intro (Exists.intro _ (cw_o1 hI11.1)) (Exists.intro _ (Exists.intro _ (Exists.intro _ (Exists.intro _ (And.intro (G_X9_finish hI11 hs11  (by omega) (by omega)) (And.intro rfl (fun r9 A9 h9 => ?_)))))))
          rcases h9 with ⟨w20, e20, v20, f20, rfl, hI20, hs20, hy20, y19, rfl, by19⟩
          have hx20 : e20 15 = e 15 := hy20.trans hx11
          have hu21 := hI20.2.1.2.2.2.1
          have hu22 := hI20.2.1.2.2.2.2.1
          have zs23 := cw_sz hI20 ro7
          have zs24 := cw_sz hI20 ro7
          have hb_78 := by19.2
          have sw20_1 : (w20 1).toInt = (w11 1).toInt := by19.1.1
          have sw20_3 : (w20 3).toInt = (w11 3).toInt := by19.1.2.1
          have sp20 := by19.1.2.2
          clear by19
          exact ⟨rfl, fun e9 => absurd e9 (by decide), rfl, K7, dn7, dn7, q7, w20, e20, v20, f20, rfl, hI20, hs20, hX7, hx20, y19, rfl, by first | omega | (dsimp only; omega) | trivial, by intro L hL hN; have hl := hL.1; rw [ed_merge, if_pos (by omega)]; have t2 := j1_28 L hL hN; have h8 := (lh9 L hL hN).2.1; have h7 := j2_28 L hL hN; rw [show z4_28.toInt = (L.length : Int) by omega, si_all] at t2; exact ⟨hb_78.2.1 _ t2, by show _ = _ + (1 : Int); omega, by show _ = _ + (1 : Int) * _; omega, by omega, fun _ => hb_78.2.2⟩⟩
        · skip
          refine Exists.intro _ (And.intro (cw_o0 hI11.1) ?_)
          refine Exists.intro _ (And.intro (cw_ro_o hI11.1 rn7) ?_)
          refine Exists.intro _ (Exists.intro _ (And.intro (Or.inl (cw_ro_1 hI11.1 rn7)) (And.intro (by omega) ?_)))
          have w25 := cw_col hI11 rn7 (z4_28).toInt.toNat
          refine And.intro (fun c26 => ?_) (fun c26 => ?_)
          · skip
            have dc26 := pm_neI c26
            refine hC.1 3 58 _ _ rfl _ _ _ _ _ ?_
            refine Exists.intro _ (And.intro (cw_ro_o hI11.1 rn7) ?_)
            refine Exists.intro _ (Exists.intro _ (And.intro (Or.inl (cw_ro_1 hI11.1 rn7)) (And.intro (by omega) ?_)))
            have w27 := cw_col hI11 rn7 (z4_28).toInt.toNat
            refine hC.1 4 65 _ _ rfl _ _ _ _ _ ?_
            have hp_65 := hL11
            refine And.intro (Exists.intro _ (cw_o1 hI11.1)) (Exists.intro _ (Exists.intro _ (Exists.intro _ (Exists.intro _ (And.intro (F_X9_keepAs hI11 hs11 z4_28 (e11 (nn + 1) (z4_28).toInt.toNat) (by omega)) (And.intro rfl (fun r9 A9 h9 => ?_)))))))
            rcases h9 with ⟨w29, e29, v29, f29, rfl, hI29, hs29, hy29, rfl, by28⟩
            have hx29 : e29 15 = e 15 := hy29.trans hx11
            have zs30 := cw_sz hI29 rn7
            have zs31 := cw_sz hI29 ro7
            have hb_65 := by28.2
            have hL29 : ∀ L, rp (w nn) (e (nn + 1)) (e (nn + 2)) L → (nn : Int) = 40 + 4 * ((w 0).toInt % 41) → nn ≠ dn7 ∧ rp (w29 nn) (e29 (nn + 1)) (e29 (nn + 2)) L := hL_k hL11 rn7 ro7 hb_65.1
            have sw29_0 : (w29 0).toInt = (w11 0).toInt := by28.1.1
            have sw29_1 : (w29 1).toInt = (w11 1).toInt := by28.1.2.1
            have sw29_3 : (w29 3).toInt = (w11 3).toInt := by28.1.2.2
            clear by28
            intro m32 em_68
            try have e32 : m32.toInt = (z4_28).toInt + (1) := by rw [em_68]; exact pm_addc _ _ (1) rfl (by omega) (by omega)
            exact ih13 m32 w29 e29 v29 f29 hI29 hx29 hL29 hs29 (by omega) (by intro L hL hN; have hl := hL.1; have q2 := hp_65 L hL hN; have z2 := q2.2.1; have s2 := si_len (L := L) (a := 0) (b := z4_28.toInt) (by omega) (by omega) (by omega); have t2 := hb_65.2 L _ q2.2 q2.1 (by omega) (by omega) (by first | omega | (simp only [List.length_append, List.length_nil, List.length_cons, List.length_map, List.length_reverse, nw_len, dr_len]; omega)) (j1_28 L hL hN); rw [show m32.toInt = z4_28.toInt + 1 by omega, si_s q2.2 (a := 0) (z := z4_28.toInt) (by omega) (by omega) (by omega), List.map_append, List.map_cons, List.map_nil]; first | (rw [if_pos (by assumption)]; exact t2) | (rw [if_neg (by assumption)]; exact t2)) (by intro L hL hN; have h8 := (lh9 L hL hN).2.1; omega) (by omega) (by omega) (by omega) (by omega)
          · skip
            have dc26 : ((e11 (nn + 1) (z4_28).toInt.toNat)).toInt = (x1 : Int32).toInt := congrArg Int32.toInt c26
            refine hC.1 4 65 _ _ rfl _ _ _ _ _ ?_
            have hp_65 := hL11
            refine And.intro (Exists.intro _ (cw_o1 hI11.1)) (Exists.intro _ (Exists.intro _ (Exists.intro _ (Exists.intro _ (And.intro (F_X9_keepAs hI11 hs11 z4_28 x2 (by omega)) (And.intro rfl (fun r9 A9 h9 => ?_)))))))
            rcases h9 with ⟨w34, e34, v34, f34, rfl, hI34, hs34, hy34, rfl, by33⟩
            have hx34 : e34 15 = e 15 := hy34.trans hx11
            have zs35 := cw_sz hI34 rn7
            have zs36 := cw_sz hI34 ro7
            have hb_65 := by33.2
            have hL34 : ∀ L, rp (w nn) (e (nn + 1)) (e (nn + 2)) L → (nn : Int) = 40 + 4 * ((w 0).toInt % 41) → nn ≠ dn7 ∧ rp (w34 nn) (e34 (nn + 1)) (e34 (nn + 2)) L := hL_k hL11 rn7 ro7 hb_65.1
            have sw34_0 : (w34 0).toInt = (w11 0).toInt := by33.1.1
            have sw34_1 : (w34 1).toInt = (w11 1).toInt := by33.1.2.1
            have sw34_3 : (w34 3).toInt = (w11 3).toInt := by33.1.2.2
            clear by33
            intro m37 em_68
            try have e37 : m37.toInt = (z4_28).toInt + (1) := by rw [em_68]; exact pm_addc _ _ (1) rfl (by omega) (by omega)
            exact ih13 m37 w34 e34 v34 f34 hI34 hx34 hL34 hs34 (by omega) (by intro L hL hN; have hl := hL.1; have q2 := hp_65 L hL hN; have z2 := q2.2.1; have s2 := si_len (L := L) (a := 0) (b := z4_28.toInt) (by omega) (by omega) (by omega); have t2 := hb_65.2 L _ q2.2 q2.1 (by omega) (by omega) (by first | omega | (simp only [List.length_append, List.length_nil, List.length_cons, List.length_map, List.length_reverse, nw_len, dr_len]; omega)) (j1_28 L hL hN); rw [show m37.toInt = z4_28.toInt + 1 by omega, si_s q2.2 (a := 0) (z := z4_28.toInt) (by omega) (by omega) (by omega), List.map_append, List.map_cons, List.map_nil]; first | (rw [if_pos (by assumption)]; exact t2) | (rw [if_neg (by assumption)]; exact t2)) (by intro L hL hN; have h8 := (lh9 L hL hN).2.1; omega) (by omega) (by omega) (by omega) (by omega)
    exact lp12 (200 - (0 : Int32).toInt).toNat.succ (0 : Int32) w7 e7 v f hI7 hx7 hL7 hs (by omega) (by intro L hL hN; have hl := hL.1; rw [si_n (L := L) (a := 0) (b := (0 : Int32).toInt) (by decide)]; exact rp_0 hz9) (by intro L hL hN; have := hL.1; omega) (by omega) (by omega) (by omega) (by omega)
  · skip
    have k0 : (0 : Int32).toInt = 0 := rfl
    refine And.intro (fun c9 => absurd c9 (by decide)) (fun _ => ?_)
    have km1 : (-1 : Int32).toInt = -1 := rfl
    exact ⟨rfl, fun e9 => absurd e9 (by decide), rfl, K, nn, dn, q, w, e, v, f, rfl, hI, hs, cw_X_r, rfl, (-1 : Int32), rfl, by first | omega | (dsimp only; omega) | trivial, by intro L hL hN; have hl := hL.1; rw [ed_merge, if_neg (by omega)]; exact ⟨hL, by show _ = _ + (0 : Int); omega, by show _ = _ + (0 : Int) * _; omega, hN, fun h8 => h8⟩⟩

set_option maxRecDepth 100000 in
set_option maxHeartbeats 2000000 in
theorem H_X10_exchange (hI : cw_I K nn dn q w e) (hs : cw_S v f) (x1 : Int32) (x2 : Int32) (p0 : (w 0).toInt < 100000) : pm_Mt l g 39 4 4 485 [.ref (q 0), .int x1, .int x2] (cw A0 g K nn dn q w e v f) (cw_Qb A0 g K nn q (fun r K2 nn2 dn2 w2 e2 => e2 15 = e 15 ∧ (∃ x : Int32, r = some (.int x) ∧ (((w2 0).toInt ≤ (w 0).toInt + 1 ∧ (w 0).toInt ≤ (w2 0).toInt) ∧ (∀ L, rp (w nn) (e (nn + 1)) (e (nn + 2)) L → (nn : Int) = 40 + 4 * ((w 0).toInt % 41) → rp (w2 nn2) (e2 (nn2 + 1)) (e2 (nn2 + 2)) ((ed_exch L x1 x2).getD L) ∧ (w2 0).toInt = (w 0).toInt + edn (ed_exch L x1 x2) ∧ (w2 1).toInt = (w 1).toInt + edn (ed_exch L x1 x2) * (0) ∧ (nn2 : Int) = 40 + 4 * ((w2 0).toInt % 41) ∧ (bd (w nn) (e (nn + 1)) (e (nn + 3)) → bd (w2 nn2) (e2 (nn2 + 1)) (e2 (nn2 + 3)))))))) := by
  refine mt_X10_exchange rfl (fun J hC => ?_)
  have ro_nn : cw_ro K nn := hI.2.1.2.1
  have ro_dn : cw_ro K dn := hI.2.1.2.2.1
  have hu1 := hI.2.1
  unfold cw_W at hu1
  replace hu1 := And.intro hu1.1 (And.intro (And.intro hu1.2.1.1 hu1.2.1.2.1) (And.intro (And.intro hu1.2.2.1.1 hu1.2.2.1.2.1) (And.intro hu1.2.2.2.1 (And.intro hu1.2.2.2.2.2.1 hu1.2.2.2.2.2.2))))
  have zs2 := cw_sz hI ro_nn
  have zs3 := cw_sz hI ro_dn
  have rg_x1 := pm_rng x1
  have rg_x2 := pm_rng x2
  refine hC.1 0 0 _ _ rfl _ _ _ _ _ ?_
  refine Exists.intro _ (Exists.intro _ (Exists.intro _ (Exists.intro _ (And.intro (F_X10_areUnlikeColours (cw A0 g K nn dn q w e v f) x1 x2 ) (And.intro rfl (fun r9 A9 h9 => ?_))))))
  rcases h9 with ⟨y4, rfl, rfl, ⟨rfl, by4⟩ | ⟨rfl, by4⟩⟩
  · skip
    have k1 : (1 : Int32).toInt = 1 := rfl
    refine And.intro (fun _ => ?_) (fun c9 => absurd c9 (by decide))
    refine hC.1 1 10 _ _ rfl _ _ _ _ _ ?_
    refine Exists.intro _ (And.intro (cw_o0 hI.1) ?_)
    refine Exists.intro _ (And.intro (cw_o1 hI.1) ?_)
    refine Exists.intro _ (And.intro (cw_o0 hI.1) ?_)
    refine And.intro (Exists.intro _ (cw_o1 hI.1)) (Exists.intro _ (Exists.intro _ (Exists.intro _ (Exists.intro _ (And.intro (F_X9_begin hI hs  (by omega)) (And.intro rfl (fun r9 A9 h9 => ?_)))))))
    obtain ⟨K7, dn7, q7, w7, e7, rfl, rfl, hI7, hX7, hk7, hw7, hy7, hdn7, hfm7, hz7⟩ := h9
    have hq7_0 : q 0 = q7 0 := (hX7.2.1 0 (by omega)).symm
    have hq7_nn : q nn = q7 nn := (hX7.2.1 nn (by omega)).symm
    rw [hq7_0, hq7_nn]
    have hw7_0 := congrArg Int32.toInt hw7.1
    have hw7_1 := congrArg Int32.toInt hw7.2.1
    have hw7_3 := congrArg Int32.toInt hw7.2.2.2
    have ro7 : cw_ro K7 dn7 := hI7.2.1.2.2.1
    have rn7 : cw_ro K7 nn := hI7.2.1.2.1
    have hx7 : e7 15 = e 15 := hy7.trans rfl
    have hu8 := hI7.2.1
    unfold cw_W at hu8
    replace hu8 := And.intro hu8.1 (And.intro (And.intro hu8.2.1.1 hu8.2.1.2.1) (And.intro (And.intro hu8.2.2.1.1 hu8.2.2.1.2.1) (And.intro hu8.2.2.2.1 (And.intro hu8.2.2.2.2.2.1 hu8.2.2.2.2.2.2))))
    have zs9 := cw_sz hI7 rn7
    have zs10 := cw_sz hI7 ro7
    have hz9 := hz7
    have hL7 : ∀ L, rp (w nn) (e (nn + 1)) (e (nn + 2)) L → (nn : Int) = 40 + 4 * ((w 0).toInt % 41) → nn ≠ dn7 ∧ rp (w7 nn) (e7 (nn + 1)) (e7 (nn + 2)) L := hL_b ro_nn ro7 hdn7 hfm7
    have k0 : (0 : Int32).toInt = 0 := rfl
    have lp12 : ∀ (n : Nat) (z4_28 : Int32) (w11 : Nat → Int32) (e11 : Nat → Nat → Int32) (v11 : Nat → Int32) (f11 : Nat → Nat → Int32), cw_I K7 nn dn7 q7 w11 e11 → e11 15 = e 15 → (∀ L, rp (w nn) (e (nn + 1)) (e (nn + 2)) L → (nn : Int) = 40 + 4 * ((w 0).toInt % 41) → nn ≠ dn7 ∧ rp (w11 nn) (e11 (nn + 1)) (e11 (nn + 2)) L) → cw_S v11 f11 → (0 ≤ z4_28.toInt ∧ z4_28.toInt ≤ 160) → (∀ L, rp (w nn) (e (nn + 1)) (e (nn + 2)) L → (nn : Int) = 40 + 4 * ((w 0).toInt % 41) → rp (w11 dn7) (e11 (dn7 + 1)) (e11 (dn7 + 2)) ((si L 0 z4_28.toInt).map (fun p => (if p.1 = x1 then x2 else if p.1 = x2 then x1 else p.1, p.2)))) → (∀ L, rp (w nn) (e (nn + 1)) (e (nn + 2)) L → (nn : Int) = 40 + 4 * ((w 0).toInt % 41) → z4_28.toInt ≤ (L.length : Int)) → (w11 0).toInt = (w 0).toInt → (w11 1).toInt = (w 1).toInt → (w11 3).toInt = (w 3).toInt → 200 - z4_28.toInt < (n : Int) → J 28 [some (.ref (q7 0)), some (.int x1), some (.int x2), some (.ref (q7 nn)), some (.int z4_28), none] [] (cw A0 g K7 nn dn7 q7 w11 e11 v11 f11) 4 485 := by
      intro n
      induction n with
      | zero =>
        intro z4_28 w11 e11 v11 f11 hI11 hx11 hL11 hs11 j0_28 j1_28 j2_28 j3_28 j4_28 j5_28 j6_28
        clear hu8 zs9 zs10
        omega
      | succ n ih13 =>
        intro z4_28 w11 e11 v11 f11 hI11 hx11 hL11 hs11 j0_28 j1_28 j2_28 j3_28 j4_28 j5_28 j6_28
        clear hu8 zs9 zs10
        have lh9 := hL11
        have hu14 := hI11.2.1
        unfold cw_W at hu14
        replace hu14 := And.intro hu14.1 (And.intro (And.intro hu14.2.1.1 hu14.2.1.2.1) (And.intro (And.intro hu14.2.2.1.1 hu14.2.2.1.2.1) (And.intro hu14.2.2.2.1 (And.intro hu14.2.2.2.2.2.1 hu14.2.2.2.2.2.2))))
        have zs15 := cw_sz hI11 rn7
        have zs16 := cw_sz hI11 ro7
        refine hC.1 2 28 _ _ rfl _ _ _ _ _ ?_
        refine Exists.intro _ (And.intro (cw_ro_o hI11.1 rn7) ?_)
        have z17 := cw_sz hI11 rn7
        refine And.intro (fun c18 => ?_) (fun c18 => ?_)
        · skip
          refine hC.1 6 83 _ _ rfl _ _ _ _ _ ?_
          refine Exists.intro _ (And.intro (cw_o0 hI11.1) ?_)
          have hp_87 := hL11
          refine And.intro (Exists.intro _ (cw_o1 hI11.1)) (Exists.intro _ (Exists.intro _ (Exists.intro _ (Exists.intro _ (And.intro (G_X9_finish hI11 hs11  (by omega) (by omega)) (And.intro rfl (fun r9 A9 h9 => ?_)))))))
          rcases h9 with ⟨w20, e20, v20, f20, rfl, hI20, hs20, hy20, y19, rfl, by19⟩
          have hx20 : e20 15 = e 15 := hy20.trans hx11
          have hu21 := hI20.2.1.2.2.2.1
          have hu22 := hI20.2.1.2.2.2.2.1
          have zs23 := cw_sz hI20 ro7
          have zs24 := cw_sz hI20 ro7
          have hb_87 := by19.2
          have sw20_1 : (w20 1).toInt = (w11 1).toInt := by19.1.1
          have sw20_3 : (w20 3).toInt = (w11 3).toInt := by19.1.2.1
          have sp20 := by19.1.2.2
          clear by19
          exact ⟨rfl, fun e9 => absurd e9 (by decide), rfl, K7, dn7, dn7, q7, w20, e20, v20, f20, rfl, hI20, hs20, hX7, hx20, y19, rfl, by first | omega | (dsimp only; omega) | trivial, by intro L hL hN; have hl := hL.1; rw [ed_exch, if_pos (by omega)]; have t2 := j1_28 L hL hN; have h8 := (lh9 L hL hN).2.1; have h7 := j2_28 L hL hN; rw [show z4_28.toInt = (L.length : Int) by omega, si_all] at t2; exact ⟨hb_87.2.1 _ t2, by show _ = _ + (1 : Int); omega, by show _ = _ + (1 : Int) * _; omega, by omega, fun _ => hb_87.2.2⟩⟩
        · skip
          refine Exists.intro _ (And.intro (cw_ro_o hI11.1 rn7) ?_)
          refine Exists.intro _ (Exists.intro _ (And.intro (Or.inl (cw_ro_1 hI11.1 rn7)) (And.intro (by omega) ?_)))
          have w25 := cw_col hI11 rn7 (z4_28).toInt.toNat
          refine Exists.intro _ (And.intro (cw_o0 hI11.1) ?_)
          refine And.intro (fun c26 => ?_) (fun c26 => ?_)
          · skip
            have dc26 := pm_neI c26
            refine hC.1 3 62 _ _ rfl _ _ _ _ _ ?_
            refine And.intro (fun c27 => ?_) (fun c27 => ?_)
            · skip
              have dc27 := pm_neI c27
              refine hC.1 4 72 _ _ rfl _ _ _ _ _ ?_
              refine hC.1 5 74 _ _ rfl _ _ _ _ _ ?_
              have hp_74 := hL11
              refine And.intro (Exists.intro _ (cw_o1 hI11.1)) (Exists.intro _ (Exists.intro _ (Exists.intro _ (Exists.intro _ (And.intro (F_X9_keepAs hI11 hs11 z4_28 (e11 (nn + 1) (z4_28).toInt.toNat) (by omega)) (And.intro rfl (fun r9 A9 h9 => ?_)))))))
              rcases h9 with ⟨w29, e29, v29, f29, rfl, hI29, hs29, hy29, rfl, by28⟩
              have hx29 : e29 15 = e 15 := hy29.trans hx11
              have zs30 := cw_sz hI29 rn7
              have zs31 := cw_sz hI29 ro7
              have hb_74 := by28.2
              have hL29 : ∀ L, rp (w nn) (e (nn + 1)) (e (nn + 2)) L → (nn : Int) = 40 + 4 * ((w 0).toInt % 41) → nn ≠ dn7 ∧ rp (w29 nn) (e29 (nn + 1)) (e29 (nn + 2)) L := hL_k hL11 rn7 ro7 hb_74.1
              have sw29_0 : (w29 0).toInt = (w11 0).toInt := by28.1.1
              have sw29_1 : (w29 1).toInt = (w11 1).toInt := by28.1.2.1
              have sw29_3 : (w29 3).toInt = (w11 3).toInt := by28.1.2.2
              clear by28
              intro m32 em_77
              try have e32 : m32.toInt = (z4_28).toInt + (1) := by rw [em_77]; exact pm_addc _ _ (1) rfl (by omega) (by omega)
              exact hC.2 [false, false, false, false, false, true] _ _ _ _ _ _ (ih13 m32 w29 e29 v29 f29 hI29 hx29 hL29 hs29 (by omega) (by intro L hL hN; have hl := hL.1; have q2 := hp_74 L hL hN; have z2 := q2.2.1; have s2 := si_len (L := L) (a := 0) (b := z4_28.toInt) (by omega) (by omega) (by omega); have t2 := hb_74.2 L _ q2.2 q2.1 (by omega) (by omega) (by first | omega | (simp only [List.length_append, List.length_nil, List.length_cons, List.length_map, List.length_reverse, nw_len, dr_len]; omega)) (j1_28 L hL hN); rw [show m32.toInt = z4_28.toInt + 1 by omega, si_s q2.2 (a := 0) (z := z4_28.toInt) (by omega) (by omega) (by omega), List.map_append, List.map_cons, List.map_nil]; first | (rw [if_pos (by assumption)]; exact t2) | (rw [if_neg (by assumption), if_pos (by assumption)]; exact t2) | (rw [if_neg (by assumption), if_neg (by assumption)]; exact t2)) (by intro L hL hN; have h8 := (lh9 L hL hN).2.1; omega) (by omega) (by omega) (by omega) (by omega))
            · skip
              have dc27 : ((e11 (nn + 1) (z4_28).toInt.toNat)).toInt = (x2 : Int32).toInt := congrArg Int32.toInt c27
              refine hC.1 5 74 _ _ rfl _ _ _ _ _ ?_
              have hp_74 := hL11
              refine And.intro (Exists.intro _ (cw_o1 hI11.1)) (Exists.intro _ (Exists.intro _ (Exists.intro _ (Exists.intro _ (And.intro (F_X9_keepAs hI11 hs11 z4_28 x1 (by omega)) (And.intro rfl (fun r9 A9 h9 => ?_)))))))
              rcases h9 with ⟨w34, e34, v34, f34, rfl, hI34, hs34, hy34, rfl, by33⟩
              have hx34 : e34 15 = e 15 := hy34.trans hx11
              have zs35 := cw_sz hI34 rn7
              have zs36 := cw_sz hI34 ro7
              have hb_74 := by33.2
              have hL34 : ∀ L, rp (w nn) (e (nn + 1)) (e (nn + 2)) L → (nn : Int) = 40 + 4 * ((w 0).toInt % 41) → nn ≠ dn7 ∧ rp (w34 nn) (e34 (nn + 1)) (e34 (nn + 2)) L := hL_k hL11 rn7 ro7 hb_74.1
              have sw34_0 : (w34 0).toInt = (w11 0).toInt := by33.1.1
              have sw34_1 : (w34 1).toInt = (w11 1).toInt := by33.1.2.1
              have sw34_3 : (w34 3).toInt = (w11 3).toInt := by33.1.2.2
              clear by33
              intro m37 em_77
              try have e37 : m37.toInt = (z4_28).toInt + (1) := by rw [em_77]; exact pm_addc _ _ (1) rfl (by omega) (by omega)
              exact hC.2 [false, false, false, false, false, true] _ _ _ _ _ _ (ih13 m37 w34 e34 v34 f34 hI34 hx34 hL34 hs34 (by omega) (by intro L hL hN; have hl := hL.1; have q2 := hp_74 L hL hN; have z2 := q2.2.1; have s2 := si_len (L := L) (a := 0) (b := z4_28.toInt) (by omega) (by omega) (by omega); have t2 := hb_74.2 L _ q2.2 q2.1 (by omega) (by omega) (by first | omega | (simp only [List.length_append, List.length_nil, List.length_cons, List.length_map, List.length_reverse, nw_len, dr_len]; omega)) (j1_28 L hL hN); rw [show m37.toInt = z4_28.toInt + 1 by omega, si_s q2.2 (a := 0) (z := z4_28.toInt) (by omega) (by omega) (by omega), List.map_append, List.map_cons, List.map_nil]; first | (rw [if_pos (by assumption)]; exact t2) | (rw [if_neg (by assumption), if_pos (by assumption)]; exact t2) | (rw [if_neg (by assumption), if_neg (by assumption)]; exact t2)) (by intro L hL hN; have h8 := (lh9 L hL hN).2.1; omega) (by omega) (by omega) (by omega) (by omega))
          · skip
            have dc26 : ((e11 (nn + 1) (z4_28).toInt.toNat)).toInt = (x1 : Int32).toInt := congrArg Int32.toInt c26
            refine hC.1 5 74 _ _ rfl _ _ _ _ _ ?_
            have hp_74 := hL11
            refine And.intro (Exists.intro _ (cw_o1 hI11.1)) (Exists.intro _ (Exists.intro _ (Exists.intro _ (Exists.intro _ (And.intro (F_X9_keepAs hI11 hs11 z4_28 x2 (by omega)) (And.intro rfl (fun r9 A9 h9 => ?_)))))))
            rcases h9 with ⟨w39, e39, v39, f39, rfl, hI39, hs39, hy39, rfl, by38⟩
            have hx39 : e39 15 = e 15 := hy39.trans hx11
            have zs40 := cw_sz hI39 rn7
            have zs41 := cw_sz hI39 ro7
            have hb_74 := by38.2
            have hL39 : ∀ L, rp (w nn) (e (nn + 1)) (e (nn + 2)) L → (nn : Int) = 40 + 4 * ((w 0).toInt % 41) → nn ≠ dn7 ∧ rp (w39 nn) (e39 (nn + 1)) (e39 (nn + 2)) L := hL_k hL11 rn7 ro7 hb_74.1
            have sw39_0 : (w39 0).toInt = (w11 0).toInt := by38.1.1
            have sw39_1 : (w39 1).toInt = (w11 1).toInt := by38.1.2.1
            have sw39_3 : (w39 3).toInt = (w11 3).toInt := by38.1.2.2
            clear by38
            intro m42 em_77
            try have e42 : m42.toInt = (z4_28).toInt + (1) := by rw [em_77]; exact pm_addc _ _ (1) rfl (by omega) (by omega)
            exact hC.2 [false, false, false, false, false, true] _ _ _ _ _ _ (ih13 m42 w39 e39 v39 f39 hI39 hx39 hL39 hs39 (by omega) (by intro L hL hN; have hl := hL.1; have q2 := hp_74 L hL hN; have z2 := q2.2.1; have s2 := si_len (L := L) (a := 0) (b := z4_28.toInt) (by omega) (by omega) (by omega); have t2 := hb_74.2 L _ q2.2 q2.1 (by omega) (by omega) (by first | omega | (simp only [List.length_append, List.length_nil, List.length_cons, List.length_map, List.length_reverse, nw_len, dr_len]; omega)) (j1_28 L hL hN); rw [show m42.toInt = z4_28.toInt + 1 by omega, si_s q2.2 (a := 0) (z := z4_28.toInt) (by omega) (by omega) (by omega), List.map_append, List.map_cons, List.map_nil]; first | (rw [if_pos (by assumption)]; exact t2) | (rw [if_neg (by assumption), if_pos (by assumption)]; exact t2) | (rw [if_neg (by assumption), if_neg (by assumption)]; exact t2)) (by intro L hL hN; have h8 := (lh9 L hL hN).2.1; omega) (by omega) (by omega) (by omega) (by omega))
    exact lp12 (200 - (0 : Int32).toInt).toNat.succ (0 : Int32) w7 e7 v f hI7 hx7 hL7 hs (by omega) (by intro L hL hN; have hl := hL.1; rw [si_n (L := L) (a := 0) (b := (0 : Int32).toInt) (by decide)]; exact rp_0 hz9) (by intro L hL hN; have := hL.1; omega) (by omega) (by omega) (by omega) (by omega)
  · skip
    have k0 : (0 : Int32).toInt = 0 := rfl
    refine And.intro (fun c9 => absurd c9 (by decide)) (fun _ => ?_)
    have km1 : (-1 : Int32).toInt = -1 := rfl
    exact ⟨rfl, fun e9 => absurd e9 (by decide), rfl, K, nn, dn, q, w, e, v, f, rfl, hI, hs, cw_X_r, rfl, (-1 : Int32), rfl, by first | omega | (dsimp only; omega) | trivial, by intro L hL hN; have hl := hL.1; rw [ed_exch, if_neg (by omega)]; exact ⟨hL, by show _ = _ + (0 : Int); omega, by show _ = _ + (0 : Int) * _; omega, hN, fun h8 => h8⟩⟩

end
end
section
section
variable {l : Launch} {g : pm_G} {A0 : pm_H} {K nn dn : Nat} {q : Nat → Nat} {w : Nat → Int32} {e : Nat → Nat → Int32} {v : Nat → Int32} {f : Nat → Nat → Int32}
set_option maxRecDepth 100000 in
set_option maxHeartbeats 2000000 in
theorem H_X10_sort (hI : cw_I K nn dn q w e) (hs : cw_S v f) (x1 : Int32) (x2 : Int32) (p0 : (w 0).toInt < 100000) : pm_Mt l g 32 5 4 485 [.ref (q 0), .int x1, .int x2] (cw A0 g K nn dn q w e v f) (cw_Qb A0 g K nn q (fun r K2 nn2 dn2 w2 e2 => e2 15 = e 15 ∧ (∃ x : Int32, r = some (.int x) ∧ (((w2 0).toInt ≤ (w 0).toInt + 1 ∧ (w 0).toInt ≤ (w2 0).toInt) ∧ (∀ L, rp (w nn) (e (nn + 1)) (e (nn + 2)) L → (nn : Int) = 40 + 4 * ((w 0).toInt % 41) → rp (w2 nn2) (e2 (nn2 + 1)) (e2 (nn2 + 2)) ((ed_sort L x1 x2).getD L) ∧ (w2 0).toInt = (w 0).toInt + edn (ed_sort L x1 x2) ∧ (w2 1).toInt = (w 1).toInt + edn (ed_sort L x1 x2) * (0) ∧ (nn2 : Int) = 40 + 4 * ((w2 0).toInt % 41) ∧ (bd (w nn) (e (nn + 1)) (e (nn + 3)) → bd (w2 nn2) (e2 (nn2 + 1)) (e2 (nn2 + 3)))))))) := by
  refine mt_X10_sort rfl (fun J hC => ?_)
  have ro_nn : cw_ro K nn := hI.2.1.2.1
  have ro_dn : cw_ro K dn := hI.2.1.2.2.1
  have hu1 := hI.2.1
  unfold cw_W at hu1
  replace hu1 := And.intro hu1.1 (And.intro (And.intro hu1.2.1.1 hu1.2.1.2.1) (And.intro (And.intro hu1.2.2.1.1 hu1.2.2.1.2.1) (And.intro hu1.2.2.2.1 (And.intro hu1.2.2.2.2.2.1 hu1.2.2.2.2.2.2))))
  have zs2 := cw_sz hI ro_nn
  have zs3 := cw_sz hI ro_dn
  have rg_x1 := pm_rng x1
  have rg_x2 := pm_rng x2
  refine hC.1 0 0 _ _ rfl _ _ _ _ _ ?_
  refine Exists.intro _ (And.intro (cw_o0 hI.1) ?_)
  refine Exists.intro _ (And.intro (cw_o1 hI.1) ?_)
  refine And.intro (Exists.intro _ (cw_ro_o hI.1 ro_nn)) (Exists.intro _ (Exists.intro _ (Exists.intro _ (Exists.intro _ (And.intro (c_X7_isSpan hI hs ro_nn x1 x2 ) (And.intro rfl (fun r9 A9 h9 => ?_)))))))
  rcases h9 with ⟨y4, rfl, rfl, ⟨rfl, by4⟩ | ⟨rfl, by4⟩⟩
  · skip
    have k1 : (1 : Int32).toInt = 1 := rfl
    refine And.intro (fun _ => ?_) (fun c9 => absurd c9 (by decide))
    refine hC.1 1 19 _ _ rfl _ _ _ _ _ ?_
    refine Exists.intro _ (And.intro (cw_o0 hI.1) ?_)
    refine And.intro (Exists.intro _ (cw_o1 hI.1)) (Exists.intro _ (Exists.intro _ (Exists.intro _ (Exists.intro _ (And.intro (F_X9_begin hI hs  (by omega)) (And.intro rfl (fun r9 A9 h9 => ?_)))))))
    obtain ⟨K7, dn7, q7, w7, e7, rfl, rfl, hI7, hX7, hk7, hw7, hy7, hdn7, hfm7, hz7⟩ := h9
    have hq7_0 : q 0 = q7 0 := (hX7.2.1 0 (by omega)).symm
    have hq7_nn : q nn = q7 nn := (hX7.2.1 nn (by omega)).symm
    rw [hq7_0, hq7_nn]
    have hw7_0 := congrArg Int32.toInt hw7.1
    have hw7_1 := congrArg Int32.toInt hw7.2.1
    have hw7_3 := congrArg Int32.toInt hw7.2.2.2
    have ro7 : cw_ro K7 dn7 := hI7.2.1.2.2.1
    have rn7 : cw_ro K7 nn := hI7.2.1.2.1
    have hx7 : e7 15 = e 15 := hy7.trans rfl
    have hu8 := hI7.2.1
    unfold cw_W at hu8
    replace hu8 := And.intro hu8.1 (And.intro (And.intro hu8.2.1.1 hu8.2.1.2.1) (And.intro (And.intro hu8.2.2.1.1 hu8.2.2.1.2.1) (And.intro hu8.2.2.2.1 (And.intro hu8.2.2.2.2.2.1 hu8.2.2.2.2.2.2))))
    have zs9 := cw_sz hI7 rn7
    have zs10 := cw_sz hI7 ro7
    have hz9 := hz7
    have hL7 : ∀ L, rp (w nn) (e (nn + 1)) (e (nn + 2)) L → (nn : Int) = 40 + 4 * ((w 0).toInt % 41) → nn ≠ dn7 ∧ rp (w7 nn) (e7 (nn + 1)) (e7 (nn + 2)) L := hL_b ro_nn ro7 hdn7 hfm7
    refine Exists.intro _ (And.intro (cw_o0 hI7.1) ?_)
    have k0 : (0 : Int32).toInt = 0 := rfl
    intro m11 em_33
    try have e11 : m11.toInt = (x1).toInt - (1) := by rw [em_33]; exact pm_subc _ _ (1) rfl (by omega) (by omega)
    have hp_34 := hL7
    refine And.intro (Exists.intro _ (cw_o1 hI7.1)) (Exists.intro _ (Exists.intro _ (Exists.intro _ (Exists.intro _ (And.intro (F_X9_keep hI7 hs (0 : Int32) m11 ) (And.intro rfl (fun r9 A9 h9 => ?_)))))))
    rcases h9 with ⟨w13, e13, v13, f13, rfl, hI13, hs13, hy13, rfl, by12⟩
    have hx13 : e13 15 = e 15 := hy13.trans hx7
    have zs14 := cw_sz hI13 rn7
    have zs15 := cw_sz hI13 ro7
    have hb_34 := by12.2
    have hL13 : ∀ L, rp (w nn) (e (nn + 1)) (e (nn + 2)) L → (nn : Int) = 40 + 4 * ((w 0).toInt % 41) → nn ≠ dn7 ∧ rp (w13 nn) (e13 (nn + 1)) (e13 (nn + 2)) L := hL_k hL7 rn7 ro7 hb_34.1
    have sw13_0 : (w13 0).toInt = (w 0).toInt := by12.1.1.trans hw7_0
    have sw13_1 : (w13 1).toInt = (w 1).toInt := by12.1.2.1.trans hw7_1
    have sw13_3 : (w13 3).toInt = (w 3).toInt := by12.1.2.2.trans hw7_3
    clear by12
    have lp17 : ∀ (n : Nat) (z4_40 : Int32) (w16 : Nat → Int32) (e16 : Nat → Nat → Int32) (v16 : Nat → Int32) (f16 : Nat → Nat → Int32), cw_I K7 nn dn7 q7 w16 e16 → e16 15 = e 15 → (∀ L, rp (w nn) (e (nn + 1)) (e (nn + 2)) L → (nn : Int) = 40 + 4 * ((w 0).toInt % 41) → nn ≠ dn7 ∧ rp (w16 nn) (e16 (nn + 1)) (e16 (nn + 2)) L) → cw_S v16 f16 → (0 ≤ z4_40.toInt ∧ z4_40.toInt ≤ 24) → (∀ L, rp (w nn) (e (nn + 1)) (e (nn + 2)) L → (nn : Int) = 40 + 4 * ((w 0).toInt % 41) → rp (w16 dn7) (e16 (dn7 + 1)) (e16 (dn7 + 2)) (si L 0 x1.toInt ++ st_l (si L x1.toInt (x2.toInt + 1)) z4_40.toInt.toNat)) → (w16 0).toInt = (w 0).toInt → (w16 1).toInt = (w 1).toInt → (w16 3).toInt = (w 3).toInt → 200 - z4_40.toInt < (n : Int) → J 40 [some (.ref (q7 0)), some (.int x1), some (.int x2), some (.ref (q7 nn)), some (.int z4_40)] [] (cw A0 g K7 nn dn7 q7 w16 e16 v16 f16) 4 485 := by
      intro n
      induction n with
      | zero =>
        intro z4_40 w16 e16 v16 f16 hI16 hx16 hL16 hs16 j0_40 j1_40 j2_40 j3_40 j4_40 j5_40
        clear hu8 zs9 zs10 zs14 zs15 sw13_0 sw13_1 sw13_3
        omega
      | succ n ih18 =>
        intro z4_40 w16 e16 v16 f16 hI16 hx16 hL16 hs16 j0_40 j1_40 j2_40 j3_40 j4_40 j5_40
        clear hu8 zs9 zs10 zs14 zs15 sw13_0 sw13_1 sw13_3
        have hu19 := hI16.2.1
        unfold cw_W at hu19
        replace hu19 := And.intro hu19.1 (And.intro (And.intro hu19.2.1.1 hu19.2.1.2.1) (And.intro (And.intro hu19.2.2.1.1 hu19.2.2.1.2.1) (And.intro hu19.2.2.2.1 (And.intro hu19.2.2.2.2.2.1 hu19.2.2.2.2.2.2))))
        have zs20 := cw_sz hI16 rn7
        have zs21 := cw_sz hI16 ro7
        refine hC.1 2 40 _ _ rfl _ _ _ _ _ ?_
        have k24 : (24 : Int32).toInt = 24 := rfl
        refine And.intro (fun c22 => ?_) (fun c22 => ?_)
        · skip
          refine hC.1 3 64 _ _ rfl _ _ _ _ _ ?_
          refine Exists.intro _ (And.intro (cw_o0 hI16.1) ?_)
          intro m23 em_70
          try have e23 : m23.toInt = (x2).toInt + (1) := by rw [em_70]; exact pm_addc _ _ (1) rfl (by omega) (by omega)
          refine Exists.intro _ (And.intro (cw_ro_o hI16.1 rn7) ?_)
          have z24 := cw_sz hI16 rn7
          intro m25 em_76
          try have e25 : m25.toInt = ((w16 nn)).toInt - (1) := by rw [em_76]; exact pm_subc _ _ (1) rfl (by omega) (by omega)
          have hp_77 := hL16
          refine And.intro (Exists.intro _ (cw_o1 hI16.1)) (Exists.intro _ (Exists.intro _ (Exists.intro _ (Exists.intro _ (And.intro (F_X9_keep hI16 hs16 m23 m25 ) (And.intro rfl (fun r9 A9 h9 => ?_)))))))
          rcases h9 with ⟨w27, e27, v27, f27, rfl, hI27, hs27, hy27, rfl, by26⟩
          have hx27 : e27 15 = e 15 := hy27.trans hx16
          have zs28 := cw_sz hI27 rn7
          have zs29 := cw_sz hI27 ro7
          have hb_77 := by26.2
          have hL27 : ∀ L, rp (w nn) (e (nn + 1)) (e (nn + 2)) L → (nn : Int) = 40 + 4 * ((w 0).toInt % 41) → nn ≠ dn7 ∧ rp (w27 nn) (e27 (nn + 1)) (e27 (nn + 2)) L := hL_k hL16 rn7 ro7 hb_77.1
          have sw27_0 : (w27 0).toInt = (w16 0).toInt := by26.1.1
          have sw27_1 : (w27 1).toInt = (w16 1).toInt := by26.1.2.1
          have sw27_3 : (w27 3).toInt = (w16 3).toInt := by26.1.2.2
          clear by26
          refine Exists.intro _ (And.intro (cw_o0 hI27.1) ?_)
          have hp_84 := hL27
          refine And.intro (Exists.intro _ (cw_o1 hI27.1)) (Exists.intro _ (Exists.intro _ (Exists.intro _ (Exists.intro _ (And.intro (G_X9_finish hI27 hs27  (by omega) (by omega)) (And.intro rfl (fun r9 A9 h9 => ?_)))))))
          rcases h9 with ⟨w31, e31, v31, f31, rfl, hI31, hs31, hy31, y30, rfl, by30⟩
          have hx31 : e31 15 = e 15 := hy31.trans hx27
          have hu32 := hI31.2.1.2.2.2.1
          have hu33 := hI31.2.1.2.2.2.2.1
          clear zs28 zs29
          have zs34 := cw_sz hI31 ro7
          have zs35 := cw_sz hI31 ro7
          have hb_84 := by30.2
          have sw31_1 : (w31 1).toInt = (w16 1).toInt := by30.1.1.trans sw27_1
          have sw31_3 : (w31 3).toInt = (w16 3).toInt := by30.1.2.1.trans sw27_3
          have sp31 := by30.1.2.2
          clear by30 sw27_1 sw27_3
          exact ⟨rfl, fun e9 => absurd e9 (by decide), rfl, K7, dn7, dn7, q7, w31, e31, v31, f31, rfl, hI31, hs31, hX7, hx31, y30, rfl, by first | omega | (dsimp only; omega) | trivial, by intro L hL hN; have hl := hL.1; rw [ed_sort, if_pos (by omega)]; have t2 := j1_40 L hL hN; rw [show z4_40.toInt.toNat = 24 by omega] at t2; have h6 := st_len (si L x1.toInt (x2.toInt + 1)) 24; have s1 := si_len (L := L) (a := 0) (b := x1.toInt) (by omega) (by omega) (by omega); have s2 := si_len (L := L) (a := x1.toInt) (b := x2.toInt + 1) (by omega) (by omega) (by omega); have q3 := hp_77 L hL hN; have z3 := q3.2.1; have t3 := hb_77.2 L (_) (x2.toInt + 1) (L.length) q3.2 q3.1 (by omega) (by omega) (by omega) (by omega) (by omega) (by first | omega | (simp only [List.length_append, List.length_nil, List.length_cons, List.length_map, List.length_reverse, nw_len, dr_len]; omega)) t2; have k3 := si_len (L := L) (a := x2.toInt + 1) (b := L.length) (by omega) (by omega) (by omega); exact ⟨hb_84.2.1 _ t3, by show _ = _ + (1 : Int); omega, by show _ = _ + (1 : Int) * _; omega, by omega, fun _ => hb_84.2.2⟩⟩
        · skip
          refine Exists.intro _ (And.intro (cw_o0 hI16.1) ?_)
          have hp_55 := hL16
          refine And.intro (Exists.intro _ (cw_o1 hI16.1)) (Exists.intro _ (Exists.intro _ (Exists.intro _ (Exists.intro _ (And.intro (F_X9_keepThoseOf hI16 hs16 z4_40 x1 x2 (by omega)) (And.intro rfl (fun r9 A9 h9 => ?_)))))))
          rcases h9 with ⟨w37, e37, v37, f37, rfl, hI37, hs37, hy37, rfl, by36⟩
          have hx37 : e37 15 = e 15 := hy37.trans hx16
          have zs38 := cw_sz hI37 rn7
          have zs39 := cw_sz hI37 ro7
          have hb_55 := by36.2
          have hL37 : ∀ L, rp (w nn) (e (nn + 1)) (e (nn + 2)) L → (nn : Int) = 40 + 4 * ((w 0).toInt % 41) → nn ≠ dn7 ∧ rp (w37 nn) (e37 (nn + 1)) (e37 (nn + 2)) L := hL_k hL16 rn7 ro7 hb_55.1
          have sw37_0 : (w37 0).toInt = (w16 0).toInt := by36.1.1
          have sw37_1 : (w37 1).toInt = (w16 1).toInt := by36.1.2.1
          have sw37_3 : (w37 3).toInt = (w16 3).toInt := by36.1.2.2
          clear by36
          intro m40 em_58
          try have e40 : m40.toInt = (z4_40).toInt + (1) := by rw [em_58]; exact pm_addc _ _ (1) rfl (by omega) (by omega)
          exact ih18 m40 w37 e37 v37 f37 hI37 hx37 hL37 hs37 (by omega) (by intro L hL hN; have hl := hL.1; have q2 := hp_55 L hL hN; have z2 := q2.2.1; have s2 := si_len (L := L) (a := 0) (b := x1.toInt) (by omega) (by omega) (by omega); have s3 := si_len (L := L) (a := x1.toInt) (b := x2.toInt + 1) (by omega) (by omega) (by omega); have h6 := st_len (si L x1.toInt (x2.toInt + 1)) (z4_40.toInt.toNat + 1); have h7 : st_l (si L x1.toInt (x2.toInt + 1)) (z4_40.toInt.toNat + 1) = st_l (si L x1.toInt (x2.toInt + 1)) z4_40.toInt.toNat ++ (si L x1.toInt (x2.toInt + 1)).filter (fun p => decide (p.1.toInt = z4_40.toInt)) := (by show _ ++ List.filter (fun p : pl_P => decide (p.1.toInt = ((z4_40.toInt.toNat : Nat) : Int))) _ = _; rw [show ((z4_40.toInt.toNat : Nat) : Int) = z4_40.toInt by omega]); rw [h7, List.length_append] at h6; have t2 := hb_55.2 L _ x1.toInt (x2.toInt + 1) q2.2 q2.1 rfl rfl (by omega) (by omega) (by omega) (by first | omega | (simp only [List.length_append, List.length_nil, List.length_cons, List.length_map, List.length_reverse, nw_len, dr_len]; omega)) (j1_40 L hL hN); rw [show m40.toInt.toNat = z4_40.toInt.toNat + 1 by omega, h7, ← List.append_assoc]; exact t2) (by omega) (by omega) (by omega) (by omega)
    exact lp17 (200 - (0 : Int32).toInt).toNat.succ (0 : Int32) w13 e13 v13 f13 hI13 hx13 hL13 hs13 (by omega) (by intro L hL hN; have hl := hL.1; have q1 := hp_34 L hL hN; have z1 := q1.2.1; have t1 := hb_34.2 L ([]) (0) (x1.toInt) q1.2 q1.1 (by omega) (by omega) (by omega) (by omega) (by omega) (by first | omega | (simp only [List.length_append, List.length_nil, List.length_cons, List.length_map, List.length_reverse, nw_len, dr_len]; omega)) (rp_0 hz9); have k1 := si_len (L := L) (a := 0) (b := x1.toInt) (by omega) (by omega) (by omega); rw [List.nil_append] at t1; show rp _ _ _ (_ ++ []); rw [List.append_nil]; exact t1) (by omega) (by omega) (by omega) (by omega)
  · skip
    have k0 : (0 : Int32).toInt = 0 := rfl
    refine And.intro (fun c9 => absurd c9 (by decide)) (fun _ => ?_)
    have km1 : (-1 : Int32).toInt = -1 := rfl
    exact ⟨rfl, fun e9 => absurd e9 (by decide), rfl, K, nn, dn, q, w, e, v, f, rfl, hI, hs, cw_X_r, rfl, (-1 : Int32), rfl, by first | omega | (dsimp only; omega) | trivial, by intro L hL hN; have hl := hL.1; rw [ed_sort, if_neg (by omega)]; exact ⟨hL, by show _ = _ + (0 : Int); omega, by show _ = _ + (0 : Int) * _; omega, hN, fun h8 => h8⟩⟩

set_option maxRecDepth 100000 in
set_option maxHeartbeats 2000000 in
theorem H_X10_draw (hI : cw_I K nn dn q w e) (hs : cw_S v f) (x1 : Int32) (x2 : Int32) (x3 : Int32) (p0 : (w 0).toInt < 100000) : pm_Mt l g 40 4 4 485 [.ref (q 0), .int x1, .int x2, .int x3] (cw A0 g K nn dn q w e v f) (cw_Qb A0 g K nn q (fun r K2 nn2 dn2 w2 e2 => e2 15 = e 15 ∧ (∃ x : Int32, r = some (.int x) ∧ (((w2 0).toInt ≤ (w 0).toInt + 1 ∧ (w 0).toInt ≤ (w2 0).toInt) ∧ (∀ L, rp (w nn) (e (nn + 1)) (e (nn + 2)) L → (nn : Int) = 40 + 4 * ((w 0).toInt % 41) → rp (w2 nn2) (e2 (nn2 + 1)) (e2 (nn2 + 2)) ((ed_draw L (w 1) x1 x2 x3).getD L) ∧ (w2 0).toInt = (w 0).toInt + edn (ed_draw L (w 1) x1 x2 x3) ∧ (w2 1).toInt = (w 1).toInt + edn (ed_draw L (w 1) x1 x2 x3) * (x2.toInt) ∧ (nn2 : Int) = 40 + 4 * ((w2 0).toInt % 41) ∧ (bd (w nn) (e (nn + 1)) (e (nn + 3)) → bd (w2 nn2) (e2 (nn2 + 1)) (e2 (nn2 + 3)))))))) := by
  refine mt_X10_draw rfl (fun J hC => ?_)
  have ro_nn : cw_ro K nn := hI.2.1.2.1
  have ro_dn : cw_ro K dn := hI.2.1.2.2.1
  have hu1 := hI.2.1
  unfold cw_W at hu1
  replace hu1 := And.intro hu1.1 (And.intro (And.intro hu1.2.1.1 hu1.2.1.2.1) (And.intro (And.intro hu1.2.2.1.1 hu1.2.2.1.2.1) (And.intro hu1.2.2.2.1 (And.intro hu1.2.2.2.2.2.1 hu1.2.2.2.2.2.2))))
  have zs2 := cw_sz hI ro_nn
  have zs3 := cw_sz hI ro_dn
  have rg_x1 := pm_rng x1
  have rg_x2 := pm_rng x2
  have rg_x3 := pm_rng x3
  refine hC.1 0 0 _ _ rfl _ _ _ _ _ ?_
  refine And.intro (fun c4 => ?_) (fun c4 => ?_)
  · skip
    refine hC.1 1 27 _ _ rfl _ _ _ _ _ ?_
    have k0 : (0 : Int32).toInt = 0 := rfl
    refine hC.1 2 28 _ _ rfl _ _ _ _ _ ?_
    refine And.intro (fun _ => ?_) (fun c9 => absurd c9 (by decide))
    refine hC.1 3 57 _ _ rfl _ _ _ _ _ ?_
    have km1 : (-1 : Int32).toInt = -1 := rfl
    exact ⟨rfl, fun e9 => absurd e9 (by decide), rfl, K, nn, dn, q, w, e, v, f, rfl, hI, hs, cw_X_r, rfl, (-1 : Int32), rfl, by first | omega | (dsimp only; omega) | trivial, by intro L hL hN; have hl := hL.1; rw [ed_draw, if_neg (by omega)]; exact ⟨hL, by show _ = _ + (0 : Int); omega, by show _ = _ + (0 : Int) * _; omega, hN, fun h8 => h8⟩⟩
  · skip
    have k9999 : (9999 : Int32).toInt = 9999 := rfl
    refine And.intro (fun c5 => ?_) (fun c5 => ?_)
    · skip
      refine hC.1 1 27 _ _ rfl _ _ _ _ _ ?_
      have k0 : (0 : Int32).toInt = 0 := rfl
      refine hC.1 2 28 _ _ rfl _ _ _ _ _ ?_
      refine And.intro (fun _ => ?_) (fun c9 => absurd c9 (by decide))
      refine hC.1 3 57 _ _ rfl _ _ _ _ _ ?_
      have km1 : (-1 : Int32).toInt = -1 := rfl
      exact ⟨rfl, fun e9 => absurd e9 (by decide), rfl, K, nn, dn, q, w, e, v, f, rfl, hI, hs, cw_X_r, rfl, (-1 : Int32), rfl, by first | omega | (dsimp only; omega) | trivial, by intro L hL hN; have hl := hL.1; rw [ed_draw, if_neg (by omega)]; exact ⟨hL, by show _ = _ + (0 : Int); omega, by show _ = _ + (0 : Int) * _; omega, hN, fun h8 => h8⟩⟩
    · skip
      have k1 : (1 : Int32).toInt = 1 := rfl
      refine And.intro (fun c6 => ?_) (fun c6 => ?_)
      · skip
        refine hC.1 1 27 _ _ rfl _ _ _ _ _ ?_
        have k0 : (0 : Int32).toInt = 0 := rfl
        refine hC.1 2 28 _ _ rfl _ _ _ _ _ ?_
        refine And.intro (fun _ => ?_) (fun c9 => absurd c9 (by decide))
        refine hC.1 3 57 _ _ rfl _ _ _ _ _ ?_
        have km1 : (-1 : Int32).toInt = -1 := rfl
        exact ⟨rfl, fun e9 => absurd e9 (by decide), rfl, K, nn, dn, q, w, e, v, f, rfl, hI, hs, cw_X_r, rfl, (-1 : Int32), rfl, by first | omega | (dsimp only; omega) | trivial, by intro L hL hN; have hl := hL.1; rw [ed_draw, if_neg (by omega)]; exact ⟨hL, by show _ = _ + (0 : Int); omega, by show _ = _ + (0 : Int) * _; omega, hN, fun h8 => h8⟩⟩
      · skip
        have k160 : (160 : Int32).toInt = 160 := rfl
        refine And.intro (fun c7 => ?_) (fun c7 => ?_)
        · skip
          refine hC.1 1 27 _ _ rfl _ _ _ _ _ ?_
          have k0 : (0 : Int32).toInt = 0 := rfl
          refine hC.1 2 28 _ _ rfl _ _ _ _ _ ?_
          refine And.intro (fun _ => ?_) (fun c9 => absurd c9 (by decide))
          refine hC.1 3 57 _ _ rfl _ _ _ _ _ ?_
          have km1 : (-1 : Int32).toInt = -1 := rfl
          exact ⟨rfl, fun e9 => absurd e9 (by decide), rfl, K, nn, dn, q, w, e, v, f, rfl, hI, hs, cw_X_r, rfl, (-1 : Int32), rfl, by first | omega | (dsimp only; omega) | trivial, by intro L hL hN; have hl := hL.1; rw [ed_draw, if_neg (by omega)]; exact ⟨hL, by show _ = _ + (0 : Int); omega, by show _ = _ + (0 : Int) * _; omega, hN, fun h8 => h8⟩⟩
        · skip
          refine hC.1 2 28 _ _ rfl _ _ _ _ _ ?_
          refine And.intro (fun c9 => absurd c9 (by decide)) (fun _ => ?_)
          refine And.intro (fun c8 => ?_) (fun c8 => ?_)
          · skip
            refine hC.1 3 57 _ _ rfl _ _ _ _ _ ?_
            have km1 : (-1 : Int32).toInt = -1 := rfl
            exact ⟨rfl, fun e9 => absurd e9 (by decide), rfl, K, nn, dn, q, w, e, v, f, rfl, hI, hs, cw_X_r, rfl, (-1 : Int32), rfl, by first | omega | (dsimp only; omega) | trivial, by intro L hL hN; have hl := hL.1; rw [ed_draw, if_neg (by omega)]; exact ⟨hL, by show _ = _ + (0 : Int); omega, by show _ = _ + (0 : Int) * _; omega, hN, fun h8 => h8⟩⟩
          · skip
            have k24 : (24 : Int32).toInt = 24 := rfl
            refine And.intro (fun c9 => ?_) (fun c9 => ?_)
            · skip
              refine hC.1 3 57 _ _ rfl _ _ _ _ _ ?_
              have km1 : (-1 : Int32).toInt = -1 := rfl
              exact ⟨rfl, fun e9 => absurd e9 (by decide), rfl, K, nn, dn, q, w, e, v, f, rfl, hI, hs, cw_X_r, rfl, (-1 : Int32), rfl, by first | omega | (dsimp only; omega) | trivial, by intro L hL hN; have hl := hL.1; rw [ed_draw, if_neg (by omega)]; exact ⟨hL, by show _ = _ + (0 : Int); omega, by show _ = _ + (0 : Int) * _; omega, hN, fun h8 => h8⟩⟩
            · skip
              refine Exists.intro _ (And.intro (cw_o0 hI.1) ?_)
              refine And.intro (Exists.intro _ (cw_o1 hI.1)) (Exists.intro _ (Exists.intro _ (Exists.intro _ (Exists.intro _ (And.intro (c_X9_hasRoomFor hI hs x2 (by omega)) (And.intro rfl (fun r9 A9 h9 => ?_)))))))
              rcases h9 with ⟨y10, rfl, rfl, ⟨rfl, by10⟩ | ⟨rfl, by10⟩⟩
              · skip
                refine And.intro (fun _ => ?_) (fun c9 => absurd c9 (by decide))
                refine hC.1 4 59 _ _ rfl _ _ _ _ _ ?_
                refine Exists.intro _ (And.intro (cw_o0 hI.1) ?_)
                refine And.intro (Exists.intro _ (cw_o1 hI.1)) (Exists.intro _ (Exists.intro _ (Exists.intro _ (Exists.intro _ (And.intro (F_X9_begin hI hs  (by omega)) (And.intro rfl (fun r9 A9 h9 => ?_)))))))
                obtain ⟨K13, dn13, q13, w13, e13, rfl, rfl, hI13, hX13, hk13, hw13, hy13, hdn13, hfm13, hz13⟩ := h9
                have hq13_0 : q 0 = q13 0 := (hX13.2.1 0 (by omega)).symm
                rw [hq13_0]
                have hw13_0 := congrArg Int32.toInt hw13.1
                have hw13_1 := congrArg Int32.toInt hw13.2.1
                have hw13_3 := congrArg Int32.toInt hw13.2.2.2
                have ro13 : cw_ro K13 dn13 := hI13.2.1.2.2.1
                have rn13 : cw_ro K13 nn := hI13.2.1.2.1
                have hx13 : e13 15 = e 15 := hy13.trans rfl
                have hu14 := hI13.2.1
                unfold cw_W at hu14
                replace hu14 := And.intro hu14.1 (And.intro (And.intro hu14.2.1.1 hu14.2.1.2.1) (And.intro (And.intro hu14.2.2.1.1 hu14.2.2.1.2.1) (And.intro hu14.2.2.2.1 (And.intro hu14.2.2.2.2.2.1 hu14.2.2.2.2.2.2))))
                have zs15 := cw_sz hI13 rn13
                have zs16 := cw_sz hI13 ro13
                have hz9 := hz13
                have hL13 : ∀ L, rp (w nn) (e (nn + 1)) (e (nn + 2)) L → (nn : Int) = 40 + 4 * ((w 0).toInt % 41) → nn ≠ dn13 ∧ rp (w13 nn) (e13 (nn + 1)) (e13 (nn + 2)) L := hL_b ro_nn ro13 hdn13 hfm13
                refine Exists.intro _ (And.intro (cw_o0 hI13.1) ?_)
                have k0 : (0 : Int32).toInt = 0 := rfl
                refine Exists.intro _ (And.intro (cw_o0 hI13.1) ?_)
                refine Exists.intro _ (And.intro (cw_o1 hI13.1) ?_)
                refine Exists.intro _ (And.intro (cw_ro_o hI13.1 rn13) ?_)
                have z17 := cw_sz hI13 rn13
                intro m18 em_82
                try have e18 : m18.toInt = ((w13 nn)).toInt - (1) := by rw [em_82]; exact pm_subc _ _ (1) rfl (by omega) (by omega)
                have hp_83 := hL13
                refine And.intro (Exists.intro _ (cw_o1 hI13.1)) (Exists.intro _ (Exists.intro _ (Exists.intro _ (Exists.intro _ (And.intro (F_X9_keep hI13 hs (0 : Int32) m18 ) (And.intro rfl (fun r9 A9 h9 => ?_)))))))
                rcases h9 with ⟨w20, e20, v20, f20, rfl, hI20, hs20, hy20, rfl, by19⟩
                have hx20 : e20 15 = e 15 := hy20.trans hx13
                have zs21 := cw_sz hI20 rn13
                have zs22 := cw_sz hI20 ro13
                have hb_83 := by19.2
                have hL20 : ∀ L, rp (w nn) (e (nn + 1)) (e (nn + 2)) L → (nn : Int) = 40 + 4 * ((w 0).toInt % 41) → nn ≠ dn13 ∧ rp (w20 nn) (e20 (nn + 1)) (e20 (nn + 2)) L := hL_k hL13 rn13 ro13 hb_83.1
                have sw20_0 : (w20 0).toInt = (w 0).toInt := by19.1.1.trans hw13_0
                have sw20_1 : (w20 1).toInt = (w 1).toInt := by19.1.2.1.trans hw13_1
                have sw20_3 : (w20 3).toInt = (w 3).toInt := by19.1.2.2.trans hw13_3
                clear by19
                have lp24 : ∀ (n : Nat) (z5_92 : Int32) (z6_92 : Int32) (w23 : Nat → Int32) (e23 : Nat → Nat → Int32) (v23 : Nat → Int32) (f23 : Nat → Nat → Int32), cw_I K13 nn dn13 q13 w23 e23 → e23 15 = e 15 → (∀ L, rp (w nn) (e (nn + 1)) (e (nn + 2)) L → (nn : Int) = 40 + 4 * ((w 0).toInt % 41) → nn ≠ dn13 ∧ rp (w23 nn) (e23 (nn + 1)) (e23 (nn + 2)) L) → cw_S v23 f23 → (0 ≤ z6_92.toInt ∧ z6_92.toInt ≤ x2.toInt) → (0 ≤ z5_92.toInt ∧ z5_92.toInt ≤ 10006) → ((w23 1).toInt = (w 1).toInt + z6_92.toInt) → (z5_92.toInt = ds x1.toInt z6_92.toInt.toNat) → (∀ L, rp (w nn) (e (nn + 1)) (e (nn + 2)) L → (nn : Int) = 40 + 4 * ((w 0).toInt % 41) → rp (w23 dn13) (e23 (dn13 + 1)) (e23 (dn13 + 2)) (L ++ nw_l (w 1) (dr_l x1.toInt x3.toInt z6_92.toInt.toNat))) → (w23 0).toInt = (w 0).toInt → (w23 3).toInt = (w 3).toInt → 200 - z6_92.toInt < (n : Int) → J 92 [some (.ref (q13 0)), some (.int x1), some (.int x2), some (.int x3), some (.int (1 : Int32)), some (.int z5_92), some (.int z6_92)] [] (cw A0 g K13 nn dn13 q13 w23 e23 v23 f23) 4 485 := by
                  intro n
                  induction n with
                  | zero =>
                    intro z5_92 z6_92 w23 e23 v23 f23 hI23 hx23 hL23 hs23 j0_92 j1_92 j2_92 j3_92 j4_92 j5_92 j6_92 j7_92
                    clear hu14 zs15 zs16 zs21 zs22 sw20_0 sw20_1 sw20_3
                    omega
                  | succ n ih25 =>
                    intro z5_92 z6_92 w23 e23 v23 f23 hI23 hx23 hL23 hs23 j0_92 j1_92 j2_92 j3_92 j4_92 j5_92 j6_92 j7_92
                    clear hu14 zs15 zs16 zs21 zs22 sw20_0 sw20_1 sw20_3
                    obtain ⟨g92, eg92⟩ : ∃ z9, z9 = w23 1 := ⟨_, rfl⟩
                    have hu26 := hI23.2.1
                    unfold cw_W at hu26
                    replace hu26 := And.intro hu26.1 (And.intro (And.intro hu26.2.1.1 hu26.2.1.2.1) (And.intro (And.intro hu26.2.2.1.1 hu26.2.2.1.2.1) (And.intro hu26.2.2.2.1 (And.intro hu26.2.2.2.2.2.1 hu26.2.2.2.2.2.2))))
                    have zs27 := cw_sz hI23 rn13
                    have zs28 := cw_sz hI23 ro13
                    refine hC.1 5 92 _ _ rfl _ _ _ _ _ ?_
                    refine And.intro (fun c29 => ?_) (fun c29 => ?_)
                    · skip
                      refine hC.1 6 130 _ _ rfl _ _ _ _ _ ?_
                      refine Exists.intro _ (And.intro (cw_o0 hI23.1) ?_)
                      have hp_134 := hL23
                      refine And.intro (Exists.intro _ (cw_o1 hI23.1)) (Exists.intro _ (Exists.intro _ (Exists.intro _ (Exists.intro _ (And.intro (G_X9_finish hI23 hs23  (by omega) (by omega)) (And.intro rfl (fun r9 A9 h9 => ?_)))))))
                      rcases h9 with ⟨w31, e31, v31, f31, rfl, hI31, hs31, hy31, y30, rfl, by30⟩
                      have hx31 : e31 15 = e 15 := hy31.trans hx23
                      have hu32 := hI31.2.1.2.2.2.1
                      have hu33 := hI31.2.1.2.2.2.2.1
                      have zs34 := cw_sz hI31 ro13
                      have zs35 := cw_sz hI31 ro13
                      have hb_134 := by30.2
                      have sw31_1 : (w31 1).toInt = (w23 1).toInt := by30.1.1
                      have sw31_3 : (w31 3).toInt = (w23 3).toInt := by30.1.2.1
                      have sp31 := by30.1.2.2
                      clear by30
                      exact ⟨rfl, fun e9 => absurd e9 (by decide), rfl, K13, dn13, dn13, q13, w31, e31, v31, f31, rfl, hI31, hs31, hX13, hx31, y30, rfl, by first | omega | (dsimp only; omega) | trivial, by intro L hL hN; have hl := hL.1; rw [ed_draw, if_pos (by omega)]; have t2 := j4_92 L hL hN; rw [show z6_92.toInt.toNat = x2.toInt.toNat by omega] at t2; exact ⟨hb_134.2.1 _ t2, by show _ = _ + (1 : Int); omega, by show _ = _ + (1 : Int) * _; omega, by omega, fun _ => hb_134.2.2⟩⟩
                    · skip
                      have k137 : (137 : Int32).toInt = 137 := rfl
                      intro m36 em_103
                      try have e36 : m36.toInt = (z5_92).toInt * (137) := by rw [em_103]; exact pm_mulc _ _ (137) rfl (by omega) (by omega)
                      have k71 : (71 : Int32).toInt = 71 := rfl
                      intro m37 em_106
                      try have e37 : m37.toInt = (m36).toInt + (71) := by rw [em_106]; exact pm_addc _ _ (71) rfl (by omega) (by omega)
                      have k10007 : (10007 : Int32).toInt = 10007 := rfl
                      refine And.intro (by decide) ?_
                      intro m38 em_110
                      have e38 : 0 ≤ m38.toInt ∧ m38.toInt < 10007 ∧ m38.toInt = (m37).toInt % 10007 := by rw [em_110]; exact pm_remc _ _ 10007 rfl (by omega) (by decide)
                      have hd1 : ds x1.toInt (z6_92.toInt.toNat + 1) = m38.toInt := by show (137 * ds x1.toInt z6_92.toInt.toNat + 71) % 10007 = _; rw [← j3_92]; omega
                      refine Exists.intro _ (And.intro (cw_o0 hI23.1) ?_)
                      refine And.intro (fun e9 => by have e8 := congrArg Int32.toInt e9; have e7 : (0 : Int32).toInt = 0 := rfl; omega) ?_
                      intro m39 em_120
                      try have e39 := pm_rem m38 x3 (by omega) (by omega)
                      try rw [← em_120] at e39
                      obtain ⟨cc9, hcc9⟩ : ∃ z9, z9 = m39 := ⟨_, rfl⟩
                      have ecc := pm_rem m38 x3 (by omega) (by omega)
                      rw [← em_120, ← hcc9] at ecc
                      have hp_121 := hL23
                      refine And.intro (Exists.intro _ (cw_o1 hI23.1)) (Exists.intro _ (Exists.intro _ (Exists.intro _ (Exists.intro _ (And.intro (F_X9_add hI23 hs23 m39 (by omega) (by omega)) (And.intro rfl (fun r9 A9 h9 => ?_)))))))
                      rcases h9 with ⟨w41, e41, v41, f41, rfl, hI41, hs41, hy41, rfl, by40⟩
                      have hx41 : e41 15 = e 15 := hy41.trans hx23
                      have hu42 := hI41.2.1.2.2.2.2.2.1
                      have zs43 := cw_sz hI41 rn13
                      have zs44 := cw_sz hI41 ro13
                      have hb_121 := by40.2
                      have hL41 : ∀ L, rp (w nn) (e (nn + 1)) (e (nn + 2)) L → (nn : Int) = 40 + 4 * ((w 0).toInt % 41) → nn ≠ dn13 ∧ rp (w41 nn) (e41 (nn + 1)) (e41 (nn + 2)) L := hL_k hL23 rn13 ro13 hb_121.1
                      have sw41_0 : (w41 0).toInt = (w23 0).toInt := by40.1.1
                      have sw41_3 : (w41 3).toInt = (w23 3).toInt := by40.1.2.1
                      have sp41 := by40.1.2.2
                      clear by40
                      intro m45 em_124
                      try have e45 : m45.toInt = (z6_92).toInt + (1) := by rw [em_124]; exact pm_addc _ _ (1) rfl (by omega) (by omega)
                      exact ih25 m38 m45 w41 e41 v41 f41 hI41 hx41 hL41 hs41 (by omega) (by omega) (by omega) (by rw [show m45.toInt.toNat = z6_92.toInt.toNat + 1 by omega, hd1]) (by intro L hL hN; have hl := hL.1; have t2 := hb_121.2 _ (j4_92 L hL hN) (by first | omega | (simp only [List.length_append, List.length_nil, List.length_cons, List.length_map, List.length_reverse, nw_len, dr_len]; omega)); rw [← eg92] at t2; have h5 : Int32.ofInt (m38.toInt % x3.toInt) = cc9 := (by rw [← ecc.2.2, Int32.ofInt_toInt]); rw [show m45.toInt.toNat = z6_92.toInt.toNat + 1 by omega, dr_s, hd1, nw_app (g2 := g92) (by rw [eg92, dr_len]; omega) (by rw [dr_len]; omega), ← List.append_assoc, h5, hcc9]; exact t2) (by omega) (by omega) (by omega)
                exact lp24 (200 - (0 : Int32).toInt).toNat.succ x1 (0 : Int32) w20 e20 v20 f20 hI20 hx20 hL20 hs20 (by omega) (by omega) (by omega) (by rfl) (by intro L hL hN; have hl := hL.1; have q1 := hp_83 L hL hN; have z1 := q1.2.1; have t1 := hb_83.2 L ([]) (0) (L.length) q1.2 q1.1 (by omega) (by omega) (by omega) (by omega) (by omega) (by first | omega | (simp only [List.length_append, List.length_nil, List.length_cons, List.length_map, List.length_reverse, nw_len, dr_len]; omega)) (rp_0 hz9); have k1 := si_len (L := L) (a := 0) (b := L.length) (by omega) (by omega) (by omega); rw [List.nil_append] at t1; rw [si_all] at t1; show rp _ _ _ (L ++ []); rw [List.append_nil]; exact t1) (by omega) (by omega) (by omega)
              · skip
                have k0 : (0 : Int32).toInt = 0 := rfl
                refine And.intro (fun c9 => absurd c9 (by decide)) (fun _ => ?_)
                refine hC.1 3 57 _ _ rfl _ _ _ _ _ ?_
                have km1 : (-1 : Int32).toInt = -1 := rfl
                exact ⟨rfl, fun e9 => absurd e9 (by decide), rfl, K, nn, dn, q, w, e, v, f, rfl, hI, hs, cw_X_r, rfl, (-1 : Int32), rfl, by first | omega | (dsimp only; omega) | trivial, by intro L hL hN; have hl := hL.1; rw [ed_draw, if_neg (by omega)]; exact ⟨hL, by show _ = _ + (0 : Int); omega, by show _ = _ + (0 : Int) * _; omega, hN, fun h8 => h8⟩⟩

end
end
section
/-! what is told of a row, as functions of its colours c, names m, number n: at, colour, close -/
noncomputable def ct (c : Nat → Int32) (x : Int32) (l : Nat) : Nat → Nat
  | 0 => 0
  | k + 1 => ct c x l k + if c (l + k) = x then 1 else 0
theorem ct_y {c : Nat → Int32} {x : Int32} {l k : Nat} (h : c (l + k) = x) : ct c x l (k + 1) = ct c x l k + 1 := by rw [ct, if_pos h]
theorem ct_n {c : Nat → Int32} {x : Int32} {l k : Nat} (h : ¬ c (l + k) = x) : ct c x l (k + 1) = ct c x l k := by rw [ct, if_neg h, Nat.add_zero]
theorem ct_le (c : Nat → Int32) (x : Int32) (l : Nat) : ∀ k, ct c x l k ≤ k
  | 0 => Nat.le_refl _
  | k + 1 => by
    have ih := ct_le c x l k
    rw [ct]
    split <;> omega
end
section
/-! bits counted; counts of a span's colours; the palette -/
theorem cntB_clr {x y : Int32} {i : Nat} (hx : bt x i = true) (h : ∀ j, bt y j = (decide (j ≠ i) && bt x j)) : ∀ k, cntB y k + (if i < k then 1 else 0) = cntB x k
  | 0 => by rw [if_neg (by omega)]; rfl
  | k + 1 => by
    have ih := cntB_clr hx h k
    rw [cntB, cntB]
    by_cases e : k = i
    · have hy : bt y k = false := by rw [h k, decide_eq_false (fun h9 => h9 e)]; rfl
      rw [hy, show bt x k = true by rw [e]; exact hx, if_neg (by decide), if_pos rfl, if_pos (by omega)]
      rw [if_neg (by omega)] at ih
      omega
    · have hy : bt y k = bt x k := by rw [h k, decide_eq_true e]; rfl
      rw [hy]
      obtain ⟨z, hz⟩ : ∃ z : Nat, z = (if bt x k = true then 1 else 0) := ⟨_, rfl⟩
      rw [← hz]
      by_cases e2 : i < k
      · rw [if_pos e2] at ih; rw [if_pos (by omega)]; omega
      · rw [if_neg e2] at ih; rw [if_neg (by omega)]; omega
theorem cntB_z : ∀ k, cntB 0 k = 0
  | 0 => rfl
  | k + 1 => by rw [cntB, cntB_z k, b_0, if_neg (by decide)]
theorem b_y1 {x c : Int32} (h : 0 ≤ c.toInt ∧ c.toInt ≤ 31) (hb : ((x >>> (c &&& 31)) &&& 1) = 1) : bt x c.toInt.toNat = true := b_y h (by rw [hb]; decide)
noncomputable def msB (W : Nat → Int32) (x : Int32) : Nat → Int32
  | 0 => 0
  | k + 1 => msB W x k + if bt x k = true then W k else 0
theorem msB_z (W : Nat → Int32) : ∀ k, msB W 0 k = 0
  | 0 => rfl
  | k + 1 => by rw [msB, msB_z W k, b_0, if_neg (by decide)]; rfl
theorem ad_r (a b c : Int32) : a + b + c = a + c + b := by rw [Int32.add_assoc, Int32.add_comm b c, ← Int32.add_assoc]
theorem msB_up {W : Nat → Int32} {x y : Int32} {i : Nat} (hx : bt x i = false) (hy : bt y i = true) (h : ∀ j, j ≠ i → bt y j = bt x j) : ∀ k, msB W y k = msB W x k + (if i < k then W i else 0)
  | 0 => by rw [if_neg (by omega)]; rfl
  | k + 1 => by
    have ih := msB_up (W := W) hx hy h k
    rw [msB, msB, ih]
    by_cases e : k = i
    · rw [e, hy, hx, if_neg (by omega), if_pos rfl, if_neg (by decide), if_pos (by omega), Int32.add_zero]
    · rw [h k e]
      by_cases e2 : i < k
      · rw [if_pos e2, if_pos (show i < k + 1 by omega), ad_r]
      · rw [if_neg e2, if_neg (show ¬ i < k + 1 by omega), ad_r]
theorem cntB_up {x y : Int32} {i : Nat} (hx : bt x i = false) (hy : bt y i = true) (h : ∀ j, j ≠ i → bt y j = bt x j) (k : Nat) : cntB y k = cntB x k + (if i < k then 1 else 0) := by
  refine (cntB_clr (x := y) (y := x) hy (fun j => ?_) k).symm
  by_cases e : j = i
  · rw [e, hx, decide_eq_false (fun h9 => h9 rfl)]; rfl
  · rw [h j e, decide_eq_true e]; rfl
noncomputable def upN (N : Nat → Nat) (c : Nat) : Nat → Nat := fun x => if x = c then N x + 1 else N x
theorem upN_s (N : Nat → Nat) (c : Nat) : upN N c c = N c + 1 := if_pos rfl
theorem upN_n {N : Nat → Nat} {c x : Nat} (h : x ≠ c) : upN N c x = N x := if_neg h
noncomputable def nc (c : Nat → Int32) (l : Nat) : Nat → (Nat → Nat)
  | 0 => fun _ => 0
  | k + 1 => upN (nc c l k) (c (l + k)).toInt.toNat
noncomputable def ok24 (c : Nat → Int32) : Prop := ∀ j, 0 ≤ (c j).toInt ∧ (c j).toInt ≤ 23
theorem nc_le (c : Nat → Int32) (l x : Nat) : ∀ k, nc c l k x ≤ k
  | 0 => Nat.le_refl _
  | k + 1 => by
    have ih := nc_le c l x k
    rw [nc]; unfold upN
    split <;> omega
theorem nc_ct {c : Nat → Int32} {l : Nat} {x : Int32} (hc : ok24 c) (hx : 0 ≤ x.toInt) : ∀ k, nc c l k x.toInt.toNat = ct c x l k
  | 0 => rfl
  | k + 1 => by
    have ih := nc_ct (l := l) hc hx k
    have h0 := hc (l + k)
    by_cases h : c (l + k) = x
    · rw [ct_y h, nc, h, upN_s, ih]
    · rw [ct_n h, nc, upN_n (fun e => h (pm_eqI (by omega))), ih]
theorem nc_eq {c d : Nat → Int32} {l : Nat} : ∀ k, (∀ j, l ≤ j → j < l + k → c j = d j) → nc c l k = nc d l k
  | 0, _ => rfl
  | k + 1, h => by rw [nc, nc, nc_eq k (fun j hi hj => h j hi (by omega)), h (l + k) (by omega) (by omega)]
theorem setF_eq {c d : Nat → Int32} {l : Nat} : ∀ k, (∀ j, l ≤ j → j < l + k → c j = d j) → setF c l k = setF d l k
  | 0, _ => rfl
  | k + 1, h => by rw [setF, setF, setF_eq k (fun j hi hj => h j hi (by omega)), h (l + k) (by omega) (by omega)]
theorem bt_set {c : Nat → Int32} {l : Nat} (hc : ok24 c) {i : Nat} (hi : i < 32) : ∀ k, bt (setF c l k) i = decide (0 < nc c l k i)
  | 0 => by
    show bt 0 i = _
    rw [b_0]; rfl
  | k + 1 => by
    have ih := bt_set (l := l) hc hi k
    have h0 := hc (l + k)
    rw [setF, b_or, b_one (by omega) hi, ih, nc]
    by_cases e : i = (c (l + k)).toInt.toNat
    · rw [decide_eq_true e, Bool.or_true, ← e, upN_s, decide_eq_true (by omega)]
    · rw [decide_eq_false e, Bool.or_false, upN_n e]
noncomputable def PAL (v k W : Nat → Int32) (N : Nat → Nat) (n : Int) : Prop := (∀ x, x < 24 → (k x).toInt = (N x : Int)) ∧ (v 1).toInt = n ∧ (v 2).toInt = (cntB (v 3) 24 : Int) ∧ (∀ i, i < 32 → bt (v 3) i = decide (0 < N i)) ∧ v 4 = msB W (v 3) 24 ∧ (∀ x, (N x : Int) ≤ n) ∧ n ≤ 1000 ∧ (∀ x, 24 ≤ x → N x = 0)
theorem PAL_0 {v k W : Nat → Int32} (hk : ∀ x, x < 24 → k x = 0) (h1 : v 1 = 0) (h2 : v 2 = 0) (h3 : v 3 = 0) (h4 : v 4 = 0) : PAL v k W (fun _ => 0) 0 := by
  refine ⟨fun x hx => by rw [hk x hx]; rfl, by rw [h1]; rfl, by rw [h2, h3, cntB_z]; rfl, fun i hi => by rw [h3, b_0]; rfl, by rw [h4, h3, msB_z], fun x => by simp, by decide, fun _ _ => rfl⟩
theorem PAL_new {v v2 k k2 W : Nat → Int32} {N : Nat → Nat} {n : Int} {c : Int32} (h : PAL v k W N n) (hc : 0 ≤ c.toInt ∧ c.toInt ≤ 23) (hn : n < 1000) (hk0 : ∀ x, x ≠ c.toInt.toNat → k2 x = k x) (hk : (k2 c.toInt.toNat).toInt = (k c.toInt.toNat).toInt + 1) (h0 : (k2 c.toInt.toNat).toInt = 1) (h1 : (v2 1).toInt = (v 1).toInt + 1) (h2 : (v2 2).toInt = (v 2).toInt + 1) (h3 : v2 3 = v 3 ||| ((1 : Int32) <<< (c &&& 31))) (h4 : v2 4 = v 4 + W c.toInt.toNat) : PAL v2 k2 W (upN N c.toInt.toNat) (n + 1) := by
  obtain ⟨p1, p2, p3, p4, p5, p6, p7, p8⟩ := h
  have q1 := p1 c.toInt.toNat (by omega)
  have hN : N c.toInt.toNat = 0 := by omega
  have b1 : bt (v 3) c.toInt.toNat = false := by rw [p4 _ (by omega), hN]; rfl
  have b2 : ∀ i, i < 32 → bt (v2 3) i = (bt (v 3) i || decide (i = c.toInt.toNat)) := fun i hi => by rw [h3, b_or, b_one (by omega) hi]
  have b3 : bt (v2 3) c.toInt.toNat = true := by rw [b2 _ (by omega), decide_eq_true rfl, Bool.or_true]
  have b4 : ∀ j, j ≠ c.toInt.toNat → bt (v2 3) j = bt (v 3) j := fun j hj => by
    by_cases h9 : j < 32
    · rw [b2 j h9, decide_eq_false hj, Bool.or_false]
    · rw [b_big (by omega), b_big (by omega)]
  refine ⟨fun x hx => ?_, by omega, ?_, fun i hi => ?_, ?_, fun x => ?_, by omega, fun x hx => ?_⟩
  · by_cases e : x = c.toInt.toNat
    · rw [e, upN_s]; omega
    · rw [upN_n e, hk0 x e]; exact p1 x hx
  · rw [cntB_up b1 b3 b4 24, if_pos (by omega)]; omega
  · by_cases e : i = c.toInt.toNat
    · rw [e, upN_s, b3, decide_eq_true (by omega)]
    · rw [upN_n e, b4 i e, p4 i hi]
  · rw [h4, p5, msB_up b1 b3 b4 24, if_pos (by omega)]
  · have := p6 x
    unfold upN; split <;> omega
  · rw [upN_n (by omega)]; exact p8 x hx
theorem PAL_old {v v2 k k2 W : Nat → Int32} {N : Nat → Nat} {n : Int} {c : Int32} (h : PAL v k W N n) (hc : 0 ≤ c.toInt ∧ c.toInt ≤ 23) (hn : n < 1000) (hk0 : ∀ x, x ≠ c.toInt.toNat → k2 x = k x) (hk : (k2 c.toInt.toNat).toInt = (k c.toInt.toNat).toInt + 1) (h0 : ¬ (k2 c.toInt.toNat).toInt = 1) (h1 : (v2 1).toInt = (v 1).toInt + 1) (h2 : v2 2 = v 2) (h3 : v2 3 = v 3) (h4 : v2 4 = v 4) : PAL v2 k2 W (upN N c.toInt.toNat) (n + 1) := by
  obtain ⟨p1, p2, p3, p4, p5, p6, p7, p8⟩ := h
  have q1 := p1 c.toInt.toNat (by omega)
  refine ⟨fun x hx => ?_, by omega, by rw [h2, h3]; exact p3, fun i hi => ?_, by rw [h3, h4]; exact p5, fun x => ?_, by omega, fun x hx => ?_⟩
  · by_cases e : x = c.toInt.toNat
    · rw [e, upN_s]; omega
    · rw [upN_n e, hk0 x e]; exact p1 x hx
  · rw [h3, p4 i hi]
    by_cases e : i = c.toInt.toNat
    · rw [e, upN_s, decide_eq_true (by omega), decide_eq_true (by omega)]
    · rw [upN_n e]
  · have := p6 x
    unfold upN; split <;> omega
  · rw [upN_n (by omega)]; exact p8 x hx
theorem PAL_t1 {v v1 v2 v3 v4 k k1 W : Nat → Int32} {m6 m18 m36 m63 c : Int32} (hc : 0 ≤ c.toInt ∧ c.toInt ≤ 23) (e7 : v1 = upd v 1 m6) (e6 : m6 = v 1 + 1) (e19 : k1 = upd k c.toInt.toNat m18) (e18 : m18 = k c.toInt.toNat + 1) (d : (k1 c.toInt.toNat).toInt = 1) (e37 : v2 = upd v1 2 m36) (e36 : m36 = v1 2 + 1) (e49 : v3 = upd v2 3 (v2 3 ||| ((1 : Int32) <<< (c &&& 31)))) (e64 : v4 = upd v3 4 m63) (e63 : m63 = v3 4 + W c.toInt.toNat) : (∀ N n, PAL v k W N n → n < 1000 → PAL v4 k1 W (upN N c.toInt.toNat) (n + 1)) ∧ (∀ i, i = 0 ∨ 5 ≤ i → v4 i = v i) := by
  have a2 : v1 2 = v 2 := by rw [e7, pk_un (by decide)]
  have a3 : v2 3 = v 3 := by rw [e37, pk_un (by decide), e7, pk_un (by decide)]
  have a4 : v3 4 = v 4 := by rw [e49, pk_un (by decide), e37, pk_un (by decide), e7, pk_un (by decide)]
  refine ⟨fun N n h hn => ?_, fun i hi => by rw [e64, pk_un (by omega), e49, pk_un (by omega), e37, pk_un (by omega), e7, pk_un (by omega)]⟩
  have h1 := h
  obtain ⟨p1, p2, p3, p4, p5, p6, p7, p8⟩ := h1
  have q1 := p1 c.toInt.toNat (by omega)
  have q2 := p6 c.toInt.toNat
  have q3 := cntB_le (v 3) 24
  have q4 := p6 0
  refine PAL_new h hc hn (fun x hx => by rw [e19, pk_un hx]) (by rw [e19, pk_us, e18]; exact pm_addc _ _ 1 rfl (by omega) (by omega)) d ?_ ?_ ?_ ?_
  · rw [e64, pk_un (by decide), e49, pk_un (by decide), e37, pk_un (by decide), e7, pk_us, e6]; exact pm_addc _ _ 1 rfl (by omega) (by omega)
  · rw [e64, pk_un (by decide), e49, pk_un (by decide), e37, pk_us, e36, a2]; exact pm_addc _ _ 1 rfl (by omega) (by omega)
  · rw [e64, pk_un (by decide), e49, pk_us, a3]
  · rw [e64, pk_us, e63, a4]
theorem PAL_t2 {v v1 k k1 W : Nat → Int32} {m6 m18 c : Int32} (hc : 0 ≤ c.toInt ∧ c.toInt ≤ 23) (e7 : v1 = upd v 1 m6) (e6 : m6 = v 1 + 1) (e19 : k1 = upd k c.toInt.toNat m18) (e18 : m18 = k c.toInt.toNat + 1) (d : ¬ (k1 c.toInt.toNat).toInt = 1) : (∀ N n, PAL v k W N n → n < 1000 → PAL v1 k1 W (upN N c.toInt.toNat) (n + 1)) ∧ (∀ i, i = 0 ∨ 5 ≤ i → v1 i = v i) := by
  refine ⟨fun N n h hn => ?_, fun i hi => by rw [e7, pk_un (by omega)]⟩
  have h1 := h
  obtain ⟨p1, p2, p3, p4, p5, p6, p7, p8⟩ := h1
  have q1 := p1 c.toInt.toNat (by omega)
  have q2 := p6 c.toInt.toNat
  have q4 := p6 0
  refine PAL_old h hc hn (fun x hx => by rw [e19, pk_un hx]) (by rw [e19, pk_us, e18]; exact pm_addc _ _ 1 rfl (by omega) (by omega)) d ?_ ?_ ?_ ?_
  · rw [e7, pk_us, e6]; exact pm_addc _ _ 1 rfl (by omega) (by omega)
  · rw [e7, pk_un (by decide)]
  · rw [e7, pk_un (by decide)]
  · rw [e7, pk_un (by decide)]
theorem PAL_set {v k W c : Nat → Int32} {l j : Nat} {n : Int} (hc : ok24 c) (h : PAL v k W (nc c l j) n) : v 3 = setF c l j := b_ext (fun i hi => by rw [h.2.2.2.1 i hi, bt_set hc hi])
noncomputable def sS (c : Nat → Int32) (l r : Int) : Int32 := setF c l.toNat (r + 1 - l).toNat
theorem sS_eq {c d : Nat → Int32} {n l r : Int} (hc : ∀ j : Nat, (j : Int) < n → c j = d j) (h : 0 ≤ l ∧ r < n) : sS c l r = sS d l r := setF_eq _ (fun j hi hj => hc j (by omega))
end
section
/-! colours by their bits: the k-th, those with more than a part -/
noncomputable def bf (s : Int32) (j : Nat) : Int32 := if bt s j = true then 1 else 0
theorem bf_1 {s : Int32} {j : Nat} : bf s j = 1 ↔ bt s j = true := by
  unfold bf
  by_cases h : bt s j = true
  · rw [if_pos h]; exact ⟨fun _ => h, fun _ => rfl⟩
  · rw [if_neg h]; exact ⟨fun e => absurd e (by decide), fun e => absurd e h⟩
theorem an_1 {s c : Int32} (h : 0 ≤ c.toInt ∧ c.toInt ≤ 31) : s &&& ((1 : Int32) <<< (c &&& 31)) = 0 ↔ bt s c.toInt.toNat = false := by
  constructor
  · intro e
    have h1 := b_and s ((1 : Int32) <<< (c &&& 31)) c.toInt.toNat
    rw [e, b_0, b_one h (by omega), decide_eq_true rfl, Bool.and_true] at h1
    exact h1.symm
  · intro e
    refine b_ext (fun i hi => ?_)
    rw [b_and, b_one h hi, b_0]
    by_cases q : i = c.toInt.toNat
    · rw [q, e]; rfl
    · rw [decide_eq_false q, Bool.and_false]
theorem by1 {s c : Int32} (h : 0 ≤ c.toInt ∧ c.toInt ≤ 31) (e : ¬ s &&& ((1 : Int32) <<< (c &&& 31)) = 0) : bf s c.toInt.toNat = 1 := by
  refine bf_1.mpr ?_
  cases q : bt s c.toInt.toNat with
  | true => rfl
  | false => exact absurd ((an_1 h).mpr q) e
end
section
section
variable {l : Launch} {g : pm_G} {A0 : pm_H} {h : Nat} {q : Nat → Nat}
set_option maxRecDepth 100000 in
set_option maxHeartbeats 2000000 in
theorem F_X11_timesIn (D : md_D h q) (v : Nat → Int32) (f : Nat → Nat → Int32) (hv : md_V v) (hf : md_F f) (x1 : Int32) (x2 : Int32) (x3 : Int32) (p0 : 0 ≤ x1.toInt ∧ x1.toInt ≤ 160) (p1 : -1 ≤ x2.toInt ∧ x2.toInt < 160) : pm_Mt l g 200 0 0 0 [.ref h, .int x1, .int x2, .int x3] (md A0 g h q v f) (md_Qp (md A0 g h q v f) (fun r => r.toInt = (ct (f 0) x3 x1.toInt.toNat (x2.toInt + 1 - x1.toInt).toNat : Int))) := by
  refine mt_X11_timesIn rfl (fun J hC => ?_)
  have hv9 := hv
  unfold md_V at hv9
  have rg_x1 := pm_rng x1
  have rg_x2 := pm_rng x2
  have rg_x3 := pm_rng x3
  refine hC.1 0 0 _ _ rfl _ _ _ _ _ ?_
  have k0 : (0 : Int32).toInt = 0 := rfl
  have lp1 : ∀ (n : Nat) (z4_6 : Int32) (z5_6 : Int32), (x1.toInt ≤ z5_6.toInt ∧ z5_6.toInt ≤ 161 ∧ (z5_6.toInt ≤ x2.toInt + 1 ∨ z5_6.toInt = x1.toInt)) → (z4_6.toInt = (ct (f 0) x3 x1.toInt.toNat (z5_6.toInt - x1.toInt).toNat : Int)) → 200 - z5_6.toInt < (n : Int) → J 6 [some (.ref h), some (.int x1), some (.int x2), some (.int x3), some (.int z4_6), some (.int z5_6)] [] (md A0 g h q v f) 0 0 := by
    intro n
    induction n with
    | zero =>
      intro z4_6 z5_6 j0_6 j1_6 j2_6
      omega
    | succ n ih2 =>
      intro z4_6 z5_6 j0_6 j1_6 j2_6
      have cl9 := ct_le (f 0) x3 x1.toInt.toNat (z5_6.toInt - x1.toInt).toNat
      refine hC.1 1 6 _ _ rfl _ _ _ _ _ ?_
      refine And.intro (fun c3 => ?_) (fun c3 => ?_)
      · skip
        refine hC.1 4 39 _ _ rfl _ _ _ _ _ ?_
        exact ⟨rfl, fun e9 => absurd e9 (by decide), rfl, z4_6, rfl, rfl, by refine Eq.trans j1_6 ?_; congr 2; omega⟩
      · skip
        refine Exists.intro _ (And.intro md_o ?_)
        refine Exists.intro _ (Exists.intro _ (And.intro (Or.inl (md_a_colours D)) (And.intro (by omega) ?_)))
        have w4 : (0 : Int) ≤ (f 0 (z5_6).toInt.toNat).toInt ∧ (f 0 (z5_6).toInt.toNat).toInt ≤ (23 : Int) := hf 0 _
        refine And.intro (fun c5 => ?_) (fun c5 => ?_)
        · skip
          have dc5 := pm_neI c5
          refine hC.1 2 29 _ _ rfl _ _ _ _ _ ?_
          refine hC.1 3 30 _ _ rfl _ _ _ _ _ ?_
          intro m6 em_30
          try have e6 : m6.toInt = (z4_6).toInt + (0) := by rw [em_30]; exact pm_addc _ _ (0) rfl (by omega) (by omega)
          have k1 : (1 : Int32).toInt = 1 := rfl
          intro m7 em_33
          try have e7 : m7.toInt = (z5_6).toInt + (1) := by rw [em_33]; exact pm_addc _ _ (1) rfl (by omega) (by omega)
          exact ih2 m6 m7 (by omega) (by rw [show (m7.toInt - x1.toInt).toNat = (z5_6.toInt - x1.toInt).toNat + 1 by omega]; first | (rw [ct_y (by rw [show x1.toInt.toNat + (z5_6.toInt - x1.toInt).toNat = z5_6.toInt.toNat by omega]; assumption)]; omega) | (rw [ct_n (by rw [show x1.toInt.toNat + (z5_6.toInt - x1.toInt).toNat = z5_6.toInt.toNat by omega]; assumption)]; omega)) (by omega)
        · skip
          have dc5 : ((f 0 (z5_6).toInt.toNat)).toInt = (x3 : Int32).toInt := congrArg Int32.toInt c5
          have k1 : (1 : Int32).toInt = 1 := rfl
          refine hC.1 3 30 _ _ rfl _ _ _ _ _ ?_
          intro m8 em_30
          try have e8 : m8.toInt = (z4_6).toInt + (1) := by rw [em_30]; exact pm_addc _ _ (1) rfl (by omega) (by omega)
          intro m9 em_33
          try have e9 : m9.toInt = (z5_6).toInt + (1) := by rw [em_33]; exact pm_addc _ _ (1) rfl (by omega) (by omega)
          exact ih2 m8 m9 (by omega) (by rw [show (m9.toInt - x1.toInt).toNat = (z5_6.toInt - x1.toInt).toNat + 1 by omega]; first | (rw [ct_y (by rw [show x1.toInt.toNat + (z5_6.toInt - x1.toInt).toNat = z5_6.toInt.toNat by omega]; assumption)]; omega) | (rw [ct_n (by rw [show x1.toInt.toNat + (z5_6.toInt - x1.toInt).toNat = z5_6.toInt.toNat by omega]; assumption)]; omega)) (by omega)
  exact lp1 (200 - x1.toInt).toNat.succ (0 : Int32) x1 (by omega) (by rw [show (x1.toInt - x1.toInt).toNat = 0 by omega]; rfl) (by omega)

end
end
section
section
variable {l : Launch} {g : pm_G} {A0 : pm_H} {K nn dn : Nat} {q : Nat → Nat} {w : Nat → Int32} {e : Nat → Nat → Int32} {v : Nat → Int32} {f : Nat → Nat → Int32}
set_option maxRecDepth 100000 in
set_option maxHeartbeats 2000000 in
theorem F_X2_clear (hI : cw_I K nn dn q w e) (hs : cw_S v f)   : pm_Mt l g 56 1 0 0 [.ref (q 2)] (cw A0 g K nn dn q w e v f) (cw_Qs A0 g K nn dn q w e (fun r v2 f2 => r = none ∧ ((True) ∧ (PAL v2 (f2 14) (e 15) (fun _ => 0) 0 ∧ (∀ i, i ≠ 14 → f2 i = f i) ∧ (∀ i, i = 0 ∨ 5 ≤ i → v2 i = v i))))) := by
  refine mt_X2_clear rfl (fun J hC => ?_)
  have ro_nn : cw_ro K nn := hI.2.1.2.1
  have ro_dn : cw_ro K dn := hI.2.1.2.2.1
  have hu1 := hI.2.1
  unfold cw_W at hu1
  refine hC.1 0 0 _ _ rfl _ _ _ _ _ ?_
  refine Exists.intro _ (And.intro (cw_o2 hI.1) ?_)
  have k0 : (0 : Int32).toInt = 0 := rfl
  refine Exists.intro _ (Exists.intro _ (Exists.intro _ (Exists.intro _ (And.intro (c_fill (cw_a14 hI.1) (by decide) (0 : Int32)) (And.intro rfl (fun r9 A9 h9 => ?_))))))
  obtain ⟨rfl, rfl⟩ := h9
  rw [cw_s14 hI.1]
  obtain ⟨f2, ef2⟩ : ∃ z9, z9 = va_up f 14 (fun j => if j < 24 then (0 : Int32) else f 14 j) := ⟨_, rfl⟩
  rw [← ef2]
  have hs2 : cw_S v f2 := by rw [ef2]; exact cw_S_fr hs _ _ (by decide) (by decide)
  have pf_5 := ef2
  refine Exists.intro _ (And.intro (cw_o2 hI.1) (And.intro rfl ?_))
  rw [cw_p_length hI.1]
  obtain ⟨v3, ev3⟩ : ∃ z9, z9 = upd v 1 (0 : Int32) := ⟨_, rfl⟩
  rw [← ev3]
  have hs3 : cw_S v3 f2 := by rw [ev3]; exact cw_S_v hs2 1 _ (by decide)
  have ev3_0 : (v3 0).toInt = (v 0).toInt := by rw [ev3]; rfl
  have pv_10 := ev3
  refine Exists.intro _ (And.intro (cw_o2 hI.1) (And.intro rfl ?_))
  rw [cw_p_kinds hI.1]
  obtain ⟨v4, ev4⟩ : ∃ z9, z9 = upd v3 2 (0 : Int32) := ⟨_, rfl⟩
  rw [← ev4]
  have hs4 : cw_S v4 f2 := by rw [ev4]; exact cw_S_v hs3 2 _ (by decide)
  have ev4_0 : (v4 0).toInt = (v3 0).toInt := by rw [ev4]; rfl
  have pv_15 := ev4
  refine Exists.intro _ (And.intro (cw_o2 hI.1) (And.intro rfl ?_))
  rw [cw_p_bits hI.1]
  obtain ⟨v5, ev5⟩ : ∃ z9, z9 = upd v4 3 (0 : Int32) := ⟨_, rfl⟩
  rw [← ev5]
  have hs5 : cw_S v5 f2 := by rw [ev5]; exact cw_S_v hs4 3 _ (by decide)
  have ev5_0 : (v5 0).toInt = (v4 0).toInt := by rw [ev5]; rfl
  have pv_20 := ev5
  refine Exists.intro _ (And.intro (cw_o2 hI.1) (And.intro rfl ?_))
  rw [cw_p_mass hI.1]
  obtain ⟨v6, ev6⟩ : ∃ z9, z9 = upd v5 4 (0 : Int32) := ⟨_, rfl⟩
  rw [← ev6]
  have hs6 : cw_S v6 f2 := by rw [ev6]; exact cw_S_v hs5 4 _ (by decide)
  have ev6_0 : (v6 0).toInt = (v5 0).toInt := by rw [ev6]; rfl
  have pv_25 := ev6
  exact ⟨rfl, rfl, v6, f2, rfl, hs6, rfl, by exact True.intro, by exact ⟨PAL_0 (fun x9 h9 => (by rw [pf_5, va_us, if_pos h9])) (by rw [pv_25, pk_un (by decide), pv_20, pk_un (by decide), pv_15, pk_un (by decide), pv_10, pk_us]) (by rw [pv_25, pk_un (by decide), pv_20, pk_un (by decide), pv_15, pk_us]) (by rw [pv_25, pk_un (by decide), pv_20, pk_us]) (by rw [pv_25, pk_us]), fun i9 h9 => (by rw [pf_5, va_un h9]), fun i9 h9 => (by rw [pv_25, pk_un (by omega), pv_20, pk_un (by omega), pv_15, pk_un (by omega), pv_10, pk_un (by omega)])⟩⟩

set_option maxRecDepth 100000 in
set_option maxHeartbeats 2000000 in
theorem F_X2_take (hI : cw_I K nn dn q w e) (hs : cw_S v f) (x1 : Int32) (p0 : 0 ≤ x1.toInt ∧ x1.toInt ≤ 23) : pm_Mt l g 57 0 0 0 [.ref (q 2), .int x1] (cw A0 g K nn dn q w e v f) (cw_Qs A0 g K nn dn q w e (fun r v2 f2 => r = none ∧ ((True) ∧ ((∀ N n, PAL v (f 14) (e 15) N n → n < 1000 → PAL v2 (f2 14) (e 15) (upN N x1.toInt.toNat) (n + 1)) ∧ (∀ i, i ≠ 14 → f2 i = f i) ∧ (∀ i, i = 0 ∨ 5 ≤ i → v2 i = v i))))) := by
  refine mt_X2_take rfl (fun J hC => ?_)
  have ro_nn : cw_ro K nn := hI.2.1.2.1
  have ro_dn : cw_ro K dn := hI.2.1.2.2.1
  have hu1 := hI.2.1
  unfold cw_W at hu1
  have rg_x1 := pm_rng x1
  refine hC.1 0 0 _ _ rfl _ _ _ _ _ ?_
  refine Exists.intro _ (And.intro (cw_o2 hI.1) ?_)
  have k1 : (1 : Int32).toInt = 1 := rfl
  intro m2 em_6
  refine Exists.intro _ (And.intro (cw_o2 hI.1) (And.intro rfl ?_))
  rw [cw_p_length hI.1]
  obtain ⟨v3, ev3⟩ : ∃ z9, z9 = upd v 1 m2 := ⟨_, rfl⟩
  rw [← ev3]
  have hs3 : cw_S v3 f := by rw [ev3]; exact cw_S_v hs 1 _ (by decide)
  have ev3_0 : (v3 0).toInt = (v 0).toInt := by rw [ev3]; rfl
  have pv_7 := ev3
  refine Exists.intro _ (And.intro (cw_o2 hI.1) ?_)
  refine Exists.intro _ (Exists.intro _ (And.intro (Or.inl (cw_a14 hI.1)) (And.intro (by omega) ?_)))
  intro m4 em_18
  refine Exists.intro _ (Exists.intro _ (And.intro (cw_a14 hI.1) (And.intro (by omega) ?_)))
  rw [cw_s14 hI.1]
  obtain ⟨f5, ef5⟩ : ∃ z9, z9 = va_up f 14 (upd (f 14) (x1).toInt.toNat m4) := ⟨_, rfl⟩
  rw [← ef5]
  have hs5 : cw_S v3 f5 := by rw [ef5]; exact cw_S_fr hs3 _ _ (by decide) (by decide)
  have pf_19 := ef5
  refine Exists.intro _ (And.intro (cw_o2 hI.1) ?_)
  refine Exists.intro _ (Exists.intro _ (And.intro (Or.inl (cw_a14 hI.1)) (And.intro (by omega) ?_)))
  refine And.intro (fun c6 => ?_) (fun c6 => ?_)
  · skip
    have dc6 := pm_neI c6
    refine hC.1 1 67 _ _ rfl _ _ _ _ _ ?_
    exact ⟨rfl, rfl, v3, f5, rfl, hs5, rfl, by exact True.intro, by first | (have t9 := PAL_t1 (W := e 15) (k := f 14) (k1 := f5 14) p0 pv_7 em_6 (by rw [pf_19, va_us]) em_18 (by omega) pv_37 em_36 pv_49 pv_64 em_63; exact ⟨t9.1, fun i9 h9 => (by rw [pf_19, va_un h9]), t9.2⟩) | (have t9 := PAL_t2 (W := e 15) (k := f 14) (k1 := f5 14) p0 pv_7 em_6 (by rw [pf_19, va_us]) em_18 (by omega); exact ⟨t9.1, fun i9 h9 => (by rw [pf_19, va_un h9]), t9.2⟩)⟩
  · skip
    have dc6 : ((f5 14 (x1).toInt.toNat)).toInt = ((1 : Int32) : Int32).toInt := congrArg Int32.toInt c6
    refine Exists.intro _ (And.intro (cw_o2 hI.1) ?_)
    intro m7 em_36
    refine Exists.intro _ (And.intro (cw_o2 hI.1) (And.intro rfl ?_))
    rw [cw_p_kinds hI.1]
    obtain ⟨v8, ev8⟩ : ∃ z9, z9 = upd v3 2 m7 := ⟨_, rfl⟩
    rw [← ev8]
    have hs8 : cw_S v8 f5 := by rw [ev8]; exact cw_S_v hs5 2 _ (by decide)
    have ev8_0 : (v8 0).toInt = (v3 0).toInt := by rw [ev8]; rfl
    have pv_37 := ev8
    refine Exists.intro _ (And.intro (cw_o2 hI.1) ?_)
    refine Exists.intro _ (And.intro (cw_o2 hI.1) (And.intro rfl ?_))
    rw [cw_p_bits hI.1]
    obtain ⟨v9, ev9⟩ : ∃ z9, z9 = upd v8 3 ((v8 3) ||| ((1 : Int32) <<< (x1 &&& 31))) := ⟨_, rfl⟩
    rw [← ev9]
    have hs9 : cw_S v9 f5 := by rw [ev9]; exact cw_S_v hs8 3 _ (by decide)
    have ev9_0 : (v9 0).toInt = (v8 0).toInt := by rw [ev9]; rfl
    have pv_49 := ev9
    refine Exists.intro _ (And.intro (cw_o2 hI.1) ?_)
    refine Exists.intro _ (And.intro (cw_o2 hI.1) ?_)
    refine Exists.intro _ (Exists.intro _ (And.intro (Or.inl (cw_a15 hI.1)) (And.intro (by omega) ?_)))
    intro m10 em_63
    refine Exists.intro _ (And.intro (cw_o2 hI.1) (And.intro rfl ?_))
    rw [cw_p_mass hI.1]
    obtain ⟨v11, ev11⟩ : ∃ z9, z9 = upd v9 4 m10 := ⟨_, rfl⟩
    rw [← ev11]
    have hs11 : cw_S v11 f5 := by rw [ev11]; exact cw_S_v hs9 4 _ (by decide)
    have ev11_0 : (v11 0).toInt = (v9 0).toInt := by rw [ev11]; rfl
    have pv_64 := ev11
    refine hC.1 1 67 _ _ rfl _ _ _ _ _ ?_
    exact ⟨rfl, rfl, v11, f5, rfl, hs11, rfl, by exact True.intro, by first | (have t9 := PAL_t1 (W := e 15) (k := f 14) (k1 := f5 14) p0 pv_7 em_6 (by rw [pf_19, va_us]) em_18 (by omega) pv_37 em_36 pv_49 pv_64 em_63; exact ⟨t9.1, fun i9 h9 => (by rw [pf_19, va_un h9]), t9.2⟩) | (have t9 := PAL_t2 (W := e 15) (k := f 14) (k1 := f5 14) p0 pv_7 em_6 (by rw [pf_19, va_us]) em_18 (by omega); exact ⟨t9.1, fun i9 h9 => (by rw [pf_19, va_un h9]), t9.2⟩)⟩

set_option maxRecDepth 100000 in
set_option maxHeartbeats 2000000 in
theorem F_X2_read (hI : cw_I K nn dn q w e) (hs : cw_S v f) {o1 : Nat} (ho1 : cw_ro K o1) (x2 : Int32) (x3 : Int32) (p0 : 0 ≤ x2.toInt ∧ x3.toInt < (w o1).toInt ∧ x2.toInt ≤ x3.toInt + 1) : pm_Mt l g 55 2 0 0 [.ref (q 2), .ref (q o1), .int x2, .int x3] (cw A0 g K nn dn q w e v f) (cw_Qs A0 g K nn dn q w e (fun r v2 f2 => r = none ∧ ((True) ∧ (PAL v2 (f2 14) (e 15) (nc (e (o1 + 1)) x2.toInt.toNat (x3.toInt + 1 - x2.toInt).toNat) (x3.toInt + 1 - x2.toInt) ∧ (∀ i, i ≠ 14 → f2 i = f i) ∧ (∀ i, i = 0 ∨ 5 ≤ i → v2 i = v i))))) := by
  refine mt_X2_read rfl (fun J hC => ?_)
  have ro_nn : cw_ro K nn := hI.2.1.2.1
  have ro_dn : cw_ro K dn := hI.2.1.2.2.1
  have hu1 := hI.2.1
  unfold cw_W at hu1
  have rg_x2 := pm_rng x2
  have rg_x3 := pm_rng x3
  have zz0 := cw_sz hI ho1
  refine hC.1 0 0 _ _ rfl _ _ _ _ _ ?_
  refine And.intro (Exists.intro _ (cw_o2 hI.1)) (Exists.intro _ (Exists.intro _ (Exists.intro _ (Exists.intro _ (And.intro (F_X2_clear hI hs  ) (And.intro rfl (fun r9 A9 h9 => ?_)))))))
  rcases h9 with ⟨v3, f3, rfl, hs3, rfl, by2⟩
  have hc9 := by2.2
  have lp5 : ∀ (n : Nat) (z4_7 : Int32) (v4 : Nat → Int32) (f4 : Nat → Nat → Int32), cw_S v4 f4 → (x2.toInt ≤ z4_7.toInt ∧ z4_7.toInt ≤ x3.toInt + 1) → (PAL v4 (f4 14) (e 15) (nc (e (o1 + 1)) x2.toInt.toNat (z4_7.toInt - x2.toInt).toNat) (z4_7.toInt - x2.toInt)) → ((∀ i, i ≠ 14 → f4 i = f i)) → ((∀ i, i = 0 ∨ 5 ≤ i → v4 i = v i)) → ((200 - z4_7.toInt).toNat : Int) < (n : Int) → J 7 [some (.ref (q 2)), some (.ref (q o1)), some (.int x2), some (.int x3), some (.int z4_7)] [] (cw A0 g K nn dn q w e v4 f4) 0 0 := by
    intro n
    induction n with
    | zero =>
      intro z4_7 v4 f4 hs4 j0_7 j1_7 j2_7 j3_7 j4_7
      omega
    | succ n ih6 =>
      intro z4_7 v4 f4 hs4 j0_7 j1_7 j2_7 j3_7 j4_7
      refine hC.1 1 7 _ _ rfl _ _ _ _ _ ?_
      refine And.intro (fun c7 => ?_) (fun c7 => ?_)
      · skip
        refine hC.1 2 39 _ _ rfl _ _ _ _ _ ?_
        exact ⟨rfl, rfl, v4, f4, rfl, hs4, rfl, by exact True.intro, by have h7 : z4_7.toInt = x3.toInt + 1 := (by omega); rw [h7] at j1_7; exact ⟨j1_7, j2_7, j3_7⟩⟩
      · skip
        refine And.intro (Exists.intro _ (cw_ro_o hI.1 ho1)) (Exists.intro _ (Exists.intro _ (Exists.intro _ (Exists.intro _ (And.intro (c_X7_has hI hs4 ho1 z4_7 ) (And.intro rfl (fun r9 A9 h9 => ?_)))))))
        rcases h9 with ⟨y8, rfl, rfl, ⟨rfl, by8⟩ | ⟨rfl, by8⟩⟩
        · skip
          have k1 : (1 : Int32).toInt = 1 := rfl
          refine And.intro (fun c9 => absurd c9 (by decide)) (fun _ => ?_)
          refine Exists.intro _ (And.intro (cw_ro_o hI.1 ho1) ?_)
          refine Exists.intro _ (Exists.intro _ (And.intro (Or.inl (cw_ro_1 hI.1 ho1)) (And.intro (by omega) ?_)))
          have w10 := cw_col hI ho1 (z4_7).toInt.toNat
          refine And.intro (Exists.intro _ (cw_o2 hI.1)) (Exists.intro _ (Exists.intro _ (Exists.intro _ (Exists.intro _ (And.intro (F_X2_take hI hs4 (e (o1 + 1) (z4_7).toInt.toNat) (by omega)) (And.intro rfl (fun r9 A9 h9 => ?_)))))))
          rcases h9 with ⟨v12, f12, rfl, hs12, rfl, by11⟩
          have ht9 := by11.2
          intro m13 em_33
          try have e13 : m13.toInt = (z4_7).toInt + (1) := by rw [em_33]; exact pm_addc _ _ (1) rfl (by omega) (by omega)
          exact ih6 m13 v12 f12 hs12 (by omega) (by have h8 := ht9.1 _ _ j1_7 (by omega); rw [show (m13.toInt - x2.toInt).toNat = (z4_7.toInt - x2.toInt).toNat + 1 by omega, nc, show x2.toInt.toNat + (z4_7.toInt - x2.toInt).toNat = z4_7.toInt.toNat by omega, show m13.toInt - x2.toInt = z4_7.toInt - x2.toInt + 1 by omega]; exact h8) (by exact fun i9 h9 => (ht9.2.1 i9 h9).trans (j2_7 i9 h9)) (by exact fun i9 h9 => (ht9.2.2 i9 h9).trans (j3_7 i9 h9)) (by omega)
        · skip
          have k0 : (0 : Int32).toInt = 0 := rfl
          refine And.intro (fun _ => ?_) (fun c9 => absurd c9 (by decide))
          refine hC.1 2 39 _ _ rfl _ _ _ _ _ ?_
          exact ⟨rfl, rfl, v4, f4, rfl, hs4, rfl, by exact True.intro, by have h7 : z4_7.toInt = x3.toInt + 1 := (by omega); rw [h7] at j1_7; exact ⟨j1_7, j2_7, j3_7⟩⟩
  exact lp5 (((200 - x2.toInt).toNat : Int)).toNat.succ x2 v3 f3 hs3 (by omega) (by rw [show (x2.toInt - x2.toInt).toNat = 0 by omega, show x2.toInt - x2.toInt = 0 by omega]; exact hc9.1) (by exact hc9.2.1) (by exact hc9.2.2) (by omega)

set_option maxRecDepth 100000 in
set_option maxHeartbeats 2000000 in
theorem F_X10_readSpan (hI : cw_I K nn dn q w e) (hs : cw_S v f) (x1 : Int32) (x2 : Int32)  : pm_Mt l g 59 3 0 0 [.ref (q 0), .int x1, .int x2] (cw A0 g K nn dn q w e v f) (cw_Qs A0 g K nn dn q w e (fun r v2 f2 => (r = some (.int 1) ∧ ((0 ≤ x1.toInt ∧ x1.toInt ≤ x2.toInt ∧ x2.toInt < (w nn).toInt) ∧ PAL v2 (f2 14) (e 15) (nc (e (nn + 1)) x1.toInt.toNat (x2.toInt + 1 - x1.toInt).toNat) (x2.toInt + 1 - x1.toInt))) ∨ (r = some (.int 0) ∧ (¬ (0 ≤ x1.toInt ∧ x1.toInt ≤ x2.toInt ∧ x2.toInt < (w nn).toInt))))) := by
  refine mt_X10_readSpan rfl (fun J hC => ?_)
  have ro_nn : cw_ro K nn := hI.2.1.2.1
  have ro_dn : cw_ro K dn := hI.2.1.2.2.1
  have hu1 := hI.2.1
  unfold cw_W at hu1
  have rg_x1 := pm_rng x1
  have rg_x2 := pm_rng x2
  have zz0 := cw_sz hI ro_nn
  refine hC.1 0 0 _ _ rfl _ _ _ _ _ ?_
  refine Exists.intro _ (And.intro (cw_o0 hI.1) ?_)
  refine Exists.intro _ (And.intro (cw_o1 hI.1) ?_)
  refine And.intro (Exists.intro _ (cw_ro_o hI.1 ro_nn)) (Exists.intro _ (Exists.intro _ (Exists.intro _ (Exists.intro _ (And.intro (c_X7_isSpan hI hs ro_nn x1 x2 ) (And.intro rfl (fun r9 A9 h9 => ?_)))))))
  rcases h9 with ⟨y2, rfl, rfl, ⟨rfl, by2⟩ | ⟨rfl, by2⟩⟩
  · skip
    have k1 : (1 : Int32).toInt = 1 := rfl
    refine And.intro (fun _ => ?_) (fun c9 => absurd c9 (by decide))
    refine hC.1 1 17 _ _ rfl _ _ _ _ _ ?_
    refine Exists.intro _ (And.intro (cw_o0 hI.1) ?_)
    refine Exists.intro _ (And.intro (cw_o0 hI.1) ?_)
    refine Exists.intro _ (And.intro (cw_o1 hI.1) ?_)
    refine And.intro (Exists.intro _ (cw_o2 hI.1)) (Exists.intro _ (Exists.intro _ (Exists.intro _ (Exists.intro _ (And.intro (F_X2_read hI hs ro_nn x1 x2 (by omega)) (And.intro rfl (fun r9 A9 h9 => ?_)))))))
    rcases h9 with ⟨v5, f5, rfl, hs5, rfl, by4⟩
    have hr9 := by4.2
    exact ⟨rfl, fun _ => (by decide), rfl, v5, f5, rfl, hs5, Or.inl ⟨rfl, by exact ⟨by omega, hr9.1⟩⟩⟩
  · skip
    have k0 : (0 : Int32).toInt = 0 := rfl
    refine And.intro (fun c9 => absurd c9 (by decide)) (fun _ => ?_)
    exact ⟨rfl, fun _ => (by decide), rfl, v, f, rfl, hs, Or.inr ⟨rfl, by omega⟩⟩

end
end
section
/-! sums over places -/
noncomputable def sm (f : Nat → Int) : Nat → Int
  | 0 => 0
  | n + 1 => sm f n + f n
theorem sm_eq {f g : Nat → Int} : ∀ n, (∀ i, i < n → f i = g i) → sm f n = sm g n
  | 0, _ => rfl
  | n + 1, h => by rw [sm, sm, sm_eq n (fun i hi => h i (by omega)), h n (by omega)]
theorem sm_z {f : Nat → Int} : ∀ n, (∀ i, i < n → f i = 0) → sm f n = 0
  | 0, _ => rfl
  | n + 1, h => by rw [sm, sm_z n (fun i hi => h i (by omega)), h n (by omega)]; rfl
theorem sm_add (f g : Nat → Int) : ∀ n, sm (fun i => f i + g i) n = sm f n + sm g n
  | 0 => rfl
  | n + 1 => by rw [sm, sm, sm, sm_add f g n]; omega
theorem sm_th {f : Nat → Int} {B : Int} {a b : Nat} (hab : a ≤ b) : ∀ n, b ≤ n → (∀ i, i < a → f i = 0) → (∀ i, a ≤ i → i < b → f i = B) → (∀ i, b ≤ i → i < n → f i = 0) → sm f n = ((b : Int) - a) * B := by
  have key : ∀ m, a ≤ m → m ≤ b → (∀ i, i < a → f i = 0) → (∀ i, a ≤ i → i < b → f i = B) → sm f m = ((m : Int) - a) * B := by
    intro m
    induction m with
    | zero =>
      intro h1 h2 _ _
      have : a = 0 := by omega
      subst this
      show (0 : Int) = _
      simp
    | succ m ih =>
      intro h1 h2 h3 h4
      by_cases e : a = m + 1
      · rw [sm_z (m + 1) (fun i hi => h3 i (by omega)), e]
        simp
      · rw [sm, ih (by omega) (by omega) h3 h4, h4 m (by omega) (by omega), Int.natCast_succ, show ((m : Int) + 1 - (a : Int)) = (m : Int) - a + 1 by omega, Int.add_mul, Int.one_mul]
  intro n
  induction n with
  | zero =>
    intro h1 h2 h3 _
    exact key 0 (by omega) (by omega) h2 h3 ▸ (by rw [show b = 0 by omega])
  | succ n ih =>
    intro h1 h2 h3 h4
    by_cases e : b = n + 1
    · subst e; exact key (n + 1) hab (Nat.le_refl _) h2 h3
    · rw [sm, ih (by omega) h2 h3 (fun i p q => h4 i p (by omega)), h4 n (by omega) (by omega), Int.add_zero]
/-! spans with just so many colours -/
end
section
/-! bitCount: byte by byte -/
noncomputable def by4 (n a b c d : Nat) : Prop := n = a + 256 * b + 65536 * c + 16777216 * d ∧ a < 256 ∧ b < 256 ∧ c < 256 ∧ d < 256
end
section
/-! the shelf: which colour goes, what is on it, how many misses -/
theorem nJ_of {z : Int32} (h : 0 ≤ z.toInt ∧ z.toInt ≤ 23) : nI z.toInt.toNat = z := by
  obtain ⟨n, _, h2, h3⟩ := bn_of (c := z) (by omega)
  rw [show z.toInt.toNat = n by omega, h2]
theorem nI_i : ∀ y, y < 24 → (nI y).toInt = (y : Int) := by decide +kernel
theorem b_z {x c : Int32} (h : 0 ≤ c.toInt ∧ c.toInt ≤ 31) (hb : ((x >>> (c &&& 31)) &&& 1) = 0) : bt x c.toInt.toNat = false := by
  rcases Bool.eq_false_or_eq_true (bt x c.toInt.toNat) with q | q
  · exact absurd hb (b_y' h q)
  · exact q
noncomputable def GC (K : Nat → Int) (s : Int32) (k x : Int) : Prop := (x = -1 ∧ ∀ y : Nat, (y : Int) < k → bt s y = false) ∨ ((0 ≤ x ∧ x < k) ∧ bt s x.toNat = true ∧ ∀ y : Nat, (y : Int) < k → bt s y = true → K y < K x.toNat ∨ (K y = K x.toNat ∧ x.toNat ≤ y))
theorem GC_0 (K : Nat → Int) (s : Int32) : GC K s 0 (-1) := Or.inl ⟨rfl, fun y h => by omega⟩
theorem GC_n {K : Nat → Int} {s : Int32} {k x : Int} (h0 : 0 ≤ k) (h : GC K s k x) (hb : bt s k.toNat = false) : GC K s (k + 1) x := by
  rcases h with ⟨a, b⟩ | ⟨a, b, d⟩
  · refine Or.inl ⟨a, fun y h => ?_⟩
    by_cases e : (y : Int) = k
    · rw [show y = k.toNat by omega]; exact hb
    · exact b y (by omega)
  · refine Or.inr ⟨by omega, b, fun y h h2 => ?_⟩
    by_cases e : (y : Int) = k
    · rw [show y = k.toNat by omega, hb] at h2; cases h2
    · exact d y (by omega) h2
theorem GC_y {K : Nat → Int} {s : Int32} {k x : Int} (h0 : 0 ≤ k) (h : GC K s k x) (hb : bt s k.toNat = true) (hk : x = -1 ∨ K x.toNat < K k.toNat) : GC K s (k + 1) k := by
  refine Or.inr ⟨by omega, hb, fun y h9 h8 => ?_⟩
  by_cases e : (y : Int) = k
  · rw [show y = k.toNat by omega]; omega
  · rcases h with ⟨a, b⟩ | ⟨a, b, d⟩
    · rw [b y (by omega)] at h8; cases h8
    · have := d y (by omega) h8
      omega
theorem GC_o {K : Nat → Int} {s : Int32} {k x : Int} (h0 : 0 ≤ k) (h : GC K s k x) (hk : ¬ x = -1 ∧ K k.toNat ≤ K x.toNat) : GC K s (k + 1) x := by
  rcases h with ⟨a, b⟩ | ⟨a, b, d⟩
  · omega
  · refine Or.inr ⟨by omega, b, fun y h9 h8 => ?_⟩
    by_cases e : (y : Int) = k
    · rw [show y = k.toNat by omega]; omega
    · exact d y (by omega) h8
noncomputable def b1 (x : Int32) : Int32 := (1 : Int32) <<< (x &&& 31)
end
section
/-! the shelf of the class: by rows of latest places and of next ones -/
theorem an_t {s c : Int32} (h : 0 ≤ c.toInt ∧ c.toInt ≤ 31) (hb : ¬ s &&& ((1 : Int32) <<< (c &&& 31)) = 0) : bt s c.toInt.toNat = true := by
  rcases Bool.eq_false_or_eq_true (bt s c.toInt.toNat) with q | q
  · exact q
  · exact absurd ((an_1 h).mpr q) hb
end
section
/-! colours in an order: as met, and by a key -/
noncomputable def MO (g : Nat → Int32) : Nat → Nat → (Nat → Int32) → Prop
  | 0, n, _ => n = 0
  | k + 1, n, a => (MO g k n a ∧ ∃ i, i < n ∧ a i = g k) ∨ (∃ n0, n = n0 + 1 ∧ MO g k n0 a ∧ a n0 = g k ∧ ∀ i, i < n0 → ¬ a i = g k)
theorem MO_x {g a b : Nat → Int32} : ∀ (k : Nat) {n : Nat}, (∀ i, i < n → a i = b i) → MO g k n a → MO g k n b
  | 0, _, _, h => h
  | k + 1, n, e, h => by
    rcases h with ⟨h1, i, h2, h3⟩ | ⟨n0, h1, h2, h3, h4⟩
    · exact Or.inl ⟨MO_x k e h1, i, h2, by rw [← e i h2]; exact h3⟩
    · refine Or.inr ⟨n0, h1, MO_x k (fun i hi => e i (by omega)) h2, by rw [← e n0 (by omega)]; exact h3, fun i hi => ?_⟩
      rw [← e i (by omega)]; exact h4 i hi
noncomputable def MB (s : Int32) (n : Nat) (a : Nat → Int32) : Prop := ∀ x : Int32, 0 ≤ x.toInt → x.toInt ≤ 23 → (bt s x.toInt.toNat = true ↔ ∃ i, i < n ∧ a i = x)
theorem MB_0 (a : Nat → Int32) : MB 0 0 a := fun x _ _ => by
  rw [b_0]
  exact ⟨fun h => (by cases h), fun ⟨i, h, _⟩ => (by omega)⟩
theorem MB_s {s x : Int32} {n : Nat} {a b : Nat → Int32} (h : MB s n a) (hx : 0 ≤ x.toInt ∧ x.toInt ≤ 23) (hb : b = upd a n x) : MB (s ||| ((1 : Int32) <<< (x &&& 31))) (n + 1) b := fun y h1 h2 => by
  rw [b_or, b_one (by omega) (by omega), Bool.or_eq_true, decide_eq_true_eq, h y h1 h2, hb]
  constructor
  · rintro (⟨i, q1, q2⟩ | q)
    · exact ⟨i, by omega, by rw [pk_un (by omega)]; exact q2⟩
    · exact ⟨n, by omega, by rw [pk_us]; exact pm_eqI (by omega)⟩
  · rintro ⟨i, q1, q2⟩
    by_cases e : i = n
    · rw [e, pk_us] at q2; subst q2; exact Or.inr rfl
    · rw [pk_un e] at q2; exact Or.inl ⟨i, by omega, q2⟩
theorem MO_y {g a : Nat → Int32} {k n : Nat} {s : Int32} (h : MO g k n a) (hm : MB s n a) (hx : 0 ≤ (g k).toInt ∧ (g k).toInt ≤ 23) (hb : bt s (g k).toInt.toNat = true) : MO g (k + 1) n a := Or.inl ⟨h, (hm _ hx.1 hx.2).mp hb⟩
theorem MO_n {g a b : Nat → Int32} {k n : Nat} {s : Int32} (h : MO g k n a) (hm : MB s n a) (hx : 0 ≤ (g k).toInt ∧ (g k).toInt ≤ 23) (hb : bt s (g k).toInt.toNat = false) (e : b = upd a n (g k)) : MO g (k + 1) (n + 1) b := by
  have e1 : ∀ i, i < n → a i = b i := fun i hi => by rw [e, pk_un (by omega)]
  refine Or.inr ⟨n, rfl, MO_x k e1 h, by rw [e, pk_us], fun i hi q => ?_⟩
  rw [← e1 i hi] at q
  have := (hm _ hx.1 hx.2).mpr ⟨i, hi, q⟩
  rw [hb] at this
  cases this
noncomputable def INS (K : Nat → Int) (a b : Nat → Int32) (n : Nat) (x : Int32) : Prop := ∃ s, s ≤ n ∧ (s = 0 ∨ ¬ K (a (s - 1)).toInt.toNat < K x.toInt.toNat) ∧ (∀ j, s ≤ j → j < n → K (a j).toInt.toNat < K x.toInt.toNat) ∧ (∀ i, i < s → b i = a i) ∧ b s = x ∧ ∀ i, s < i → i ≤ n → b i = a (i - 1)
noncomputable def OD (K : Nat → Int) (S : Int32) : Nat → Nat → (Nat → Int32) → Prop
  | 0, n, _ => n = 0
  | k + 1, n, a => (bt S k = false ∧ OD K S k n a) ∨ (bt S k = true ∧ ∃ n0 b, n = n0 + 1 ∧ OD K S k n0 b ∧ INS K b a n0 (nI k))
theorem OD_r {K : Nat → Int} {S : Int32} : ∀ (k : Nat) {n : Nat} {a : Nat → Int32}, k ≤ 24 → OD K S k n a → n ≤ k ∧ ∀ i, i < n → 0 ≤ (a i).toInt ∧ (a i).toInt < k
  | 0, n, _, _, h => by
    have e : n = 0 := h
    exact ⟨by omega, fun i hi => by omega⟩
  | k + 1, n, a, hk, h => by
    rcases h with ⟨h1, h2⟩ | ⟨h1, n0, d, h2, h3, s, g1, g2, g3, g4, g5, g6⟩
    · have q := OD_r k (by omega) h2
      exact ⟨by omega, fun i hi => by have := q.2 i hi; omega⟩
    · have q := OD_r k (by omega) h3
      have hn := nI_i k (by omega)
      refine ⟨by omega, fun i hi => ?_⟩
      by_cases e1 : i < s
      · rw [g4 i e1]; have := q.2 i (by omega); omega
      · by_cases e2 : i = s
        · rw [e2, g5]; omega
        · rw [g6 i (by omega) (by omega)]; have := q.2 (i - 1) (by omega); omega
theorem OD_u {K L : Nat → Int} {S : Int32} (hK : ∀ y, y < 24 → K y = L y) : ∀ (k : Nat) {n m : Nat} {a b : Nat → Int32}, k ≤ 24 → OD K S k n a → OD L S k m b → n = m ∧ ∀ i, i < n → a i = b i
  | 0, n, m, _, _, _, h1, h2 => ⟨Eq.trans h1 (Eq.symm h2), fun i hi => by have e : n = 0 := h1; omega⟩
  | k + 1, n, m, a, b, hk, h1, h2 => by
    rcases h1 with ⟨x1, x2⟩ | ⟨x1, n0, d, x2, x3, s, g1, g2, g3, g4, g5, g6⟩
    · rcases h2 with ⟨_, y2⟩ | ⟨y1, _⟩
      · exact OD_u hK k (by omega) x2 y2
      · rw [x1] at y1; cases y1
    · rcases h2 with ⟨y1, _⟩ | ⟨_, m0, f, y2, y3, t, t1, t2, t3, t4, t5, t6⟩
      · rw [x1] at y1; cases y1
      · have q := OD_u hK k (by omega) x3 y3
        have r := OD_r k (by omega) x3
        have hn := nI_i k (by omega)
        have eK : ∀ i, i < n0 → K (d i).toInt.toNat = L (f i).toInt.toNat := fun i hi => by
          have := r.2 i hi
          rw [← q.2 i hi]; exact hK _ (by omega)
        have ek : K (nI k).toInt.toNat = L (nI k).toInt.toNat := hK _ (by omega)
        have e1 : ¬ s < t := fun h => by
          have a1 := g3 (t - 1) (by omega) (by omega)
          rw [eK (t - 1) (by omega), ek] at a1
          rcases t2 with u | u
          · omega
          · exact u a1
        have e2 : ¬ t < s := fun h => by
          have a1 := t3 (s - 1) (by omega) (by omega)
          rw [← eK (s - 1) (by omega), ← ek] at a1
          rcases g2 with u | u
          · omega
          · exact u a1
        have e3 : s = t := by omega
        subst e3
        refine ⟨by omega, fun i hi => ?_⟩
        by_cases c1 : i < s
        · rw [g4 i c1, t4 i c1]; exact q.2 i (by omega)
        · by_cases c2 : i = s
          · rw [c2, g5, t5]
          · rw [g6 i (by omega) (by omega), t6 i (by omega) (by omega)]; exact q.2 (i - 1) (by omega)
noncomputable def HOL (K : Nat → Int) (a b : Nat → Int32) (n s : Int) (x : Int32) : Prop := (∀ j : Nat, s ≤ (j : Int) → (j : Int) < n → K (a j).toInt.toNat < K x.toInt.toNat) ∧ (∀ i : Nat, (i : Int) < s → b i = a i) ∧ ∀ i : Nat, s < (i : Int) → (i : Int) ≤ n → b i = a (i - 1)
theorem HOL_0 {K : Nat → Int} {a : Nat → Int32} {n : Int} {x : Int32} : HOL K a a n n x := ⟨fun j h1 h2 => by omega, fun i _ => rfl, fun i h1 h2 => by omega⟩
theorem HOL_s {K : Nat → Int} {a b d : Nat → Int32} {n s : Int} {x : Int32} (h : HOL K a b n s x) (h0 : 0 < s ∧ s ≤ n) (hk : K (b (s - 1).toNat).toInt.toNat < K x.toInt.toNat) (hd : d = upd b s.toNat (b (s - 1).toNat)) : HOL K a d n (s - 1) x := by
  obtain ⟨h1, h2, h3⟩ := h
  have e := h2 (s - 1).toNat (by omega)
  rw [e] at hk
  refine ⟨fun j p q => ?_, fun i p => ?_, fun i p q => ?_⟩
  · by_cases c : (j : Int) = s - 1
    · rw [show j = (s - 1).toNat by omega]; exact hk
    · exact h1 j (by omega) q
  · rw [hd, pk_un (by omega)]; exact h2 i (by omega)
  · by_cases c : (i : Int) = s
    · rw [hd, show i = s.toNat by omega, pk_us, e, show s.toNat - 1 = (s - 1).toNat by omega]
    · rw [hd, pk_un (by omega)]; exact h3 i (by omega) q
theorem HOL_e {K : Nat → Int} {a b d : Nat → Int32} {n s : Int} {x : Int32} (h : HOL K a b n s x) (h0 : 0 ≤ s ∧ s ≤ n) (hk : s = 0 ∨ ¬ K (b (s - 1).toNat).toInt.toNat < K x.toInt.toNat) (hd : d = upd b s.toNat x) : INS K a d n.toNat x := by
  obtain ⟨h1, h2, h3⟩ := h
  refine ⟨s.toNat, by omega, ?_, fun j p q => h1 j (by omega) (by omega), fun i p => ?_, by rw [hd, pk_us], fun i p q => ?_⟩
  · rcases hk with e | e
    · left; omega
    · by_cases c : s = 0
      · left; omega
      · right
        rw [h2 (s - 1).toNat (by omega)] at e
        rw [show s.toNat - 1 = (s - 1).toNat by omega]
        exact e
  · rw [hd, pk_un (by omega)]; exact h2 i (by omega)
  · rw [hd, pk_un (by omega)]; exact h3 i (by omega) (by omega)
theorem OD_n {K : Nat → Int} {S : Int32} {k n : Nat} {a : Nat → Int32} (h : OD K S k n a) (hb : bt S k = false) : OD K S (k + 1) n a := Or.inl ⟨hb, h⟩
theorem OD_y {K : Nat → Int} {S : Int32} {k n : Nat} {a b : Nat → Int32} (h : OD K S k n a) (hb : bt S k = true) (hi : INS K a b n (nI k)) : OD K S (k + 1) (n + 1) b := Or.inr ⟨hb, n, a, rfl, h, hi⟩
end
section
/-! kth: the colours of a span in the order of a way -/
noncomputable def gW (c : Nat → Int32) (l r t : Int) : Nat → Int32 := fun i => if t = 0 then c (l.toNat + i) else c (r.toNat - i)
noncomputable def kW (c W : Nat → Int32) (l r t : Int) : Nat → Int := fun y => if t = 3 then (W y).toInt else if t = 4 then (nc c l.toNat (r + 1 - l).toNat y : Int) else 0
noncomputable def KT (c W : Nat → Int32) (l r t : Int) (m : Nat) (a : Nat → Int32) : Prop := (t ≤ 1 ∧ MO (gW c l r t) (r - l + 1).toNat m a) ∨ (2 ≤ t ∧ OD (kW c W l r t) (sS c l r) 24 m a)
noncomputable def kF (g : Nat → Int32) : Nat → Int := fun y => (g y).toInt
noncomputable def CB (s : Int32) (g : Nat → Int32) : Prop := ∀ y, y < 24 → (bt s y = true ↔ 0 < (g y).toInt)
theorem PAL_cb {v k W : Nat → Int32} {N : Nat → Nat} {n : Int} (h : PAL v k W N n) : CB (v 3) k := fun y hy => by
  rw [h.2.2.2.1 y (by omega), decide_eq_true_iff, h.1 y hy]
  omega
theorem OD_k {K L : Nat → Int} {S : Int32} (hK : ∀ y, y < 24 → K y = L y) : ∀ (k : Nat) {n : Nat} {a : Nat → Int32}, k ≤ 24 → OD K S k n a → OD L S k n a
  | 0, _, _, _, h => h
  | k + 1, n, a, hk, h => by
    rcases h with ⟨h1, h2⟩ | ⟨h1, n0, d, h2, h3, s, g1, g2, g3, g4, g5, g6⟩
    · exact Or.inl ⟨h1, OD_k hK k (by omega) h2⟩
    · have r := OD_r k (by omega) h3
      have hn := nI_i k (by omega)
      have ek : K (nI k).toInt.toNat = L (nI k).toInt.toNat := hK _ (by omega)
      refine Or.inr ⟨h1, n0, d, h2, OD_k hK k (by omega) h3, s, g1, ?_, fun j p q => ?_, g4, g5, g6⟩
      · rcases g2 with u | u
        · exact Or.inl u
        · by_cases e : s = 0
          · exact Or.inl e
          · have := r.2 (s - 1) (by omega)
            rw [hK _ (by omega), ek] at u
            exact Or.inr u
      · have := r.2 j (by omega)
        have w := g3 j p q
        rw [hK _ (by omega), ek] at w
        exact w
end
section
section
variable {l : Launch} {g : pm_G} {A0 : pm_H} {h : Nat} {q : Nat → Nat}
set_option maxRecDepth 100000 in
set_option maxHeartbeats 2000000 in
theorem F_X11_isAhead (D : md_D h q) (v : Nat → Int32) (f : Nat → Nat → Int32) (hv : md_V v) (hf : md_F f) (x1 : Int32) (x2 : Int32) (x3 : Int32) (x4 : Int32) (x5 : Int32) (p0 : 0 ≤ x1.toInt ∧ x1.toInt ≤ 23) (p1 : 0 ≤ x2.toInt ∧ x2.toInt ≤ 23) (p2 : 0 ≤ x3.toInt ∧ x3.toInt ≤ 160) (p3 : -1 ≤ x4.toInt ∧ x4.toInt < 160) : pm_Mt l g 222 1 0 0 [.ref h, .int x1, .int x2, .int x3, .int x4, .int x5] (md A0 g h q v f) (md_Qp (md A0 g h q v f) (fun r => (r = 1 ∧ ((kW (f 0) (f 2) x3.toInt x4.toInt x5.toInt x2.toInt.toNat < kW (f 0) (f 2) x3.toInt x4.toInt x5.toInt x1.toInt.toNat) ∨ (kW (f 0) (f 2) x3.toInt x4.toInt x5.toInt x2.toInt.toNat = kW (f 0) (f 2) x3.toInt x4.toInt x5.toInt x1.toInt.toNat ∧ x1.toInt < x2.toInt))) ∨ (r = 0 ∧ (¬ ((kW (f 0) (f 2) x3.toInt x4.toInt x5.toInt x2.toInt.toNat < kW (f 0) (f 2) x3.toInt x4.toInt x5.toInt x1.toInt.toNat) ∨ (kW (f 0) (f 2) x3.toInt x4.toInt x5.toInt x2.toInt.toNat = kW (f 0) (f 2) x3.toInt x4.toInt x5.toInt x1.toInt.toNat ∧ x1.toInt < x2.toInt)))))) := by
  refine mt_X11_isAhead rfl (fun J hC => ?_)
  have hv9 := hv
  unfold md_V at hv9
  have rg_x1 := pm_rng x1
  have rg_x2 := pm_rng x2
  have rg_x3 := pm_rng x3
  have rg_x4 := pm_rng x4
  have rg_x5 := pm_rng x5
  refine hC.1 0 0 _ _ rfl _ _ _ _ _ ?_
  have k3 : (3 : Int32).toInt = 3 := rfl
  refine And.intro (fun c1 => ?_) (fun c1 => ?_)
  · skip
    have dc1 := pm_neI c1
    refine hC.1 1 15 _ _ rfl _ _ _ _ _ ?_
    have k4 : (4 : Int32).toInt = 4 := rfl
    refine And.intro (fun c2 => ?_) (fun c2 => ?_)
    · skip
      have dc2 := pm_neI c2
      refine hC.1 2 32 _ _ rfl _ _ _ _ _ ?_
      have k0 : (0 : Int32).toInt = 0 := rfl
      refine hC.1 3 33 _ _ rfl _ _ _ _ _ ?_
      have yk_1 : ((0 : Int32)).toInt = kW (f 0) (f 2) x3.toInt x4.toInt x5.toInt x1.toInt.toNat := (by unfold kW; first | (exfalso; omega) | (rw [if_pos (by omega)]) | (rw [if_neg (by omega), if_pos (by omega), nc_ct (fun j9 => hf 0 j9) (by omega)]; exact yt_1) | (rw [if_neg (by omega), if_neg (by omega)]; rfl))
      refine And.intro (fun c3 => ?_) (fun c3 => ?_)
      · skip
        have dc3 := pm_neI c3
        refine hC.1 4 50 _ _ rfl _ _ _ _ _ ?_
        refine And.intro (fun c4 => ?_) (fun c4 => ?_)
        · skip
          have dc4 := pm_neI c4
          refine hC.1 5 67 _ _ rfl _ _ _ _ _ ?_
          refine hC.1 6 68 _ _ rfl _ _ _ _ _ ?_
          have yk_2 : ((0 : Int32)).toInt = kW (f 0) (f 2) x3.toInt x4.toInt x5.toInt x2.toInt.toNat := (by unfold kW; first | (exfalso; omega) | (rw [if_pos (by omega)]) | (rw [if_neg (by omega), if_pos (by omega), nc_ct (fun j9 => hf 0 j9) (by omega)]; exact yt_2) | (rw [if_neg (by omega), if_neg (by omega)]; rfl))
          refine And.intro (fun _ => ?_) (fun c9 => absurd c9 (by decide))
          refine hC.1 8 92 _ _ rfl _ _ _ _ _ ?_
          refine And.intro (fun c5 => ?_) (fun c5 => ?_)
          · skip
            refine hC.1 9 101 _ _ rfl _ _ _ _ _ ?_
            refine hC.1 10 102 _ _ rfl _ _ _ _ _ ?_
            exact ⟨rfl, fun _ => (by decide), rfl, (0 : Int32), rfl, rfl, Or.inr ⟨rfl, by first | omega | (dsimp only; omega) | trivial⟩⟩
          · skip
            have k1 : (1 : Int32).toInt = 1 := rfl
            refine hC.1 10 102 _ _ rfl _ _ _ _ _ ?_
            exact ⟨rfl, fun _ => (by decide), rfl, (1 : Int32), rfl, rfl, Or.inl ⟨rfl, by first | omega | (dsimp only; omega) | trivial⟩⟩
        · skip
          have dc4 : (x5).toInt = ((4 : Int32) : Int32).toInt := congrArg Int32.toInt c4
          refine And.intro (Exists.intro _ md_o) (Exists.intro _ (Exists.intro _ (Exists.intro _ (Exists.intro _ (And.intro (F_X11_timesIn D v f hv hf x3 x4 x2 (by omega) (by omega)) (And.intro rfl (fun r9 A9 h9 => ?_)))))))
          obtain ⟨y6, rfl, rfl, by6⟩ := h9
          have yt_2 := by6
          refine hC.1 6 68 _ _ rfl _ _ _ _ _ ?_
          have yk_2 : (y6).toInt = kW (f 0) (f 2) x3.toInt x4.toInt x5.toInt x2.toInt.toNat := (by unfold kW; first | (exfalso; omega) | (rw [if_pos (by omega)]) | (rw [if_neg (by omega), if_pos (by omega), nc_ct (fun j9 => hf 0 j9) (by omega)]; exact yt_2) | (rw [if_neg (by omega), if_neg (by omega)]; rfl))
          refine And.intro (fun c7 => ?_) (fun c7 => ?_)
          · skip
            have dc7 : ((0 : Int32)).toInt = (y6 : Int32).toInt := congrArg Int32.toInt c7
            refine hC.1 8 92 _ _ rfl _ _ _ _ _ ?_
            refine And.intro (fun c8 => ?_) (fun c8 => ?_)
            · skip
              refine hC.1 9 101 _ _ rfl _ _ _ _ _ ?_
              refine hC.1 10 102 _ _ rfl _ _ _ _ _ ?_
              exact ⟨rfl, fun _ => (by decide), rfl, (0 : Int32), rfl, rfl, Or.inr ⟨rfl, by first | omega | (dsimp only; omega) | trivial⟩⟩
            · skip
              have k1 : (1 : Int32).toInt = 1 := rfl
              refine hC.1 10 102 _ _ rfl _ _ _ _ _ ?_
              exact ⟨rfl, fun _ => (by decide), rfl, (1 : Int32), rfl, rfl, Or.inl ⟨rfl, by first | omega | (dsimp only; omega) | trivial⟩⟩
          · skip
            have dc7 := pm_neI c7
            refine And.intro (fun c9 => ?_) (fun c9 => ?_)
            · skip
              refine hC.1 7 88 _ _ rfl _ _ _ _ _ ?_
              refine hC.1 10 102 _ _ rfl _ _ _ _ _ ?_
              exact ⟨rfl, fun _ => (by decide), rfl, (0 : Int32), rfl, rfl, Or.inr ⟨rfl, by first | omega | (dsimp only; omega) | trivial⟩⟩
            · skip
              have k1 : (1 : Int32).toInt = 1 := rfl
              refine hC.1 10 102 _ _ rfl _ _ _ _ _ ?_
              exact ⟨rfl, fun _ => (by decide), rfl, (1 : Int32), rfl, rfl, Or.inl ⟨rfl, by first | omega | (dsimp only; omega) | trivial⟩⟩
      · skip
        have dc3 : (x5).toInt = ((3 : Int32) : Int32).toInt := congrArg Int32.toInt c3
        refine Exists.intro _ (And.intro md_o ?_)
        refine Exists.intro _ (Exists.intro _ (And.intro (Or.inl (md_a_weights D)) (And.intro (by omega) ?_)))
        refine hC.1 6 68 _ _ rfl _ _ _ _ _ ?_
        have yk_2 : ((f 2 (x2).toInt.toNat)).toInt = kW (f 0) (f 2) x3.toInt x4.toInt x5.toInt x2.toInt.toNat := (by unfold kW; first | (exfalso; omega) | (rw [if_pos (by omega)]) | (rw [if_neg (by omega), if_pos (by omega), nc_ct (fun j9 => hf 0 j9) (by omega)]; exact yt_2) | (rw [if_neg (by omega), if_neg (by omega)]; rfl))
        refine And.intro (fun c10 => ?_) (fun c10 => ?_)
        · skip
          have dc10 : ((0 : Int32)).toInt = ((f 2 (x2).toInt.toNat) : Int32).toInt := congrArg Int32.toInt c10
          refine hC.1 8 92 _ _ rfl _ _ _ _ _ ?_
          refine And.intro (fun c11 => ?_) (fun c11 => ?_)
          · skip
            refine hC.1 9 101 _ _ rfl _ _ _ _ _ ?_
            refine hC.1 10 102 _ _ rfl _ _ _ _ _ ?_
            exact ⟨rfl, fun _ => (by decide), rfl, (0 : Int32), rfl, rfl, Or.inr ⟨rfl, by first | omega | (dsimp only; omega) | trivial⟩⟩
          · skip
            have k1 : (1 : Int32).toInt = 1 := rfl
            refine hC.1 10 102 _ _ rfl _ _ _ _ _ ?_
            exact ⟨rfl, fun _ => (by decide), rfl, (1 : Int32), rfl, rfl, Or.inl ⟨rfl, by first | omega | (dsimp only; omega) | trivial⟩⟩
        · skip
          have dc10 := pm_neI c10
          refine And.intro (fun c12 => ?_) (fun c12 => ?_)
          · skip
            refine hC.1 7 88 _ _ rfl _ _ _ _ _ ?_
            refine hC.1 10 102 _ _ rfl _ _ _ _ _ ?_
            exact ⟨rfl, fun _ => (by decide), rfl, (0 : Int32), rfl, rfl, Or.inr ⟨rfl, by first | omega | (dsimp only; omega) | trivial⟩⟩
          · skip
            have k1 : (1 : Int32).toInt = 1 := rfl
            refine hC.1 10 102 _ _ rfl _ _ _ _ _ ?_
            exact ⟨rfl, fun _ => (by decide), rfl, (1 : Int32), rfl, rfl, Or.inl ⟨rfl, by first | omega | (dsimp only; omega) | trivial⟩⟩
    · skip
      have dc2 : (x5).toInt = ((4 : Int32) : Int32).toInt := congrArg Int32.toInt c2
      refine And.intro (Exists.intro _ md_o) (Exists.intro _ (Exists.intro _ (Exists.intro _ (Exists.intro _ (And.intro (F_X11_timesIn D v f hv hf x3 x4 x1 (by omega) (by omega)) (And.intro rfl (fun r9 A9 h9 => ?_)))))))
      obtain ⟨y13, rfl, rfl, by13⟩ := h9
      have yt_1 := by13
      refine hC.1 3 33 _ _ rfl _ _ _ _ _ ?_
      have yk_1 : (y13).toInt = kW (f 0) (f 2) x3.toInt x4.toInt x5.toInt x1.toInt.toNat := (by unfold kW; first | (exfalso; omega) | (rw [if_pos (by omega)]) | (rw [if_neg (by omega), if_pos (by omega), nc_ct (fun j9 => hf 0 j9) (by omega)]; exact yt_1) | (rw [if_neg (by omega), if_neg (by omega)]; rfl))
      refine And.intro (fun c14 => ?_) (fun c14 => ?_)
      · skip
        have dc14 := pm_neI c14
        refine hC.1 4 50 _ _ rfl _ _ _ _ _ ?_
        refine And.intro (fun c15 => ?_) (fun c15 => ?_)
        · skip
          have dc15 := pm_neI c15
          refine hC.1 5 67 _ _ rfl _ _ _ _ _ ?_
          have k0 : (0 : Int32).toInt = 0 := rfl
          refine hC.1 6 68 _ _ rfl _ _ _ _ _ ?_
          have yk_2 : ((0 : Int32)).toInt = kW (f 0) (f 2) x3.toInt x4.toInt x5.toInt x2.toInt.toNat := (by unfold kW; first | (exfalso; omega) | (rw [if_pos (by omega)]) | (rw [if_neg (by omega), if_pos (by omega), nc_ct (fun j9 => hf 0 j9) (by omega)]; exact yt_2) | (rw [if_neg (by omega), if_neg (by omega)]; rfl))
          refine And.intro (fun c16 => ?_) (fun c16 => ?_)
          · skip
            have dc16 : (y13).toInt = ((0 : Int32) : Int32).toInt := congrArg Int32.toInt c16
            refine hC.1 8 92 _ _ rfl _ _ _ _ _ ?_
            refine And.intro (fun c17 => ?_) (fun c17 => ?_)
            · skip
              refine hC.1 9 101 _ _ rfl _ _ _ _ _ ?_
              refine hC.1 10 102 _ _ rfl _ _ _ _ _ ?_
              exact ⟨rfl, fun _ => (by decide), rfl, (0 : Int32), rfl, rfl, Or.inr ⟨rfl, by first | omega | (dsimp only; omega) | trivial⟩⟩
            · skip
              have k1 : (1 : Int32).toInt = 1 := rfl
              refine hC.1 10 102 _ _ rfl _ _ _ _ _ ?_
              exact ⟨rfl, fun _ => (by decide), rfl, (1 : Int32), rfl, rfl, Or.inl ⟨rfl, by first | omega | (dsimp only; omega) | trivial⟩⟩
          · skip
            have dc16 := pm_neI c16
            refine And.intro (fun c18 => ?_) (fun c18 => ?_)
            · skip
              refine hC.1 7 88 _ _ rfl _ _ _ _ _ ?_
              refine hC.1 10 102 _ _ rfl _ _ _ _ _ ?_
              exact ⟨rfl, fun _ => (by decide), rfl, (0 : Int32), rfl, rfl, Or.inr ⟨rfl, by first | omega | (dsimp only; omega) | trivial⟩⟩
            · skip
              have k1 : (1 : Int32).toInt = 1 := rfl
              refine hC.1 10 102 _ _ rfl _ _ _ _ _ ?_
              exact ⟨rfl, fun _ => (by decide), rfl, (1 : Int32), rfl, rfl, Or.inl ⟨rfl, by first | omega | (dsimp only; omega) | trivial⟩⟩
        · skip
          have dc15 : (x5).toInt = ((4 : Int32) : Int32).toInt := congrArg Int32.toInt c15
          refine And.intro (Exists.intro _ md_o) (Exists.intro _ (Exists.intro _ (Exists.intro _ (Exists.intro _ (And.intro (F_X11_timesIn D v f hv hf x3 x4 x2 (by omega) (by omega)) (And.intro rfl (fun r9 A9 h9 => ?_)))))))
          obtain ⟨y19, rfl, rfl, by19⟩ := h9
          have yt_2 := by19
          refine hC.1 6 68 _ _ rfl _ _ _ _ _ ?_
          have yk_2 : (y19).toInt = kW (f 0) (f 2) x3.toInt x4.toInt x5.toInt x2.toInt.toNat := (by unfold kW; first | (exfalso; omega) | (rw [if_pos (by omega)]) | (rw [if_neg (by omega), if_pos (by omega), nc_ct (fun j9 => hf 0 j9) (by omega)]; exact yt_2) | (rw [if_neg (by omega), if_neg (by omega)]; rfl))
          refine And.intro (fun c20 => ?_) (fun c20 => ?_)
          · skip
            have dc20 : (y13).toInt = (y19 : Int32).toInt := congrArg Int32.toInt c20
            refine hC.1 8 92 _ _ rfl _ _ _ _ _ ?_
            refine And.intro (fun c21 => ?_) (fun c21 => ?_)
            · skip
              refine hC.1 9 101 _ _ rfl _ _ _ _ _ ?_
              have k0 : (0 : Int32).toInt = 0 := rfl
              refine hC.1 10 102 _ _ rfl _ _ _ _ _ ?_
              exact ⟨rfl, fun _ => (by decide), rfl, (0 : Int32), rfl, rfl, Or.inr ⟨rfl, by first | omega | (dsimp only; omega) | trivial⟩⟩
            · skip
              have k1 : (1 : Int32).toInt = 1 := rfl
              refine hC.1 10 102 _ _ rfl _ _ _ _ _ ?_
              exact ⟨rfl, fun _ => (by decide), rfl, (1 : Int32), rfl, rfl, Or.inl ⟨rfl, by first | omega | (dsimp only; omega) | trivial⟩⟩
          · skip
            have dc20 := pm_neI c20
            refine And.intro (fun c22 => ?_) (fun c22 => ?_)
            · skip
              refine hC.1 7 88 _ _ rfl _ _ _ _ _ ?_
              have k0 : (0 : Int32).toInt = 0 := rfl
              refine hC.1 10 102 _ _ rfl _ _ _ _ _ ?_
              exact ⟨rfl, fun _ => (by decide), rfl, (0 : Int32), rfl, rfl, Or.inr ⟨rfl, by first | omega | (dsimp only; omega) | trivial⟩⟩
            · skip
              have k1 : (1 : Int32).toInt = 1 := rfl
              refine hC.1 10 102 _ _ rfl _ _ _ _ _ ?_
              exact ⟨rfl, fun _ => (by decide), rfl, (1 : Int32), rfl, rfl, Or.inl ⟨rfl, by first | omega | (dsimp only; omega) | trivial⟩⟩
      · skip
        have dc14 : (x5).toInt = ((3 : Int32) : Int32).toInt := congrArg Int32.toInt c14
        refine Exists.intro _ (And.intro md_o ?_)
        refine Exists.intro _ (Exists.intro _ (And.intro (Or.inl (md_a_weights D)) (And.intro (by omega) ?_)))
        refine hC.1 6 68 _ _ rfl _ _ _ _ _ ?_
        have yk_2 : ((f 2 (x2).toInt.toNat)).toInt = kW (f 0) (f 2) x3.toInt x4.toInt x5.toInt x2.toInt.toNat := (by unfold kW; first | (exfalso; omega) | (rw [if_pos (by omega)]) | (rw [if_neg (by omega), if_pos (by omega), nc_ct (fun j9 => hf 0 j9) (by omega)]; exact yt_2) | (rw [if_neg (by omega), if_neg (by omega)]; rfl))
        refine And.intro (fun c23 => ?_) (fun c23 => ?_)
        · skip
          have dc23 : (y13).toInt = ((f 2 (x2).toInt.toNat) : Int32).toInt := congrArg Int32.toInt c23
          refine hC.1 8 92 _ _ rfl _ _ _ _ _ ?_
          refine And.intro (fun c24 => ?_) (fun c24 => ?_)
          · skip
            refine hC.1 9 101 _ _ rfl _ _ _ _ _ ?_
            have k0 : (0 : Int32).toInt = 0 := rfl
            refine hC.1 10 102 _ _ rfl _ _ _ _ _ ?_
            exact ⟨rfl, fun _ => (by decide), rfl, (0 : Int32), rfl, rfl, Or.inr ⟨rfl, by first | omega | (dsimp only; omega) | trivial⟩⟩
          · skip
            have k1 : (1 : Int32).toInt = 1 := rfl
            refine hC.1 10 102 _ _ rfl _ _ _ _ _ ?_
            exact ⟨rfl, fun _ => (by decide), rfl, (1 : Int32), rfl, rfl, Or.inl ⟨rfl, by first | omega | (dsimp only; omega) | trivial⟩⟩
        · skip
          have dc23 := pm_neI c23
          refine And.intro (fun c25 => ?_) (fun c25 => ?_)
          · skip
            refine hC.1 7 88 _ _ rfl _ _ _ _ _ ?_
            have k0 : (0 : Int32).toInt = 0 := rfl
            refine hC.1 10 102 _ _ rfl _ _ _ _ _ ?_
            exact ⟨rfl, fun _ => (by decide), rfl, (0 : Int32), rfl, rfl, Or.inr ⟨rfl, by first | omega | (dsimp only; omega) | trivial⟩⟩
          · skip
            have k1 : (1 : Int32).toInt = 1 := rfl
            refine hC.1 10 102 _ _ rfl _ _ _ _ _ ?_
            exact ⟨rfl, fun _ => (by decide), rfl, (1 : Int32), rfl, rfl, Or.inl ⟨rfl, by first | omega | (dsimp only; omega) | trivial⟩⟩
  · skip
    have dc1 : (x5).toInt = ((3 : Int32) : Int32).toInt := congrArg Int32.toInt c1
    refine Exists.intro _ (And.intro md_o ?_)
    refine Exists.intro _ (Exists.intro _ (And.intro (Or.inl (md_a_weights D)) (And.intro (by omega) ?_)))
    refine hC.1 3 33 _ _ rfl _ _ _ _ _ ?_
    have yk_1 : ((f 2 (x1).toInt.toNat)).toInt = kW (f 0) (f 2) x3.toInt x4.toInt x5.toInt x1.toInt.toNat := (by unfold kW; first | (exfalso; omega) | (rw [if_pos (by omega)]) | (rw [if_neg (by omega), if_pos (by omega), nc_ct (fun j9 => hf 0 j9) (by omega)]; exact yt_1) | (rw [if_neg (by omega), if_neg (by omega)]; rfl))
    refine And.intro (fun c26 => ?_) (fun c26 => ?_)
    · skip
      have dc26 := pm_neI c26
      refine hC.1 4 50 _ _ rfl _ _ _ _ _ ?_
      have k4 : (4 : Int32).toInt = 4 := rfl
      refine And.intro (fun c27 => ?_) (fun c27 => ?_)
      · skip
        have dc27 := pm_neI c27
        refine hC.1 5 67 _ _ rfl _ _ _ _ _ ?_
        have k0 : (0 : Int32).toInt = 0 := rfl
        refine hC.1 6 68 _ _ rfl _ _ _ _ _ ?_
        have yk_2 : ((0 : Int32)).toInt = kW (f 0) (f 2) x3.toInt x4.toInt x5.toInt x2.toInt.toNat := (by unfold kW; first | (exfalso; omega) | (rw [if_pos (by omega)]) | (rw [if_neg (by omega), if_pos (by omega), nc_ct (fun j9 => hf 0 j9) (by omega)]; exact yt_2) | (rw [if_neg (by omega), if_neg (by omega)]; rfl))
        refine And.intro (fun c28 => ?_) (fun c28 => ?_)
        · skip
          have dc28 : ((f 2 (x1).toInt.toNat)).toInt = ((0 : Int32) : Int32).toInt := congrArg Int32.toInt c28
          refine hC.1 8 92 _ _ rfl _ _ _ _ _ ?_
          refine And.intro (fun c29 => ?_) (fun c29 => ?_)
          · skip
            refine hC.1 9 101 _ _ rfl _ _ _ _ _ ?_
            refine hC.1 10 102 _ _ rfl _ _ _ _ _ ?_
            exact ⟨rfl, fun _ => (by decide), rfl, (0 : Int32), rfl, rfl, Or.inr ⟨rfl, by first | omega | (dsimp only; omega) | trivial⟩⟩
          · skip
            have k1 : (1 : Int32).toInt = 1 := rfl
            refine hC.1 10 102 _ _ rfl _ _ _ _ _ ?_
            exact ⟨rfl, fun _ => (by decide), rfl, (1 : Int32), rfl, rfl, Or.inl ⟨rfl, by first | omega | (dsimp only; omega) | trivial⟩⟩
        · skip
          have dc28 := pm_neI c28
          refine And.intro (fun c30 => ?_) (fun c30 => ?_)
          · skip
            refine hC.1 7 88 _ _ rfl _ _ _ _ _ ?_
            refine hC.1 10 102 _ _ rfl _ _ _ _ _ ?_
            exact ⟨rfl, fun _ => (by decide), rfl, (0 : Int32), rfl, rfl, Or.inr ⟨rfl, by first | omega | (dsimp only; omega) | trivial⟩⟩
          · skip
            have k1 : (1 : Int32).toInt = 1 := rfl
            refine hC.1 10 102 _ _ rfl _ _ _ _ _ ?_
            exact ⟨rfl, fun _ => (by decide), rfl, (1 : Int32), rfl, rfl, Or.inl ⟨rfl, by first | omega | (dsimp only; omega) | trivial⟩⟩
      · skip
        have dc27 : (x5).toInt = ((4 : Int32) : Int32).toInt := congrArg Int32.toInt c27
        refine And.intro (Exists.intro _ md_o) (Exists.intro _ (Exists.intro _ (Exists.intro _ (Exists.intro _ (And.intro (F_X11_timesIn D v f hv hf x3 x4 x2 (by omega) (by omega)) (And.intro rfl (fun r9 A9 h9 => ?_)))))))
        obtain ⟨y31, rfl, rfl, by31⟩ := h9
        have yt_2 := by31
        refine hC.1 6 68 _ _ rfl _ _ _ _ _ ?_
        have yk_2 : (y31).toInt = kW (f 0) (f 2) x3.toInt x4.toInt x5.toInt x2.toInt.toNat := (by unfold kW; first | (exfalso; omega) | (rw [if_pos (by omega)]) | (rw [if_neg (by omega), if_pos (by omega), nc_ct (fun j9 => hf 0 j9) (by omega)]; exact yt_2) | (rw [if_neg (by omega), if_neg (by omega)]; rfl))
        refine And.intro (fun c32 => ?_) (fun c32 => ?_)
        · skip
          have dc32 : ((f 2 (x1).toInt.toNat)).toInt = (y31 : Int32).toInt := congrArg Int32.toInt c32
          refine hC.1 8 92 _ _ rfl _ _ _ _ _ ?_
          refine And.intro (fun c33 => ?_) (fun c33 => ?_)
          · skip
            refine hC.1 9 101 _ _ rfl _ _ _ _ _ ?_
            have k0 : (0 : Int32).toInt = 0 := rfl
            refine hC.1 10 102 _ _ rfl _ _ _ _ _ ?_
            exact ⟨rfl, fun _ => (by decide), rfl, (0 : Int32), rfl, rfl, Or.inr ⟨rfl, by first | omega | (dsimp only; omega) | trivial⟩⟩
          · skip
            have k1 : (1 : Int32).toInt = 1 := rfl
            refine hC.1 10 102 _ _ rfl _ _ _ _ _ ?_
            exact ⟨rfl, fun _ => (by decide), rfl, (1 : Int32), rfl, rfl, Or.inl ⟨rfl, by first | omega | (dsimp only; omega) | trivial⟩⟩
        · skip
          have dc32 := pm_neI c32
          refine And.intro (fun c34 => ?_) (fun c34 => ?_)
          · skip
            refine hC.1 7 88 _ _ rfl _ _ _ _ _ ?_
            have k0 : (0 : Int32).toInt = 0 := rfl
            refine hC.1 10 102 _ _ rfl _ _ _ _ _ ?_
            exact ⟨rfl, fun _ => (by decide), rfl, (0 : Int32), rfl, rfl, Or.inr ⟨rfl, by first | omega | (dsimp only; omega) | trivial⟩⟩
          · skip
            have k1 : (1 : Int32).toInt = 1 := rfl
            refine hC.1 10 102 _ _ rfl _ _ _ _ _ ?_
            exact ⟨rfl, fun _ => (by decide), rfl, (1 : Int32), rfl, rfl, Or.inl ⟨rfl, by first | omega | (dsimp only; omega) | trivial⟩⟩
    · skip
      have dc26 : (x5).toInt = ((3 : Int32) : Int32).toInt := congrArg Int32.toInt c26
      refine Exists.intro _ (And.intro md_o ?_)
      refine Exists.intro _ (Exists.intro _ (And.intro (Or.inl (md_a_weights D)) (And.intro (by omega) ?_)))
      refine hC.1 6 68 _ _ rfl _ _ _ _ _ ?_
      have yk_2 : ((f 2 (x2).toInt.toNat)).toInt = kW (f 0) (f 2) x3.toInt x4.toInt x5.toInt x2.toInt.toNat := (by unfold kW; first | (exfalso; omega) | (rw [if_pos (by omega)]) | (rw [if_neg (by omega), if_pos (by omega), nc_ct (fun j9 => hf 0 j9) (by omega)]; exact yt_2) | (rw [if_neg (by omega), if_neg (by omega)]; rfl))
      refine And.intro (fun c35 => ?_) (fun c35 => ?_)
      · skip
        have dc35 : ((f 2 (x1).toInt.toNat)).toInt = ((f 2 (x2).toInt.toNat) : Int32).toInt := congrArg Int32.toInt c35
        refine hC.1 8 92 _ _ rfl _ _ _ _ _ ?_
        refine And.intro (fun c36 => ?_) (fun c36 => ?_)
        · skip
          refine hC.1 9 101 _ _ rfl _ _ _ _ _ ?_
          have k0 : (0 : Int32).toInt = 0 := rfl
          refine hC.1 10 102 _ _ rfl _ _ _ _ _ ?_
          exact ⟨rfl, fun _ => (by decide), rfl, (0 : Int32), rfl, rfl, Or.inr ⟨rfl, by first | omega | (dsimp only; omega) | trivial⟩⟩
        · skip
          have k1 : (1 : Int32).toInt = 1 := rfl
          refine hC.1 10 102 _ _ rfl _ _ _ _ _ ?_
          exact ⟨rfl, fun _ => (by decide), rfl, (1 : Int32), rfl, rfl, Or.inl ⟨rfl, by first | omega | (dsimp only; omega) | trivial⟩⟩
      · skip
        have dc35 := pm_neI c35
        refine And.intro (fun c37 => ?_) (fun c37 => ?_)
        · skip
          refine hC.1 7 88 _ _ rfl _ _ _ _ _ ?_
          have k0 : (0 : Int32).toInt = 0 := rfl
          refine hC.1 10 102 _ _ rfl _ _ _ _ _ ?_
          exact ⟨rfl, fun _ => (by decide), rfl, (0 : Int32), rfl, rfl, Or.inr ⟨rfl, by first | omega | (dsimp only; omega) | trivial⟩⟩
        · skip
          have k1 : (1 : Int32).toInt = 1 := rfl
          refine hC.1 10 102 _ _ rfl _ _ _ _ _ ?_
          exact ⟨rfl, fun _ => (by decide), rfl, (1 : Int32), rfl, rfl, Or.inl ⟨rfl, by first | omega | (dsimp only; omega) | trivial⟩⟩

end
end
section
section
variable {l : Launch} {g : pm_G} {A0 : pm_H} {h : Nat} {q : Nat → Nat}
set_option maxRecDepth 100000 in
set_option maxHeartbeats 2000000 in
theorem G_X11_laysOrder (D : md_D h q) (v : Nat → Int32) (f : Nat → Nat → Int32) (hv : md_V v) (hf : md_F f) (x1 : Int32) (x2 : Int32) (x3 : Int32) (p0 : 0 ≤ x1.toInt ∧ x1.toInt ≤ x2.toInt ∧ x2.toInt < (v 0).toInt) (p1 : 0 ≤ x3.toInt ∧ x3.toInt ≤ 4) : pm_Mt l g 221 2 0 0 [.ref h, .int x1, .int x2, .int x3] (md A0 g h q v f) (md_Qw A0 g h q f (fun r v2 f2 => f2 0 = f 0 ∧ f2 1 = f 1 ∧ ((v2 0).toInt = (v 0).toInt ∧ (v2 1).toInt = (v 1).toInt ∧ (v2 2).toInt = (v 2).toInt ∧ (v2 3).toInt = (v 3).toInt ∧ (v2 4).toInt = (v 4).toInt ∧ (v2 6).toInt = (v 6).toInt ∧ 0 ≤ r.toInt ∧ r.toInt ≤ 24) ∧ (KT (f 0) (f 2) x1.toInt x2.toInt x3.toInt r.toInt.toNat (f2 16)))) := by
  refine mt_X11_laysOrder rfl (fun J hC => ?_)
  have hv9 := hv
  unfold md_V at hv9
  have rg_x1 := pm_rng x1
  have rg_x2 := pm_rng x2
  have rg_x3 := pm_rng x3
  refine hC.1 0 0 _ _ rfl _ _ _ _ _ ?_
  have k0 : (0 : Int32).toInt = 0 := rfl
  have lp2 : ∀ (n : Nat) (z4_9 : Int32) (z5_9 : Int32) (z6_9 : Int32) (v1 : Nat → Int32) (f1 : Nat → Nat → Int32), md_V v1 → md_F f1 → f1 2 = f 2 → f1 0 = f 0 → f1 1 = f 1 → f1 2 = f 2 → (0 ≤ z6_9.toInt ∧ z6_9.toInt ≤ x2.toInt - x1.toInt + 1) → (z4_9.toInt = (cntB z5_9 24 : Int)) → (2 ≤ x3.toInt → z4_9.toInt = 0) → (x3.toInt ≤ 1 → MO (gW (f 0) x1.toInt x2.toInt x3.toInt) z6_9.toInt.toNat z4_9.toInt.toNat (f1 16)) → (x3.toInt ≤ 1 → MB z5_9 z4_9.toInt.toNat (f1 16)) → (v1 0).toInt = (v 0).toInt → (v1 1).toInt = (v 1).toInt → (v1 2).toInt = (v 2).toInt → (v1 3).toInt = (v 3).toInt → (v1 4).toInt = (v 4).toInt → (v1 6).toInt = (v 6).toInt → 200 - z6_9.toInt < (n : Int) → J 9 [some (.ref h), some (.int x1), some (.int x2), some (.int x3), some (.int z4_9), some (.int z5_9), some (.int z6_9), none, none] [] (md A0 g h q v1 f1) 0 0 := by
    intro n
    induction n with
    | zero =>
      intro z4_9 z5_9 z6_9 v1 f1 hv1 hf1 hw1 hr1_0 hr1_1 hr1_2 j0_9 j1_9 j2_9 j3_9 j4_9 j5_9 j6_9 j7_9 j8_9 j9_9 j10_9 j11_9
      omega
    | succ n ih3 =>
      intro z4_9 z5_9 z6_9 v1 f1 hv1 hf1 hw1 hr1_0 hr1_1 hr1_2 j0_9 j1_9 j2_9 j3_9 j4_9 j5_9 j6_9 j7_9 j8_9 j9_9 j10_9 j11_9
      have cb9 := cntB_le z5_9 24
      refine hC.1 1 9 _ _ rfl _ _ _ _ _ ?_
      intro m5 em_13
      try have e5 : m5.toInt = (x2).toInt - (x1).toInt := by rw [em_13]; exact pm_sub _ _ (by omega) (by omega)
      refine And.intro (fun c6 => ?_) (fun c6 => ?_)
      · skip
        refine hC.1 6 85 _ _ rfl _ _ _ _ _ ?_
        have k2 : (2 : Int32).toInt = 2 := rfl
        refine And.intro (fun c7 => ?_) (fun c7 => ?_)
        · skip
          refine hC.1 7 93 _ _ rfl _ _ _ _ _ ?_
          refine And.intro (Exists.intro _ md_o) (Exists.intro _ (Exists.intro _ (Exists.intro _ (Exists.intro _ (And.intro (c_X11_setOf D v1 f1 hv1 hf1 x1 x2 (by omega) (by omega)) (And.intro rfl (fun r9 A9 h9 => ?_)))))))
          obtain ⟨y8, rfl, rfl, by8⟩ := h9
          have ys_9 : y8 = sS (f 0) x1.toInt x2.toInt := (by rw [by8, hr1_0]; rfl)
          have lp10 : ∀ (n : Nat) (z4_104 : Int32) (z7_104 : Int32) (v9 : Nat → Int32) (f9 : Nat → Nat → Int32), md_V v9 → md_F f9 → f9 2 = f 2 → f9 0 = f 0 → f9 1 = f 1 → f9 2 = f 2 → (0 ≤ z7_104.toInt ∧ z7_104.toInt ≤ 24 ∧ 0 ≤ z4_104.toInt ∧ z4_104.toInt ≤ z7_104.toInt) → (OD (kW (f 0) (f 2) x1.toInt x2.toInt x3.toInt) (sS (f 0) x1.toInt x2.toInt) z7_104.toInt.toNat z4_104.toInt.toNat (f9 16)) → (v9 0).toInt = (v 0).toInt → (v9 1).toInt = (v 1).toInt → (v9 2).toInt = (v 2).toInt → (v9 3).toInt = (v 3).toInt → (v9 4).toInt = (v 4).toInt → (v9 6).toInt = (v 6).toInt → 30 - z7_104.toInt < (n : Int) → J 104 [some (.ref h), some (.int x1), some (.int x2), some (.int x3), some (.int z4_104), some (.int z5_9), some (.int y8), some (.int z7_104), none] [] (md A0 g h q v9 f9) 0 0 := by
            intro n
            induction n with
            | zero =>
              intro z4_104 z7_104 v9 f9 hv9 hf9 hw9 hr9_0 hr9_1 hr9_2 j0_104 j1_104 j2_104 j3_104 j4_104 j5_104 j6_104 j7_104 j8_104
              omega
            | succ n ih11 =>
              intro z4_104 z7_104 v9 f9 hv9 hf9 hw9 hr9_0 hr9_1 hr9_2 j0_104 j1_104 j2_104 j3_104 j4_104 j5_104 j6_104 j7_104 j8_104
              obtain ⟨ya_8, ye_8⟩ : ∃ z9, z9 = f9 16 := ⟨_, rfl⟩
              rw [← ye_8] at j1_104
              have yr_8 := OD_r _ (by omega) j1_104
              have yr_7 := yr_8.1
              refine hC.1 8 104 _ _ rfl _ _ _ _ _ ?_
              have k24 : (24 : Int32).toInt = 24 := rfl
              refine And.intro (fun c13 => ?_) (fun c13 => ?_)
              · skip
                refine hC.1 13 194 _ _ rfl _ _ _ _ _ ?_
                exact ⟨rfl, fun e9 => absurd e9 (by decide), rfl, z4_104, v9, f9, rfl, rfl, hv9, hf9, hw9, hr9_0, hr9_1, by first | omega | (dsimp only; omega) | trivial, by refine Or.inr ⟨by omega, ?_⟩; rw [← ye_8]; have h9 : z7_104.toInt.toNat = 24 := (by omega); rw [h9] at j1_104; exact j1_104⟩
              · skip
                have k1 : (1 : Int32).toInt = 1 := rfl
                refine And.intro (fun c14 => ?_) (fun c14 => ?_)
                · skip
                  have dc14 := pm_neI c14
                  refine hC.1 9 124 _ _ rfl _ _ _ _ _ ?_
                  have lp16 : ∀ (n : Nat) (z8_128 : Int32) (v15 : Nat → Int32) (f15 : Nat → Nat → Int32), md_V v15 → md_F f15 → f15 2 = f 2 → f15 0 = f 0 → f15 1 = f 1 → f15 2 = f 2 → (0 ≤ z8_128.toInt ∧ z8_128.toInt ≤ z4_104.toInt) → (HOL (kW (f 0) (f 2) x1.toInt x2.toInt x3.toInt) ya_8 (f15 16) z4_104.toInt z8_128.toInt z7_104) → (v15 0).toInt = (v 0).toInt → (v15 1).toInt = (v 1).toInt → (v15 2).toInt = (v 2).toInt → (v15 3).toInt = (v 3).toInt → (v15 4).toInt = (v 4).toInt → (v15 6).toInt = (v 6).toInt → z8_128.toInt < (n : Int) → J 128 [some (.ref h), some (.int x1), some (.int x2), some (.int x3), some (.int z4_104), some (.int z5_9), some (.int y8), some (.int z7_104), some (.int z8_128)] [] (md A0 g h q v15 f15) 0 0 := by
                    intro n
                    induction n with
                    | zero =>
                      intro z8_128 v15 f15 hv15 hf15 hw15 hr15_0 hr15_1 hr15_2 j0_128 j1_128 j2_128 j3_128 j4_128 j5_128 j6_128 j7_128 j8_128
                      omega
                    | succ n ih17 =>
                      intro z8_128 v15 f15 hv15 hf15 hw15 hr15_0 hr15_1 hr15_2 j0_128 j1_128 j2_128 j3_128 j4_128 j5_128 j6_128 j7_128 j8_128
                      refine hC.1 10 128 _ _ rfl _ _ _ _ _ ?_
                      refine And.intro (fun c19 => ?_) (fun c19 => ?_)
                      · skip
                        refine hC.1 11 176 _ _ rfl _ _ _ _ _ ?_
                        refine Exists.intro _ (And.intro md_o ?_)
                        refine Exists.intro _ (Exists.intro _ (And.intro (md_a_row D) (And.intro (by omega) ?_)))
                        rw [md_s_row D]
                        obtain ⟨f20, ef20⟩ : ∃ z9, z9 = va_up f15 16 (upd (f15 16) (z8_128).toInt.toNat z7_104) := ⟨_, rfl⟩
                        rw [← ef20]
                        have pf_184 : f20 16 = upd (f15 16) (z8_128).toInt.toNat z7_104 := by rw [ef20]; exact if_pos rfl
                        have pg_184 : ∀ i9, i9 ≠ 16 → f20 i9 = f15 i9 := fun i9 h9 => by rw [ef20]; exact if_neg h9
                        have hf20 : md_F f20 := by rw [ef20]; exact md_F_st hf15 16 _ _ (by show (0 : Int) ≤ _ ∧ _ ≤ (23 : Int); omega)
                        have hw20 : f20 2 = f 2 := (show f20 2 = f15 2 by rw [ef20]; rfl).trans hw15
                        have hr20_0 : f20 0 = f 0 := (show f20 0 = f15 0 by rw [ef20]; rfl).trans hr15_0
                        have hr20_1 : f20 1 = f 1 := (show f20 1 = f15 1 by rw [ef20]; rfl).trans hr15_1
                        have hr20_2 : f20 2 = f 2 := (show f20 2 = f15 2 by rw [ef20]; rfl).trans hr15_2
                        have yi_9 : INS (kW (f 0) (f 2) x1.toInt x2.toInt x3.toInt) ya_8 (f20 16) z4_104.toInt.toNat z7_104 := HOL_e j1_128 (by omega) (by first | (exact Or.inl (by omega)) | (exact Or.inr (by rw [← yj_9]; exact fun h9 => yr_9 (Or.inl h9)))) (by rw [pf_184])
                        intro m21 em_185
                        try have e21 : m21.toInt = (z4_104).toInt + (1) := by rw [em_185]; exact pm_addc _ _ (1) rfl (by omega) (by omega)
                        refine hC.1 12 188 _ _ rfl _ _ _ _ _ ?_
                        intro m22 em_188
                        try have e22 : m22.toInt = (z7_104).toInt + (1) := by rw [em_188]; exact pm_addc _ _ (1) rfl (by omega) (by omega)
                        exact hC.2 [false, false, false, false, false, false, false, false, true] _ _ _ _ _ _ (ih11 m21 m22 v15 f20 hv15 hf20 hw20 hr20_0 hr20_1 hr20_2 (by omega) (by rw [show m22.toInt.toNat = z7_104.toInt.toNat + 1 by omega]; first | (rw [← ye_8]; exact OD_n j1_104 (by rw [← ys_9]; exact b_z (by omega) (by assumption))) | (rw [show m21.toInt.toNat = z4_104.toInt.toNat + 1 by omega]; exact OD_y j1_104 (by rw [← ys_9]; exact b_y (by omega) (by assumption)) (by rw [nJ_of (by omega)]; exact yi_9))) (by omega) (by omega) (by omega) (by omega) (by omega) (by omega) (by omega))
                      · skip
                        refine Exists.intro _ (And.intro md_o ?_)
                        intro m23 em_143
                        try have e23 : m23.toInt = (z8_128).toInt - (1) := by rw [em_143]; exact pm_subc _ _ (1) rfl (by omega) (by omega)
                        have yj_9 : (m23).toInt.toNat = (z8_128.toInt - 1).toNat := (by omega)
                        have yl_9 : (f15 16 (z8_128.toInt - 1).toNat).toInt < z7_104.toInt := (by rw [j1_128.2.1 _ (by omega)]; have h9 := (yr_8.2 (z8_128.toInt - 1).toNat (by omega)).2; omega)
                        rw [← yj_9] at yl_9
                        refine Exists.intro _ (Exists.intro _ (And.intro (Or.inl (md_a_row D)) (And.intro (by omega) ?_)))
                        have w24 : (0 : Int) ≤ (f15 16 (m23).toInt.toNat).toInt ∧ (f15 16 (m23).toInt.toNat).toInt ≤ (23 : Int) := hf15 16 _
                        refine And.intro (Exists.intro _ md_o) (Exists.intro _ (Exists.intro _ (Exists.intro _ (Exists.intro _ (And.intro (F_X11_isAhead D v15 f15 hv15 hf15 z7_104 (f15 16 (m23).toInt.toNat) x1 x2 x3 (by omega) (by omega) (by omega) (by omega)) (And.intro rfl (fun r9 A9 h9 => ?_)))))))
                        rcases h9 with ⟨y25, rfl, rfl, ⟨rfl, by25⟩ | ⟨rfl, by25⟩⟩
                        · skip
                          have yr_9 := by25
                          rw [hr15_0, hr15_2] at yr_9
                          refine And.intro (fun c9 => absurd c9 (by decide)) (fun _ => ?_)
                          refine Exists.intro _ (And.intro md_o ?_)
                          refine Exists.intro _ (And.intro md_o ?_)
                          intro m26 em_167
                          try have e26 : m26.toInt = (z8_128).toInt - (1) := by rw [em_167]; exact pm_subc _ _ (1) rfl (by omega) (by omega)
                          have yk_9 : (m26).toInt.toNat = (z8_128.toInt - 1).toNat := (by omega)
                          refine Exists.intro _ (Exists.intro _ (And.intro (Or.inl (md_a_row D)) (And.intro (by omega) ?_)))
                          have w27 : (0 : Int) ≤ (f15 16 (m26).toInt.toNat).toInt ∧ (f15 16 (m26).toInt.toNat).toInt ≤ (23 : Int) := hf15 16 _
                          refine Exists.intro _ (Exists.intro _ (And.intro (md_a_row D) (And.intro (by omega) ?_)))
                          rw [md_s_row D]
                          obtain ⟨f28, ef28⟩ : ∃ z9, z9 = va_up f15 16 (upd (f15 16) (z8_128).toInt.toNat (f15 16 (m26).toInt.toNat)) := ⟨_, rfl⟩
                          rw [← ef28]
                          have pf_169 : f28 16 = upd (f15 16) (z8_128).toInt.toNat (f15 16 (m26).toInt.toNat) := by rw [ef28]; exact if_pos rfl
                          have pg_169 : ∀ i9, i9 ≠ 16 → f28 i9 = f15 i9 := fun i9 h9 => by rw [ef28]; exact if_neg h9
                          have hf28 : md_F f28 := by rw [ef28]; exact md_F_st hf15 16 _ _ (by show (0 : Int) ≤ _ ∧ _ ≤ (23 : Int); omega)
                          have hw28 : f28 2 = f 2 := (show f28 2 = f15 2 by rw [ef28]; rfl).trans hw15
                          have hr28_0 : f28 0 = f 0 := (show f28 0 = f15 0 by rw [ef28]; rfl).trans hr15_0
                          have hr28_1 : f28 1 = f 1 := (show f28 1 = f15 1 by rw [ef28]; rfl).trans hr15_1
                          have hr28_2 : f28 2 = f 2 := (show f28 2 = f15 2 by rw [ef28]; rfl).trans hr15_2
                          have km1 : (-1 : Int32).toInt = -1 := rfl
                          intro m29 em_170
                          try have e29 : m29.toInt = (z8_128).toInt + (-1) := by rw [em_170]; exact pm_addc _ _ (-1) rfl (by omega) (by omega)
                          exact ih17 m29 v15 f28 hv15 hf28 hw28 hr28_0 hr28_1 hr28_2 (by omega) (by rw [show m29.toInt = z8_128.toInt - 1 by omega]; exact HOL_s j1_128 (by omega) (by rw [← yj_9]; omega) (by rw [pf_169, yk_9])) (by omega) (by omega) (by omega) (by omega) (by omega) (by omega) (by omega)
                        · skip
                          have yr_9 := by25
                          rw [hr15_0, hr15_2] at yr_9
                          refine And.intro (fun _ => ?_) (fun c9 => absurd c9 (by decide))
                          refine hC.1 11 176 _ _ rfl _ _ _ _ _ ?_
                          refine Exists.intro _ (And.intro md_o ?_)
                          refine Exists.intro _ (Exists.intro _ (And.intro (md_a_row D) (And.intro (by omega) ?_)))
                          rw [md_s_row D]
                          obtain ⟨f30, ef30⟩ : ∃ z9, z9 = va_up f15 16 (upd (f15 16) (z8_128).toInt.toNat z7_104) := ⟨_, rfl⟩
                          rw [← ef30]
                          have pf_184 : f30 16 = upd (f15 16) (z8_128).toInt.toNat z7_104 := by rw [ef30]; exact if_pos rfl
                          have pg_184 : ∀ i9, i9 ≠ 16 → f30 i9 = f15 i9 := fun i9 h9 => by rw [ef30]; exact if_neg h9
                          have hf30 : md_F f30 := by rw [ef30]; exact md_F_st hf15 16 _ _ (by show (0 : Int) ≤ _ ∧ _ ≤ (23 : Int); omega)
                          have hw30 : f30 2 = f 2 := (show f30 2 = f15 2 by rw [ef30]; rfl).trans hw15
                          have hr30_0 : f30 0 = f 0 := (show f30 0 = f15 0 by rw [ef30]; rfl).trans hr15_0
                          have hr30_1 : f30 1 = f 1 := (show f30 1 = f15 1 by rw [ef30]; rfl).trans hr15_1
                          have hr30_2 : f30 2 = f 2 := (show f30 2 = f15 2 by rw [ef30]; rfl).trans hr15_2
                          have yi_9 : INS (kW (f 0) (f 2) x1.toInt x2.toInt x3.toInt) ya_8 (f30 16) z4_104.toInt.toNat z7_104 := HOL_e j1_128 (by omega) (by first | (exact Or.inl (by omega)) | (exact Or.inr (by rw [← yj_9]; exact fun h9 => yr_9 (Or.inl h9)))) (by rw [pf_184])
                          intro m31 em_185
                          try have e31 : m31.toInt = (z4_104).toInt + (1) := by rw [em_185]; exact pm_addc _ _ (1) rfl (by omega) (by omega)
                          refine hC.1 12 188 _ _ rfl _ _ _ _ _ ?_
                          intro m32 em_188
                          try have e32 : m32.toInt = (z7_104).toInt + (1) := by rw [em_188]; exact pm_addc _ _ (1) rfl (by omega) (by omega)
                          exact hC.2 [false, false, false, false, false, false, false, false, true] _ _ _ _ _ _ (ih11 m31 m32 v15 f30 hv15 hf30 hw30 hr30_0 hr30_1 hr30_2 (by omega) (by rw [show m32.toInt.toNat = z7_104.toInt.toNat + 1 by omega]; first | (rw [← ye_8]; exact OD_n j1_104 (by rw [← ys_9]; exact b_z (by omega) (by assumption))) | (rw [show m31.toInt.toNat = z4_104.toInt.toNat + 1 by omega]; exact OD_y j1_104 (by rw [← ys_9]; exact b_y (by omega) (by assumption)) (by rw [nJ_of (by omega)]; exact yi_9))) (by omega) (by omega) (by omega) (by omega) (by omega) (by omega) (by omega))
                  exact lp16 (z4_104.toInt).toNat.succ z4_104 v9 f9 hv9 hf9 hw9 hr9_0 hr9_1 hr9_2 (by omega) (by rw [← ye_8]; exact HOL_0) (by omega) (by omega) (by omega) (by omega) (by omega) (by omega) (by omega)
                · skip
                  have dc14 : (((y8 >>> (z7_104 &&& 31)) &&& (1 : Int32))).toInt = (0 : Int32).toInt := congrArg Int32.toInt c14
                  refine hC.1 12 188 _ _ rfl _ _ _ _ _ ?_
                  intro m33 em_188
                  try have e33 : m33.toInt = (z7_104).toInt + (1) := by rw [em_188]; exact pm_addc _ _ (1) rfl (by omega) (by omega)
                  exact ih11 z4_104 m33 v9 f9 hv9 hf9 hw9 hr9_0 hr9_1 hr9_2 (by omega) (by rw [show m33.toInt.toNat = z7_104.toInt.toNat + 1 by omega]; first | (rw [← ye_8]; exact OD_n j1_104 (by rw [← ys_9]; exact b_z (by omega) (by assumption))) | (rw [show z4_104.toInt.toNat = z4_104.toInt.toNat + 1 by omega]; exact OD_y j1_104 (by rw [← ys_9]; exact b_y (by omega) (by assumption)) (by rw [nJ_of (by omega)]; exact yi_9))) (by omega) (by omega) (by omega) (by omega) (by omega) (by omega) (by omega)
          exact lp10 (30 - (0 : Int32).toInt).toNat.succ z4_9 (0 : Int32) v1 f1 hv1 hf1 hw1 hr1_0 hr1_1 hr1_2 (by omega) (by rw [show (0 : Int32).toInt.toNat = 0 by omega, show z4_9.toInt.toNat = 0 by omega]; exact rfl) (by omega) (by omega) (by omega) (by omega) (by omega) (by omega) (by omega)
        · skip
          exact ⟨rfl, fun e9 => absurd e9 (by decide), rfl, z4_9, v1, f1, rfl, rfl, hv1, hf1, hw1, hr1_0, hr1_1, by first | omega | (dsimp only; omega) | trivial, by refine Or.inl ⟨by omega, ?_⟩; rw [show (x2.toInt - x1.toInt + 1).toNat = z6_9.toInt.toNat by omega]; exact j3_9 (by omega)⟩
      · skip
        have k2 : (2 : Int32).toInt = 2 := rfl
        refine And.intro (fun c34 => ?_) (fun c34 => ?_)
        · skip
          refine hC.1 6 85 _ _ rfl _ _ _ _ _ ?_
          refine And.intro (fun c35 => ?_) (fun c35 => ?_)
          · skip
            refine hC.1 7 93 _ _ rfl _ _ _ _ _ ?_
            refine And.intro (Exists.intro _ md_o) (Exists.intro _ (Exists.intro _ (Exists.intro _ (Exists.intro _ (And.intro (c_X11_setOf D v1 f1 hv1 hf1 x1 x2 (by omega) (by omega)) (And.intro rfl (fun r9 A9 h9 => ?_)))))))
            obtain ⟨y36, rfl, rfl, by36⟩ := h9
            have ys_9 : y36 = sS (f 0) x1.toInt x2.toInt := (by rw [by36, hr1_0]; rfl)
            have lp38 : ∀ (n : Nat) (z4_104 : Int32) (z7_104 : Int32) (v37 : Nat → Int32) (f37 : Nat → Nat → Int32), md_V v37 → md_F f37 → f37 2 = f 2 → f37 0 = f 0 → f37 1 = f 1 → f37 2 = f 2 → (0 ≤ z7_104.toInt ∧ z7_104.toInt ≤ 24 ∧ 0 ≤ z4_104.toInt ∧ z4_104.toInt ≤ z7_104.toInt) → (OD (kW (f 0) (f 2) x1.toInt x2.toInt x3.toInt) (sS (f 0) x1.toInt x2.toInt) z7_104.toInt.toNat z4_104.toInt.toNat (f37 16)) → (v37 0).toInt = (v 0).toInt → (v37 1).toInt = (v 1).toInt → (v37 2).toInt = (v 2).toInt → (v37 3).toInt = (v 3).toInt → (v37 4).toInt = (v 4).toInt → (v37 6).toInt = (v 6).toInt → 30 - z7_104.toInt < (n : Int) → J 104 [some (.ref h), some (.int x1), some (.int x2), some (.int x3), some (.int z4_104), some (.int z5_9), some (.int y36), some (.int z7_104), none] [] (md A0 g h q v37 f37) 0 0 := by
              intro n
              induction n with
              | zero =>
                intro z4_104 z7_104 v37 f37 hv37 hf37 hw37 hr37_0 hr37_1 hr37_2 j0_104 j1_104 j2_104 j3_104 j4_104 j5_104 j6_104 j7_104 j8_104
                omega
              | succ n ih39 =>
                intro z4_104 z7_104 v37 f37 hv37 hf37 hw37 hr37_0 hr37_1 hr37_2 j0_104 j1_104 j2_104 j3_104 j4_104 j5_104 j6_104 j7_104 j8_104
                obtain ⟨ya_8, ye_8⟩ : ∃ z9, z9 = f37 16 := ⟨_, rfl⟩
                rw [← ye_8] at j1_104
                have yr_8 := OD_r _ (by omega) j1_104
                have yr_7 := yr_8.1
                refine hC.1 8 104 _ _ rfl _ _ _ _ _ ?_
                have k24 : (24 : Int32).toInt = 24 := rfl
                refine And.intro (fun c41 => ?_) (fun c41 => ?_)
                · skip
                  refine hC.1 13 194 _ _ rfl _ _ _ _ _ ?_
                  exact ⟨rfl, fun e9 => absurd e9 (by decide), rfl, z4_104, v37, f37, rfl, rfl, hv37, hf37, hw37, hr37_0, hr37_1, by first | omega | (dsimp only; omega) | trivial, by refine Or.inr ⟨by omega, ?_⟩; rw [← ye_8]; have h9 : z7_104.toInt.toNat = 24 := (by omega); rw [h9] at j1_104; exact j1_104⟩
                · skip
                  have k1 : (1 : Int32).toInt = 1 := rfl
                  refine And.intro (fun c42 => ?_) (fun c42 => ?_)
                  · skip
                    have dc42 := pm_neI c42
                    refine hC.1 9 124 _ _ rfl _ _ _ _ _ ?_
                    have lp44 : ∀ (n : Nat) (z8_128 : Int32) (v43 : Nat → Int32) (f43 : Nat → Nat → Int32), md_V v43 → md_F f43 → f43 2 = f 2 → f43 0 = f 0 → f43 1 = f 1 → f43 2 = f 2 → (0 ≤ z8_128.toInt ∧ z8_128.toInt ≤ z4_104.toInt) → (HOL (kW (f 0) (f 2) x1.toInt x2.toInt x3.toInt) ya_8 (f43 16) z4_104.toInt z8_128.toInt z7_104) → (v43 0).toInt = (v 0).toInt → (v43 1).toInt = (v 1).toInt → (v43 2).toInt = (v 2).toInt → (v43 3).toInt = (v 3).toInt → (v43 4).toInt = (v 4).toInt → (v43 6).toInt = (v 6).toInt → z8_128.toInt < (n : Int) → J 128 [some (.ref h), some (.int x1), some (.int x2), some (.int x3), some (.int z4_104), some (.int z5_9), some (.int y36), some (.int z7_104), some (.int z8_128)] [] (md A0 g h q v43 f43) 0 0 := by
                      intro n
                      induction n with
                      | zero =>
                        intro z8_128 v43 f43 hv43 hf43 hw43 hr43_0 hr43_1 hr43_2 j0_128 j1_128 j2_128 j3_128 j4_128 j5_128 j6_128 j7_128 j8_128
                        omega
                      | succ n ih45 =>
                        intro z8_128 v43 f43 hv43 hf43 hw43 hr43_0 hr43_1 hr43_2 j0_128 j1_128 j2_128 j3_128 j4_128 j5_128 j6_128 j7_128 j8_128
                        refine hC.1 10 128 _ _ rfl _ _ _ _ _ ?_
                        refine And.intro (fun c47 => ?_) (fun c47 => ?_)
                        · skip
                          refine hC.1 11 176 _ _ rfl _ _ _ _ _ ?_
                          refine Exists.intro _ (And.intro md_o ?_)
                          refine Exists.intro _ (Exists.intro _ (And.intro (md_a_row D) (And.intro (by omega) ?_)))
                          rw [md_s_row D]
                          obtain ⟨f48, ef48⟩ : ∃ z9, z9 = va_up f43 16 (upd (f43 16) (z8_128).toInt.toNat z7_104) := ⟨_, rfl⟩
                          rw [← ef48]
                          have pf_184 : f48 16 = upd (f43 16) (z8_128).toInt.toNat z7_104 := by rw [ef48]; exact if_pos rfl
                          have pg_184 : ∀ i9, i9 ≠ 16 → f48 i9 = f43 i9 := fun i9 h9 => by rw [ef48]; exact if_neg h9
                          have hf48 : md_F f48 := by rw [ef48]; exact md_F_st hf43 16 _ _ (by show (0 : Int) ≤ _ ∧ _ ≤ (23 : Int); omega)
                          have hw48 : f48 2 = f 2 := (show f48 2 = f43 2 by rw [ef48]; rfl).trans hw43
                          have hr48_0 : f48 0 = f 0 := (show f48 0 = f43 0 by rw [ef48]; rfl).trans hr43_0
                          have hr48_1 : f48 1 = f 1 := (show f48 1 = f43 1 by rw [ef48]; rfl).trans hr43_1
                          have hr48_2 : f48 2 = f 2 := (show f48 2 = f43 2 by rw [ef48]; rfl).trans hr43_2
                          have yi_9 : INS (kW (f 0) (f 2) x1.toInt x2.toInt x3.toInt) ya_8 (f48 16) z4_104.toInt.toNat z7_104 := HOL_e j1_128 (by omega) (by first | (exact Or.inl (by omega)) | (exact Or.inr (by rw [← yj_9]; exact fun h9 => yr_9 (Or.inl h9)))) (by rw [pf_184])
                          intro m49 em_185
                          try have e49 : m49.toInt = (z4_104).toInt + (1) := by rw [em_185]; exact pm_addc _ _ (1) rfl (by omega) (by omega)
                          refine hC.1 12 188 _ _ rfl _ _ _ _ _ ?_
                          intro m50 em_188
                          try have e50 : m50.toInt = (z7_104).toInt + (1) := by rw [em_188]; exact pm_addc _ _ (1) rfl (by omega) (by omega)
                          exact hC.2 [false, false, false, false, false, false, false, false, true] _ _ _ _ _ _ (ih39 m49 m50 v43 f48 hv43 hf48 hw48 hr48_0 hr48_1 hr48_2 (by omega) (by rw [show m50.toInt.toNat = z7_104.toInt.toNat + 1 by omega]; first | (rw [← ye_8]; exact OD_n j1_104 (by rw [← ys_9]; exact b_z (by omega) (by assumption))) | (rw [show m49.toInt.toNat = z4_104.toInt.toNat + 1 by omega]; exact OD_y j1_104 (by rw [← ys_9]; exact b_y (by omega) (by assumption)) (by rw [nJ_of (by omega)]; exact yi_9))) (by omega) (by omega) (by omega) (by omega) (by omega) (by omega) (by omega))
                        · skip
                          refine Exists.intro _ (And.intro md_o ?_)
                          intro m51 em_143
                          try have e51 : m51.toInt = (z8_128).toInt - (1) := by rw [em_143]; exact pm_subc _ _ (1) rfl (by omega) (by omega)
                          have yj_9 : (m51).toInt.toNat = (z8_128.toInt - 1).toNat := (by omega)
                          have yl_9 : (f43 16 (z8_128.toInt - 1).toNat).toInt < z7_104.toInt := (by rw [j1_128.2.1 _ (by omega)]; have h9 := (yr_8.2 (z8_128.toInt - 1).toNat (by omega)).2; omega)
                          rw [← yj_9] at yl_9
                          refine Exists.intro _ (Exists.intro _ (And.intro (Or.inl (md_a_row D)) (And.intro (by omega) ?_)))
                          have w52 : (0 : Int) ≤ (f43 16 (m51).toInt.toNat).toInt ∧ (f43 16 (m51).toInt.toNat).toInt ≤ (23 : Int) := hf43 16 _
                          refine And.intro (Exists.intro _ md_o) (Exists.intro _ (Exists.intro _ (Exists.intro _ (Exists.intro _ (And.intro (F_X11_isAhead D v43 f43 hv43 hf43 z7_104 (f43 16 (m51).toInt.toNat) x1 x2 x3 (by omega) (by omega) (by omega) (by omega)) (And.intro rfl (fun r9 A9 h9 => ?_)))))))
                          rcases h9 with ⟨y53, rfl, rfl, ⟨rfl, by53⟩ | ⟨rfl, by53⟩⟩
                          · skip
                            have yr_9 := by53
                            rw [hr43_0, hr43_2] at yr_9
                            refine And.intro (fun c9 => absurd c9 (by decide)) (fun _ => ?_)
                            refine Exists.intro _ (And.intro md_o ?_)
                            refine Exists.intro _ (And.intro md_o ?_)
                            intro m54 em_167
                            try have e54 : m54.toInt = (z8_128).toInt - (1) := by rw [em_167]; exact pm_subc _ _ (1) rfl (by omega) (by omega)
                            have yk_9 : (m54).toInt.toNat = (z8_128.toInt - 1).toNat := (by omega)
                            refine Exists.intro _ (Exists.intro _ (And.intro (Or.inl (md_a_row D)) (And.intro (by omega) ?_)))
                            have w55 : (0 : Int) ≤ (f43 16 (m54).toInt.toNat).toInt ∧ (f43 16 (m54).toInt.toNat).toInt ≤ (23 : Int) := hf43 16 _
                            refine Exists.intro _ (Exists.intro _ (And.intro (md_a_row D) (And.intro (by omega) ?_)))
                            rw [md_s_row D]
                            obtain ⟨f56, ef56⟩ : ∃ z9, z9 = va_up f43 16 (upd (f43 16) (z8_128).toInt.toNat (f43 16 (m54).toInt.toNat)) := ⟨_, rfl⟩
                            rw [← ef56]
                            have pf_169 : f56 16 = upd (f43 16) (z8_128).toInt.toNat (f43 16 (m54).toInt.toNat) := by rw [ef56]; exact if_pos rfl
                            have pg_169 : ∀ i9, i9 ≠ 16 → f56 i9 = f43 i9 := fun i9 h9 => by rw [ef56]; exact if_neg h9
                            have hf56 : md_F f56 := by rw [ef56]; exact md_F_st hf43 16 _ _ (by show (0 : Int) ≤ _ ∧ _ ≤ (23 : Int); omega)
                            have hw56 : f56 2 = f 2 := (show f56 2 = f43 2 by rw [ef56]; rfl).trans hw43
                            have hr56_0 : f56 0 = f 0 := (show f56 0 = f43 0 by rw [ef56]; rfl).trans hr43_0
                            have hr56_1 : f56 1 = f 1 := (show f56 1 = f43 1 by rw [ef56]; rfl).trans hr43_1
                            have hr56_2 : f56 2 = f 2 := (show f56 2 = f43 2 by rw [ef56]; rfl).trans hr43_2
                            have km1 : (-1 : Int32).toInt = -1 := rfl
                            intro m57 em_170
                            try have e57 : m57.toInt = (z8_128).toInt + (-1) := by rw [em_170]; exact pm_addc _ _ (-1) rfl (by omega) (by omega)
                            exact ih45 m57 v43 f56 hv43 hf56 hw56 hr56_0 hr56_1 hr56_2 (by omega) (by rw [show m57.toInt = z8_128.toInt - 1 by omega]; exact HOL_s j1_128 (by omega) (by rw [← yj_9]; omega) (by rw [pf_169, yk_9])) (by omega) (by omega) (by omega) (by omega) (by omega) (by omega) (by omega)
                          · skip
                            have yr_9 := by53
                            rw [hr43_0, hr43_2] at yr_9
                            refine And.intro (fun _ => ?_) (fun c9 => absurd c9 (by decide))
                            refine hC.1 11 176 _ _ rfl _ _ _ _ _ ?_
                            refine Exists.intro _ (And.intro md_o ?_)
                            refine Exists.intro _ (Exists.intro _ (And.intro (md_a_row D) (And.intro (by omega) ?_)))
                            rw [md_s_row D]
                            obtain ⟨f58, ef58⟩ : ∃ z9, z9 = va_up f43 16 (upd (f43 16) (z8_128).toInt.toNat z7_104) := ⟨_, rfl⟩
                            rw [← ef58]
                            have pf_184 : f58 16 = upd (f43 16) (z8_128).toInt.toNat z7_104 := by rw [ef58]; exact if_pos rfl
                            have pg_184 : ∀ i9, i9 ≠ 16 → f58 i9 = f43 i9 := fun i9 h9 => by rw [ef58]; exact if_neg h9
                            have hf58 : md_F f58 := by rw [ef58]; exact md_F_st hf43 16 _ _ (by show (0 : Int) ≤ _ ∧ _ ≤ (23 : Int); omega)
                            have hw58 : f58 2 = f 2 := (show f58 2 = f43 2 by rw [ef58]; rfl).trans hw43
                            have hr58_0 : f58 0 = f 0 := (show f58 0 = f43 0 by rw [ef58]; rfl).trans hr43_0
                            have hr58_1 : f58 1 = f 1 := (show f58 1 = f43 1 by rw [ef58]; rfl).trans hr43_1
                            have hr58_2 : f58 2 = f 2 := (show f58 2 = f43 2 by rw [ef58]; rfl).trans hr43_2
                            have yi_9 : INS (kW (f 0) (f 2) x1.toInt x2.toInt x3.toInt) ya_8 (f58 16) z4_104.toInt.toNat z7_104 := HOL_e j1_128 (by omega) (by first | (exact Or.inl (by omega)) | (exact Or.inr (by rw [← yj_9]; exact fun h9 => yr_9 (Or.inl h9)))) (by rw [pf_184])
                            intro m59 em_185
                            try have e59 : m59.toInt = (z4_104).toInt + (1) := by rw [em_185]; exact pm_addc _ _ (1) rfl (by omega) (by omega)
                            refine hC.1 12 188 _ _ rfl _ _ _ _ _ ?_
                            intro m60 em_188
                            try have e60 : m60.toInt = (z7_104).toInt + (1) := by rw [em_188]; exact pm_addc _ _ (1) rfl (by omega) (by omega)
                            exact hC.2 [false, false, false, false, false, false, false, false, true] _ _ _ _ _ _ (ih39 m59 m60 v43 f58 hv43 hf58 hw58 hr58_0 hr58_1 hr58_2 (by omega) (by rw [show m60.toInt.toNat = z7_104.toInt.toNat + 1 by omega]; first | (rw [← ye_8]; exact OD_n j1_104 (by rw [← ys_9]; exact b_z (by omega) (by assumption))) | (rw [show m59.toInt.toNat = z4_104.toInt.toNat + 1 by omega]; exact OD_y j1_104 (by rw [← ys_9]; exact b_y (by omega) (by assumption)) (by rw [nJ_of (by omega)]; exact yi_9))) (by omega) (by omega) (by omega) (by omega) (by omega) (by omega) (by omega))
                    exact lp44 (z4_104.toInt).toNat.succ z4_104 v37 f37 hv37 hf37 hw37 hr37_0 hr37_1 hr37_2 (by omega) (by rw [← ye_8]; exact HOL_0) (by omega) (by omega) (by omega) (by omega) (by omega) (by omega) (by omega)
                  · skip
                    have dc42 : (((y36 >>> (z7_104 &&& 31)) &&& (1 : Int32))).toInt = (0 : Int32).toInt := congrArg Int32.toInt c42
                    refine hC.1 12 188 _ _ rfl _ _ _ _ _ ?_
                    intro m61 em_188
                    try have e61 : m61.toInt = (z7_104).toInt + (1) := by rw [em_188]; exact pm_addc _ _ (1) rfl (by omega) (by omega)
                    exact ih39 z4_104 m61 v37 f37 hv37 hf37 hw37 hr37_0 hr37_1 hr37_2 (by omega) (by rw [show m61.toInt.toNat = z7_104.toInt.toNat + 1 by omega]; first | (rw [← ye_8]; exact OD_n j1_104 (by rw [← ys_9]; exact b_z (by omega) (by assumption))) | (rw [show z4_104.toInt.toNat = z4_104.toInt.toNat + 1 by omega]; exact OD_y j1_104 (by rw [← ys_9]; exact b_y (by omega) (by assumption)) (by rw [nJ_of (by omega)]; exact yi_9))) (by omega) (by omega) (by omega) (by omega) (by omega) (by omega) (by omega)
            exact lp38 (30 - (0 : Int32).toInt).toNat.succ z4_9 (0 : Int32) v1 f1 hv1 hf1 hw1 hr1_0 hr1_1 hr1_2 (by omega) (by rw [show (0 : Int32).toInt.toNat = 0 by omega, show z4_9.toInt.toNat = 0 by omega]; exact rfl) (by omega) (by omega) (by omega) (by omega) (by omega) (by omega) (by omega)
          · skip
            exact ⟨rfl, fun e9 => absurd e9 (by decide), rfl, z4_9, v1, f1, rfl, rfl, hv1, hf1, hw1, hr1_0, hr1_1, by first | omega | (dsimp only; omega) | trivial, by refine Or.inl ⟨by omega, ?_⟩; rw [show (x2.toInt - x1.toInt + 1).toNat = z6_9.toInt.toNat by omega]; exact j3_9 (by omega)⟩
        · skip
          refine Exists.intro _ (And.intro md_o ?_)
          refine And.intro (fun c62 => ?_) (fun c62 => ?_)
          · skip
            have dc62 := pm_neI c62
            refine hC.1 2 37 _ _ rfl _ _ _ _ _ ?_
            intro m63 em_40
            try have e63 : m63.toInt = (x2).toInt - (z6_9).toInt := by rw [em_40]; exact pm_sub _ _ (by omega) (by omega)
            refine hC.1 3 41 _ _ rfl _ _ _ _ _ ?_
            refine Exists.intro _ (Exists.intro _ (And.intro (Or.inl (md_a_colours D)) (And.intro (by omega) ?_)))
            have w64 : (0 : Int) ≤ (f1 0 (m63).toInt.toNat).toInt ∧ (f1 0 (m63).toInt.toNat).toInt ≤ (23 : Int) := hf1 0 _
            have yg_9 : ((f1 0 (m63).toInt.toNat)) = (gW (f 0) x1.toInt x2.toInt x3.toInt) z6_9.toInt.toNat := (by unfold gW; rw [hr1_0]; first | (rw [if_pos (by omega)]; congr 1; omega) | (rw [if_neg (by omega)]; congr 1; omega))
            have yo_9 : (0 : Int) ≤ ((gW (f 0) x1.toInt x2.toInt x3.toInt) z6_9.toInt.toNat).toInt ∧ ((gW (f 0) x1.toInt x2.toInt x3.toInt) z6_9.toInt.toNat).toInt ≤ (23 : Int) := (by rw [← yg_9, hr1_0]; exact hf 0 _)
            have k1 : (1 : Int32).toInt = 1 := rfl
            refine And.intro (fun c65 => ?_) (fun c65 => ?_)
            · skip
              have dc65 := pm_neI c65
              refine hC.1 4 58 _ _ rfl _ _ _ _ _ ?_
              have hn9 := cnt_lt (c := (f1 0 (m63).toInt.toNat)) j1_9 (by omega) (by assumption)
              refine Exists.intro _ (And.intro md_o ?_)
              refine Exists.intro _ (Exists.intro _ (And.intro (md_a_row D) (And.intro (by omega) ?_)))
              rw [md_s_row D]
              obtain ⟨f66, ef66⟩ : ∃ z9, z9 = va_up f1 16 (upd (f1 16) (z4_9).toInt.toNat (f1 0 (m63).toInt.toNat)) := ⟨_, rfl⟩
              rw [← ef66]
              have pf_75 : f66 16 = upd (f1 16) (z4_9).toInt.toNat (f1 0 (m63).toInt.toNat) := by rw [ef66]; exact if_pos rfl
              have pg_75 : ∀ i9, i9 ≠ 16 → f66 i9 = f1 i9 := fun i9 h9 => by rw [ef66]; exact if_neg h9
              have hf66 : md_F f66 := by rw [ef66]; exact md_F_st hf1 16 _ _ (by show (0 : Int) ≤ _ ∧ _ ≤ (23 : Int); omega)
              have hw66 : f66 2 = f 2 := (show f66 2 = f1 2 by rw [ef66]; rfl).trans hw1
              have hr66_0 : f66 0 = f 0 := (show f66 0 = f1 0 by rw [ef66]; rfl).trans hr1_0
              have hr66_1 : f66 1 = f 1 := (show f66 1 = f1 1 by rw [ef66]; rfl).trans hr1_1
              have hr66_2 : f66 2 = f 2 := (show f66 2 = f1 2 by rw [ef66]; rfl).trans hr1_2
              intro m67 em_76
              try have e67 : m67.toInt = (z4_9).toInt + (1) := by rw [em_76]; exact pm_addc _ _ (1) rfl (by omega) (by omega)
              refine hC.1 5 79 _ _ rfl _ _ _ _ _ ?_
              intro m68 em_79
              try have e68 : m68.toInt = (z6_9).toInt + (1) := by rw [em_79]; exact pm_addc _ _ (1) rfl (by omega) (by omega)
              exact hC.2 [false, false, false, false, false, false, false, true, false] _ _ _ _ _ _ (ih3 m67 (z5_9 ||| ((1 : Int32) <<< ((f1 0 (m63).toInt.toNat) &&& 31))) m68 v1 f66 hv1 hf66 hw66 hr66_0 hr66_1 hr66_2 (by omega) (by first | exact j1_9 | (rw [em_76]; exact cnt_st j1_9 (by omega) (by assumption))) (by omega) (by intro h9; rw [show m68.toInt.toNat = z6_9.toInt.toNat + 1 by omega]; first | (exact MO_y (j3_9 h9) (j4_9 h9) yo_9 (by rw [← yg_9]; exact b_y1 (by omega) (by assumption))) | (rw [show m67.toInt.toNat = z4_9.toInt.toNat + 1 by omega]; exact MO_n (j3_9 h9) (j4_9 h9) yo_9 (by rw [← yg_9]; exact b_n (by omega) (by assumption)) (by rw [pf_75, yg_9]))) (by intro h9; first | (exact j4_9 h9) | (rw [show m67.toInt.toNat = z4_9.toInt.toNat + 1 by omega]; exact MB_s (j4_9 h9) (by omega) (by rw [pf_75]))) (by omega) (by omega) (by omega) (by omega) (by omega) (by omega) (by omega))
            · skip
              have dc65 : (((z5_9 >>> ((f1 0 (m63).toInt.toNat) &&& 31)) &&& (1 : Int32))).toInt = ((1 : Int32) : Int32).toInt := congrArg Int32.toInt c65
              refine hC.1 5 79 _ _ rfl _ _ _ _ _ ?_
              intro m69 em_79
              try have e69 : m69.toInt = (z6_9).toInt + (1) := by rw [em_79]; exact pm_addc _ _ (1) rfl (by omega) (by omega)
              exact hC.2 [false, false, false, false, false, false, false, true, false] _ _ _ _ _ _ (ih3 z4_9 z5_9 m69 v1 f1 hv1 hf1 hw1 hr1_0 hr1_1 hr1_2 (by omega) (by first | exact j1_9 | (rw [em_76]; exact cnt_st j1_9 (by omega) (by assumption))) (by omega) (by intro h9; rw [show m69.toInt.toNat = z6_9.toInt.toNat + 1 by omega]; first | (exact MO_y (j3_9 h9) (j4_9 h9) yo_9 (by rw [← yg_9]; exact b_y1 (by omega) (by assumption))) | (rw [show z4_9.toInt.toNat = z4_9.toInt.toNat + 1 by omega]; exact MO_n (j3_9 h9) (j4_9 h9) yo_9 (by rw [← yg_9]; exact b_n (by omega) (by assumption)) (by rw [pf_75, yg_9]))) (by intro h9; first | (exact j4_9 h9) | (rw [show z4_9.toInt.toNat = z4_9.toInt.toNat + 1 by omega]; exact MB_s (j4_9 h9) (by omega) (by rw [pf_75]))) (by omega) (by omega) (by omega) (by omega) (by omega) (by omega) (by omega))
          · skip
            have dc62 : (x3).toInt = (0 : Int32).toInt := congrArg Int32.toInt c62
            intro m70 em_33
            try have e70 : m70.toInt = (x1).toInt + (z6_9).toInt := by rw [em_33]; exact pm_add _ _ (by omega) (by omega)
            refine hC.1 3 41 _ _ rfl _ _ _ _ _ ?_
            refine Exists.intro _ (Exists.intro _ (And.intro (Or.inl (md_a_colours D)) (And.intro (by omega) ?_)))
            have w71 : (0 : Int) ≤ (f1 0 (m70).toInt.toNat).toInt ∧ (f1 0 (m70).toInt.toNat).toInt ≤ (23 : Int) := hf1 0 _
            have yg_9 : ((f1 0 (m70).toInt.toNat)) = (gW (f 0) x1.toInt x2.toInt x3.toInt) z6_9.toInt.toNat := (by unfold gW; rw [hr1_0]; first | (rw [if_pos (by omega)]; congr 1; omega) | (rw [if_neg (by omega)]; congr 1; omega))
            have yo_9 : (0 : Int) ≤ ((gW (f 0) x1.toInt x2.toInt x3.toInt) z6_9.toInt.toNat).toInt ∧ ((gW (f 0) x1.toInt x2.toInt x3.toInt) z6_9.toInt.toNat).toInt ≤ (23 : Int) := (by rw [← yg_9, hr1_0]; exact hf 0 _)
            have k1 : (1 : Int32).toInt = 1 := rfl
            refine And.intro (fun c72 => ?_) (fun c72 => ?_)
            · skip
              have dc72 := pm_neI c72
              refine hC.1 4 58 _ _ rfl _ _ _ _ _ ?_
              have hn9 := cnt_lt (c := (f1 0 (m70).toInt.toNat)) j1_9 (by omega) (by assumption)
              refine Exists.intro _ (And.intro md_o ?_)
              refine Exists.intro _ (Exists.intro _ (And.intro (md_a_row D) (And.intro (by omega) ?_)))
              rw [md_s_row D]
              obtain ⟨f73, ef73⟩ : ∃ z9, z9 = va_up f1 16 (upd (f1 16) (z4_9).toInt.toNat (f1 0 (m70).toInt.toNat)) := ⟨_, rfl⟩
              rw [← ef73]
              have pf_75 : f73 16 = upd (f1 16) (z4_9).toInt.toNat (f1 0 (m70).toInt.toNat) := by rw [ef73]; exact if_pos rfl
              have pg_75 : ∀ i9, i9 ≠ 16 → f73 i9 = f1 i9 := fun i9 h9 => by rw [ef73]; exact if_neg h9
              have hf73 : md_F f73 := by rw [ef73]; exact md_F_st hf1 16 _ _ (by show (0 : Int) ≤ _ ∧ _ ≤ (23 : Int); omega)
              have hw73 : f73 2 = f 2 := (show f73 2 = f1 2 by rw [ef73]; rfl).trans hw1
              have hr73_0 : f73 0 = f 0 := (show f73 0 = f1 0 by rw [ef73]; rfl).trans hr1_0
              have hr73_1 : f73 1 = f 1 := (show f73 1 = f1 1 by rw [ef73]; rfl).trans hr1_1
              have hr73_2 : f73 2 = f 2 := (show f73 2 = f1 2 by rw [ef73]; rfl).trans hr1_2
              intro m74 em_76
              try have e74 : m74.toInt = (z4_9).toInt + (1) := by rw [em_76]; exact pm_addc _ _ (1) rfl (by omega) (by omega)
              refine hC.1 5 79 _ _ rfl _ _ _ _ _ ?_
              intro m75 em_79
              try have e75 : m75.toInt = (z6_9).toInt + (1) := by rw [em_79]; exact pm_addc _ _ (1) rfl (by omega) (by omega)
              exact hC.2 [false, false, false, false, false, false, false, true, false] _ _ _ _ _ _ (ih3 m74 (z5_9 ||| ((1 : Int32) <<< ((f1 0 (m70).toInt.toNat) &&& 31))) m75 v1 f73 hv1 hf73 hw73 hr73_0 hr73_1 hr73_2 (by omega) (by first | exact j1_9 | (rw [em_76]; exact cnt_st j1_9 (by omega) (by assumption))) (by omega) (by intro h9; rw [show m75.toInt.toNat = z6_9.toInt.toNat + 1 by omega]; first | (exact MO_y (j3_9 h9) (j4_9 h9) yo_9 (by rw [← yg_9]; exact b_y1 (by omega) (by assumption))) | (rw [show m74.toInt.toNat = z4_9.toInt.toNat + 1 by omega]; exact MO_n (j3_9 h9) (j4_9 h9) yo_9 (by rw [← yg_9]; exact b_n (by omega) (by assumption)) (by rw [pf_75, yg_9]))) (by intro h9; first | (exact j4_9 h9) | (rw [show m74.toInt.toNat = z4_9.toInt.toNat + 1 by omega]; exact MB_s (j4_9 h9) (by omega) (by rw [pf_75]))) (by omega) (by omega) (by omega) (by omega) (by omega) (by omega) (by omega))
            · skip
              have dc72 : (((z5_9 >>> ((f1 0 (m70).toInt.toNat) &&& 31)) &&& (1 : Int32))).toInt = ((1 : Int32) : Int32).toInt := congrArg Int32.toInt c72
              refine hC.1 5 79 _ _ rfl _ _ _ _ _ ?_
              intro m76 em_79
              try have e76 : m76.toInt = (z6_9).toInt + (1) := by rw [em_79]; exact pm_addc _ _ (1) rfl (by omega) (by omega)
              exact hC.2 [false, false, false, false, false, false, false, true, false] _ _ _ _ _ _ (ih3 z4_9 z5_9 m76 v1 f1 hv1 hf1 hw1 hr1_0 hr1_1 hr1_2 (by omega) (by first | exact j1_9 | (rw [em_76]; exact cnt_st j1_9 (by omega) (by assumption))) (by omega) (by intro h9; rw [show m76.toInt.toNat = z6_9.toInt.toNat + 1 by omega]; first | (exact MO_y (j3_9 h9) (j4_9 h9) yo_9 (by rw [← yg_9]; exact b_y1 (by omega) (by assumption))) | (rw [show z4_9.toInt.toNat = z4_9.toInt.toNat + 1 by omega]; exact MO_n (j3_9 h9) (j4_9 h9) yo_9 (by rw [← yg_9]; exact b_n (by omega) (by assumption)) (by rw [pf_75, yg_9]))) (by intro h9; first | (exact j4_9 h9) | (rw [show z4_9.toInt.toNat = z4_9.toInt.toNat + 1 by omega]; exact MB_s (j4_9 h9) (by omega) (by rw [pf_75]))) (by omega) (by omega) (by omega) (by omega) (by omega) (by omega) (by omega))
  exact lp2 (200 - (0 : Int32).toInt).toNat.succ (0 : Int32) (0 : Int32) (0 : Int32) v f hv hf rfl rfl rfl rfl (by omega) (by exact cnt_0) (by omega) (by intro _; rw [k0]; exact rfl) (by intro _; rw [k0]; exact MB_0 _) (by omega) (by omega) (by omega) (by omega) (by omega) (by omega) (by omega)

end
end
section
/-! changed: how many names are otherwise now than behind an edit -/
noncomputable def qn (k : Nat → Int32) (n : Int) (x : Int32) : Int := nextEq k x 0 n.toNat
end
section
/-! least: what is left beside the m colours that come most -/
noncomputable def nt (s : Int32) : Int32 := s ^^^ (-1 : Int32)
theorem nt_b (s : Int32) {i : Nat} (hi : i < 32) : bt (nt s) i = !bt s i := by
  unfold nt
  rw [b_xor, b_m1 i hi]
  cases bt s i <;> rfl
theorem ins_sm (g : Int32 → Int) {a b : Nat → Int32} {x : Int32} {s : Nat} : ∀ n, s ≤ n → (∀ i, i < s → a i = b i) → a s = x → (∀ i, s < i → i ≤ n → a i = b (i - 1)) → sm (fun i => g (a i)) (n + 1) = sm (fun i => g (b i)) n + g x
  | 0, h, h1, h2, h3 => by
    have e : s = 0 := by omega
    subst e
    show sm (fun i => g (a i)) 0 + g (a 0) = sm (fun i => g (b i)) 0 + g x
    rw [h2]; rfl
  | n + 1, h, h1, h2, h3 => by
    by_cases e : s = n + 1
    · subst e
      show sm (fun i => g (a i)) (n + 1) + g (a (n + 1)) = _
      rw [h2, sm_eq (f := fun i => g (a i)) (g := fun i => g (b i)) (n + 1) (fun i hi => by rw [h1 i hi])]
    · have ih := ins_sm g n (by omega) h1 h2 (fun i p q => h3 i p (by omega))
      show sm (fun i => g (a i)) (n + 1) + g (a (n + 1)) = (sm (fun i => g (b i)) n + g (b n)) + g x
      rw [ih, h3 (n + 1) (by omega) (by omega), Nat.add_sub_cancel]
      omega
theorem OD_sm {K : Nat → Int} {S : Int32} (g : Int32 → Int) : ∀ (k : Nat) {n : Nat} {a : Nat → Int32}, OD K S k n a → sm (fun i => g (a i)) n = sm (fun y => if bt S y = true then g (nI y) else 0) k
  | 0, n, _, h => by
    have e : n = 0 := h
    subst e; rfl
  | k + 1, n, a, h => by
    rcases h with ⟨h1, h2⟩ | ⟨h1, n0, d, h2, h3, s, g1, g2, g3, g4, g5, g6⟩
    · rw [sm, OD_sm g k h2, if_neg (by rw [h1]; decide), Int.add_zero]
    · subst h2
      show sm (fun i => g (a i)) (n0 + 1) = sm (fun y => if bt S y = true then g (nI y) else 0) k + (if bt S k = true then g (nI k) else 0)
      rw [← OD_sm g k h3, if_pos h1]
      exact ins_sm g n0 g1 g4 g5 g6
theorem OD_so {K : Nat → Int} {S : Int32} : ∀ (k : Nat) {n : Nat} {a : Nat → Int32}, k ≤ 24 → OD K S k n a → ∀ i j, i < j → j < n → K (a j).toInt.toNat < K (a i).toInt.toNat ∨ (K (a j).toInt.toNat = K (a i).toInt.toNat ∧ (a i).toInt < (a j).toInt)
  | 0, n, _, _, h, i, j, _, hj => by
    have e : n = 0 := h
    omega
  | k + 1, n, a, hk, h, i, j, hij, hj => by
    rcases h with ⟨h1, h2⟩ | ⟨h1, n0, d, h2, h3, s, g1, g2, g3, g4, g5, g6⟩
    · exact OD_so k (by omega) h2 i j hij hj
    · have so := OD_so k (by omega) h3
      have r := OD_r k (by omega) h3
      have hn := nI_i k (by omega)
      by_cases c1 : j < s
      · rw [g4 j c1, g4 i (by omega)]; exact so i j hij (by omega)
      · by_cases c2 : j = s
        · rw [c2, g5, g4 i (by omega)]
          have ri := r.2 i (by omega)
          have u : ¬ K (d i).toInt.toNat < K (nI k).toInt.toNat := fun q => by
            rcases g2 with v | v
            · omega
            · by_cases e : i = s - 1
              · rw [e] at q; exact v q
              · have w := so i (s - 1) (by omega) (by omega)
                omega
          omega
        · rw [g6 j (by omega) (by omega)]
          have rj := r.2 (j - 1) (by omega)
          by_cases c3 : i < s
          · rw [g4 i c3]; exact so i (j - 1) (by omega) (by omega)
          · by_cases c4 : i = s
            · rw [c4, g5]; exact Or.inl (g3 (j - 1) (by omega) (by omega))
            · rw [g6 i (by omega) (by omega)]; exact so (i - 1) (j - 1) (by omega) (by omega)
theorem OD_me {K : Nat → Int} {S : Int32} : ∀ (k : Nat) {n : Nat} {a : Nat → Int32}, k ≤ 24 → OD K S k n a → (∀ y : Nat, y < k → bt S y = true → ∃ i, i < n ∧ (a i).toInt = (y : Int)) ∧ ∀ i, i < n → bt S (a i).toInt.toNat = true
  | 0, n, _, _, h => by
    have e : n = 0 := h
    exact ⟨fun y hy => by omega, fun i hi => by omega⟩
  | k + 1, n, a, hk, h => by
    rcases h with ⟨h1, h2⟩ | ⟨h1, n0, d, h2, h3, s, g1, g2, g3, g4, g5, g6⟩
    · have q := OD_me k (by omega) h2
      refine ⟨fun y hy hb => ?_, q.2⟩
      by_cases e : y = k
      · rw [e, h1] at hb; cases hb
      · exact q.1 y (by omega) hb
    · have q := OD_me k (by omega) h3
      have hn := nI_i k (by omega)
      refine ⟨fun y hy hb => ?_, fun i hi => ?_⟩
      · by_cases e : y = k
        · exact ⟨s, by omega, by rw [g5, e]; exact hn⟩
        · obtain ⟨i, i1, i2⟩ := q.1 y (by omega) hb
          by_cases c : i < s
          · exact ⟨i, by omega, by rw [g4 i c]; exact i2⟩
          · exact ⟨i + 1, by omega, by rw [g6 (i + 1) (by omega) (by omega), Nat.add_sub_cancel]; exact i2⟩
      · by_cases c : i < s
        · rw [g4 i c]; exact q.2 i (by omega)
        · by_cases c2 : i = s
          · rw [c2, g5, show (nI k).toInt.toNat = k by omega]; exact h1
          · rw [g6 i (by omega) (by omega)]; exact q.2 (i - 1) (by omega)
theorem ins_p (K : Nat → Int) (b : Nat → Int32) (x : Int32) : ∀ n : Nat, ∃ s, s ≤ n ∧ (s = 0 ∨ ¬ K (b (s - 1)).toInt.toNat < K x.toInt.toNat) ∧ ∀ j, s ≤ j → j < n → K (b j).toInt.toNat < K x.toInt.toNat
  | 0 => ⟨0, Nat.le_refl _, Or.inl rfl, fun j _ h => by omega⟩
  | n + 1 => by
    by_cases e : K (b n).toInt.toNat < K x.toInt.toNat
    · obtain ⟨s, h1, h2, h3⟩ := ins_p K b x n
      refine ⟨s, by omega, h2, fun j p q => ?_⟩
      by_cases c : j = n
      · rw [c]; exact e
      · exact h3 j p (by omega)
    · exact ⟨n + 1, Nat.le_refl _, Or.inr (by rw [Nat.add_sub_cancel]; exact e), fun j p q => by omega⟩
theorem OD_ex (K : Nat → Int) (S : Int32) : ∀ k : Nat, ∃ n a, OD K S k n a
  | 0 => ⟨0, fun _ => 0, rfl⟩
  | k + 1 => by
    obtain ⟨n, b, h⟩ := OD_ex K S k
    rcases Bool.eq_false_or_eq_true (bt S k) with q | q
    · obtain ⟨s, h1, h2, h3⟩ := ins_p K b (nI k) n
      refine ⟨n + 1, fun i => if i < s then b i else if i = s then nI k else b (i - 1), Or.inr ⟨q, n, b, rfl, h, s, h1, h2, h3, fun i hi => if_pos hi, ?_, fun i p r => ?_⟩⟩
      · show (if s < s then b s else if s = s then nI k else b (s - 1)) = nI k
        rw [if_neg (by omega), if_pos rfl]
      · show (if i < s then b i else if i = s then nI k else b (i - 1)) = b (i - 1)
        rw [if_neg (by omega), if_neg (by omega)]
    · exact ⟨n, b, Or.inl ⟨q, h⟩⟩
noncomputable def LGI (a : Nat → Int32) (n : Nat) (N : Nat → Int) (rd : Int) (s : Int32) (t : Int) : Prop := (∀ i : Nat, i < n → ((i : Int) < rd → bt s (a i).toInt.toNat = true) ∧ (rd ≤ (i : Int) → bt s (a i).toInt.toNat = false)) ∧ t = sm (fun i => N (a i).toInt.toNat) (min rd.toNat n)
theorem LG_0 (a : Nat → Int32) (n : Nat) (N : Nat → Int) : LGI a n N 0 0 0 := ⟨fun i _ => ⟨fun h => by omega, fun _ => b_0 _⟩, by
  show (0 : Int) = sm _ (min 0 n)
  rw [Nat.zero_min]; rfl⟩
theorem LG_s {a : Nat → Int32} {n : Nat} {N : Nat → Int} {S s s2 x : Int32} {rd t t2 : Int} (ho : OD N S 24 n a) (hN : ∀ y, y < 24 → (bt S y = true ↔ 0 < N y) ∧ 0 ≤ N y) (h : LGI a n N rd s t) (h0 : 0 ≤ rd) (hg : GC N (nt s) 24 x.toInt) (hx : 0 ≤ x.toInt) (hs : s2 = s ||| ((1 : Int32) <<< (x &&& 31))) (ht : t2 = t + N x.toInt.toNat) : LGI a n N (rd + 1) s2 t2 := by
  obtain ⟨h1, h2⟩ := h
  have me := OD_me 24 (Nat.le_refl _) ho
  have r24 := (OD_r 24 (Nat.le_refl _) ho).2
  have so := OD_so 24 (Nat.le_refl _) ho
  rcases hg with ⟨q, _⟩ | ⟨q1, q2, q3⟩
  · omega
  · rw [nt_b s (by omega)] at q2
    have q2' : bt s x.toInt.toNat = false := by cases hb : bt s x.toInt.toNat <;> rw [hb] at q2 <;> first | rfl | cases q2
    have bs : ∀ i, i < 32 → bt s2 i = (bt s i || decide (i = x.toInt.toNat)) := fun i hi => by rw [hs, b_or, b_one (by omega) hi]
    by_cases c : rd < (n : Int)
    · have hq := r24 rd.toNat (by omega)
      have fq := (h1 rd.toNat (by omega)).2 (by omega)
      have k1 := q3 (a rd.toNat).toInt.toNat (by omega) (by rw [nt_b s (by omega), fq]; rfl)
      have sq := me.2 rd.toNat (by omega)
      have nq := (hN (a rd.toNat).toInt.toNat (by omega)).1.mp sq
      have e : x.toInt.toNat = (a rd.toNat).toInt.toNat := by
        by_cases b : bt S x.toInt.toNat = true
        · obtain ⟨i, i1, i2⟩ := me.1 x.toInt.toNat (by omega) b
          have i3 : (a i).toInt.toNat = x.toInt.toNat := by omega
          have i4 : ¬ (i : Int) < rd := fun w => by
            have := (h1 i i1).1 w
            rw [i3, q2'] at this
            cases this
          by_cases i5 : i = rd.toNat
          · rw [← i5]; omega
          · have i6 := so rd.toNat i (by omega) i1
            rw [i3] at i6
            omega
        · have := hN x.toInt.toNat (by omega)
          have z : ¬ 0 < N x.toInt.toNat := fun w => b (this.1.mpr w)
          omega
      refine ⟨fun i hi => ⟨fun w => ?_, fun w => ?_⟩, ?_⟩
      · have ri := r24 i hi
        rw [bs _ (by omega), Bool.or_eq_true, decide_eq_true_eq]
        by_cases u : (i : Int) < rd
        · exact Or.inl ((h1 i hi).1 u)
        · right; rw [show i = rd.toNat by omega]; omega
      · have ri := r24 i hi
        rw [bs _ (by omega), (h1 i hi).2 (by omega), Bool.false_or, decide_eq_false_iff_not]
        have i6 := so rd.toNat i (by omega) hi
        intro v
        rw [e] at v
        have v2 : (a i).toInt = (a rd.toNat).toInt := by omega
        rw [v2] at i6
        omega
      · rw [ht, h2, e, show min (rd + 1).toNat n = min rd.toNat n + 1 by omega, sm, show min rd.toNat n = rd.toNat by omega]
    · have z : N x.toInt.toNat = 0 := by
        have u := hN x.toInt.toNat (by omega)
        by_cases b : bt S x.toInt.toNat = true
        · obtain ⟨i, i1, i2⟩ := me.1 x.toInt.toNat (by omega) b
          have := (h1 i i1).1 (by omega)
          rw [show (a i).toInt.toNat = x.toInt.toNat by omega, q2'] at this
          cases this
        · have z : ¬ 0 < N x.toInt.toNat := fun w => b (u.1.mpr w)
          omega
      refine ⟨fun i hi => ⟨fun w => ?_, fun w => by omega⟩, ?_⟩
      · have ri := r24 i hi
        rw [bs _ (by omega), Bool.or_eq_true]
        exact Or.inl ((h1 i hi).1 (by omega))
      · rw [ht, h2, z, show min (rd + 1).toNat n = min rd.toNat n by omega, Int.add_zero]
theorem LG_n {a : Nat → Int32} {n : Nat} {N : Nat → Int} {S s x : Int32} {rd t : Int} (ho : OD N S 24 n a) (h : LGI a n N rd s t) (h0 : 0 ≤ rd) (hg : GC N (nt s) 24 x.toInt) (hx : x.toInt = -1) : (n : Int) ≤ rd := by
  rcases hg with ⟨_, q⟩ | ⟨q, _⟩
  · refine Classical.byContradiction (fun c => ?_)
    have r24 := (OD_r 24 (Nat.le_refl _) ho).2 rd.toNat (by omega)
    have u := (h.1 rd.toNat (by omega)).2 (by omega)
    have v := q (a rd.toNat).toInt.toNat (by omega)
    rw [nt_b s (by omega), u] at v
    cases v
  · omega
noncomputable def LPO (K : Nat → Int) (S : Int32) (m : Nat) (t : Int) : Prop := ∃ n a, OD K S 24 n a ∧ t = sm (fun i => K (a i).toInt.toNat) (min m n)
theorem LPO_e {K : Nat → Int} {S s : Int32} {n m : Nat} {a : Nat → Int32} {rd t : Int} (ho : OD K S 24 n a) (h : LGI a n K rd s t) (hr : min rd.toNat n = min m n) : LPO K S m t := ⟨n, a, ho, by rw [h.2, hr]⟩
noncomputable def LST (c : Nat → Int32) (n l r m x : Int) : Prop := (¬ ((0 ≤ l ∧ l ≤ r ∧ r < n) ∧ 1 ≤ m) ∧ x = -1) ∨ (((0 ≤ l ∧ l ≤ r ∧ r < n) ∧ 1 ≤ m) ∧ ∃ k a, OD (fun y => (nc c l.toNat (r + 1 - l).toNat y : Int)) (sS c l r) 24 k a ∧ x = sm (fun i => (nc c l.toNat (r + 1 - l).toNat (a i).toInt.toNat : Int)) k - sm (fun i => (nc c l.toNat (r + 1 - l).toNat (a i).toInt.toNat : Int)) (min m.toNat k))
theorem LST_u {c d : Nat → Int32} {n l r m x y : Int} (hc : ∀ j : Nat, (j : Int) < n → c j = d j) (h1 : LST c n l r m x) (h2 : LST d n l r m y) : x = y := by
  rcases h1 with ⟨a, b⟩ | ⟨a, k, g, b, e⟩
  · rcases h2 with ⟨p, q⟩ | ⟨p, _⟩
    · rw [b, q]
    · exact absurd p a
  · rcases h2 with ⟨p, q⟩ | ⟨p, k2, g2, q, s⟩
    · exact absurd a p
    · rw [← sS_eq hc ⟨a.1.1, a.1.2.2⟩] at q
      rw [← nc_eq (c := c) (d := d) (l := l.toNat) (r + 1 - l).toNat (fun j i1 i2 => hc j (by omega))] at q s
      obtain ⟨u1, u2⟩ := OD_u (fun y _ => rfl) 24 (Nat.le_refl _) b q
      subst u1
      rw [e, s, sm_eq (f := fun i => (nc c l.toNat (r + 1 - l).toNat (g i).toInt.toNat : Int)) (g := fun i => (nc c l.toNat (r + 1 - l).toNat (g2 i).toInt.toNat : Int)) k (fun i hi => by rw [u2 i hi]), sm_eq (f := fun i => (nc c l.toNat (r + 1 - l).toNat (g i).toInt.toNat : Int)) (g := fun i => (nc c l.toNat (r + 1 - l).toNat (g2 i).toInt.toNat : Int)) (min m.toNat k) (fun i hi => by rw [u2 i (by omega)])]
theorem nc_sum {c : Nat → Int32} (hc : ok24 c) (l : Nat) : ∀ k, sm (fun y => (nc c l k y : Int)) 24 = (k : Int)
  | 0 => sm_z 24 (fun i _ => rfl)
  | k + 1 => by
    have ih := nc_sum hc l k
    have hx := hc (l + k)
    have e : sm (fun y => (nc c l (k + 1) y : Int)) 24 = sm (fun y => (nc c l k y : Int) + (if y = (c (l + k)).toInt.toNat then 1 else 0)) 24 := sm_eq 24 (fun y _ => by
      show ((upN (nc c l k) (c (l + k)).toInt.toNat y : Nat) : Int) = _
      by_cases q : y = (c (l + k)).toInt.toNat
      · rw [if_pos q, q, upN_s]; omega
      · rw [if_neg q, upN_n q]; omega)
    rw [e, sm_add, ih, sm_th (a := (c (l + k)).toInt.toNat) (b := (c (l + k)).toInt.toNat + 1) (B := 1) (by omega) 24 (by omega) (fun i hi => if_neg (by omega)) (fun i p q => if_pos (by omega)) (fun i p q => if_neg (by omega))]
    omega
theorem LST_c {c W v k : Nat → Int32} {n l r m x t : Int} (hc : ok24 c) (hs : 0 ≤ l ∧ l ≤ r ∧ r < n) (hm : 1 ≤ m) (h : PAL v k W (nc c l.toNat (r + 1 - l).toNat) (r + 1 - l)) (hp : LPO (fun y => (k y).toInt) (v 3) m.toNat t) (hx : x = r + 1 - l - t) : LST c n l r m x := by
  obtain ⟨j, a, ho, e⟩ := hp
  have hS : v 3 = sS c l r := PAL_set hc h
  rw [hS] at ho
  have ho2 := OD_k (L := fun y => (nc c l.toNat (r + 1 - l).toNat y : Int)) (fun y hy => h.1 y hy) 24 (Nat.le_refl _) ho
  have r24 := (OD_r 24 (Nat.le_refl _) ho).2
  refine Or.inr ⟨⟨hs, hm⟩, j, a, ho2, ?_⟩
  have s1 := OD_sm (fun z : Int32 => (nc c l.toNat (r + 1 - l).toNat z.toInt.toNat : Int)) 24 ho2
  have s2 : sm (fun y => if bt (sS c l r) y = true then (nc c l.toNat (r + 1 - l).toNat (nI y).toInt.toNat : Int) else 0) 24 = sm (fun y => (nc c l.toNat (r + 1 - l).toNat y : Int)) 24 := sm_eq 24 (fun y hy => by
    have hn := nI_i y hy
    rw [show (nI y).toInt.toNat = y by omega]
    have q := bt_set (c := c) (l := l.toNat) hc (show y < 32 by omega) (r + 1 - l).toNat
    by_cases b : bt (sS c l r) y = true
    · rw [if_pos b]
    · rw [if_neg b]
      have b2 : ¬ 0 < nc c l.toNat (r + 1 - l).toNat y := fun w => b (by unfold sS; rw [q, decide_eq_true w])
      omega)
  rw [s1, s2, nc_sum hc, hx, e, sm_eq (f := fun i => (k (a i).toInt.toNat).toInt) (g := fun i => (nc c l.toNat (r + 1 - l).toNat (a i).toInt.toNat : Int)) (min m.toNat j) (fun i hi => by
    have u := r24 i (by omega)
    exact h.1 _ (by omega))]
  omega
end
section
section
variable {l : Launch} {g : pm_G} {A0 : pm_H} {K nn dn : Nat} {q : Nat → Nat} {w : Nat → Int32} {e : Nat → Nat → Int32} {v : Nat → Int32} {f : Nat → Nat → Int32}
set_option maxRecDepth 100000 in
set_option maxHeartbeats 2000000 in
theorem F_X2_largestBeside (hI : cw_I K nn dn q w e) (hs : cw_S v f) (x1 : Int32)  : pm_Mt l g 92 0 0 0 [.ref (q 2), .int x1] (cw A0 g K nn dn q w e v f) (md_Qp (cw A0 g K nn dn q w e v f) (fun r => (-1 ≤ r.toInt ∧ r.toInt ≤ 23) ∧ GC (kF (f 14)) (nt x1) 24 r.toInt)) := by
  refine mt_X2_largestBeside rfl (fun J hC => ?_)
  have ro_nn : cw_ro K nn := hI.2.1.2.1
  have ro_dn : cw_ro K dn := hI.2.1.2.2.1
  have hu1 := hI.2.1
  unfold cw_W at hu1
  have rg_x1 := pm_rng x1
  refine hC.1 0 0 _ _ rfl _ _ _ _ _ ?_
  have km1 : (-1 : Int32).toInt = -1 := rfl
  have k0 : (0 : Int32).toInt = 0 := rfl
  have lp3 : ∀ (n : Nat) (z2_4 : Int32) (z3_4 : Int32), (0 ≤ z3_4.toInt ∧ z3_4.toInt ≤ 24) → (-1 ≤ z2_4.toInt ∧ z2_4.toInt ≤ 23) → (GC (kF (f 14)) (nt x1) z3_4.toInt z2_4.toInt) → 200 - z3_4.toInt < (n : Int) → J 4 [some (.ref (q 2)), some (.int x1), some (.int z2_4), some (.int z3_4), none] [] (cw A0 g K nn dn q w e v f) 0 0 := by
    intro n
    induction n with
    | zero =>
      intro z2_4 z3_4 j0_4 j1_4 j2_4 j3_4
      omega
    | succ n ih4 =>
      intro z2_4 z3_4 j0_4 j1_4 j2_4 j3_4
      have yk_1 : kF (f 14) z3_4.toInt.toNat = (f 14 z3_4.toInt.toNat).toInt := rfl
      have yk_2 : kF (f 14) z2_4.toInt.toNat = (f 14 z2_4.toInt.toNat).toInt := rfl
      refine hC.1 1 4 _ _ rfl _ _ _ _ _ ?_
      have k24 : (24 : Int32).toInt = 24 := rfl
      refine And.intro (fun c5 => ?_) (fun c5 => ?_)
      · skip
        refine hC.1 6 58 _ _ rfl _ _ _ _ _ ?_
        exact ⟨rfl, fun e9 => absurd e9 (by decide), rfl, z2_4, rfl, rfl, by refine ⟨by omega, ?_⟩; have h9 := j2_4; rw [show z3_4.toInt = 24 by omega] at h9; exact h9⟩
      · skip
        have k1 : (1 : Int32).toInt = 1 := rfl
        refine And.intro (fun c6 => ?_) (fun c6 => ?_)
        · skip
          have dc6 := pm_neI c6
          refine hC.1 2 22 _ _ rfl _ _ _ _ _ ?_
          refine hC.1 3 23 _ _ rfl _ _ _ _ _ ?_
          have yb_9 : (((0 : Int32)).toInt = 1 ∧ bt (nt x1) z3_4.toInt.toNat = true) ∨ (((0 : Int32)).toInt = 0 ∧ bt (nt x1) z3_4.toInt.toNat = false) := (by rw [nt_b x1 (by omega)]; first | (exact Or.inl ⟨rfl, by rw [(an_1 (by omega)).mp (by assumption)]; rfl⟩) | (exact Or.inr ⟨rfl, by rw [an_t (by omega) (by assumption)]; rfl⟩))
          refine And.intro (fun _ => ?_) (fun c9 => absurd c9 (by decide))
          refine hC.1 5 52 _ _ rfl _ _ _ _ _ ?_
          intro m7 em_52
          try have e7 : m7.toInt = (z3_4).toInt + (1) := by rw [em_52]; exact pm_addc _ _ (1) rfl (by omega) (by omega)
          exact hC.2 [false, false, false, false, true] _ _ _ _ _ _ (ih4 z2_4 m7 (by omega) (by omega) (by rw [show m7.toInt = z3_4.toInt + 1 by omega]; rcases yb_9 with ⟨h9, h8⟩ | ⟨h9, h8⟩; (first | (exfalso; omega) | (exact GC_y (by omega) j2_4 h8 (Or.inl (by omega))) | (exact GC_y (by omega) j2_4 h8 (Or.inr (by omega))) | (exact GC_o (by omega) j2_4 ⟨by omega, by omega⟩)); (first | (exfalso; omega) | (exact GC_n (by omega) j2_4 h8))) (by omega))
        · skip
          have dc6 : ((x1 &&& ((1 : Int32) <<< (z3_4 &&& 31)))).toInt = (0 : Int32).toInt := congrArg Int32.toInt c6
          refine hC.1 3 23 _ _ rfl _ _ _ _ _ ?_
          have yb_9 : (((1 : Int32)).toInt = 1 ∧ bt (nt x1) z3_4.toInt.toNat = true) ∨ (((1 : Int32)).toInt = 0 ∧ bt (nt x1) z3_4.toInt.toNat = false) := (by rw [nt_b x1 (by omega)]; first | (exact Or.inl ⟨rfl, by rw [(an_1 (by omega)).mp (by assumption)]; rfl⟩) | (exact Or.inr ⟨rfl, by rw [an_t (by omega) (by assumption)]; rfl⟩))
          refine And.intro (fun c9 => absurd c9 (by decide)) (fun _ => ?_)
          refine And.intro (fun c8 => ?_) (fun c8 => ?_)
          · skip
            have dc8 : (z2_4).toInt = ((-1 : Int32) : Int32).toInt := congrArg Int32.toInt c8
            refine hC.1 4 50 _ _ rfl _ _ _ _ _ ?_
            refine hC.1 5 52 _ _ rfl _ _ _ _ _ ?_
            intro m9 em_52
            try have e9 : m9.toInt = (z3_4).toInt + (1) := by rw [em_52]; exact pm_addc _ _ (1) rfl (by omega) (by omega)
            exact hC.2 [false, false, false, false, true] _ _ _ _ _ _ (ih4 z3_4 m9 (by omega) (by omega) (by rw [show m9.toInt = z3_4.toInt + 1 by omega]; rcases yb_9 with ⟨h9, h8⟩ | ⟨h9, h8⟩; (first | (exfalso; omega) | (exact GC_y (by omega) j2_4 h8 (Or.inl (by omega))) | (exact GC_y (by omega) j2_4 h8 (Or.inr (by omega))) | (exact GC_o (by omega) j2_4 ⟨by omega, by omega⟩)); (first | (exfalso; omega) | (exact GC_n (by omega) j2_4 h8))) (by omega))
          · skip
            have dc8 := pm_neI c8
            refine Exists.intro _ (And.intro (cw_o2 hI.1) ?_)
            refine Exists.intro _ (Exists.intro _ (And.intro (Or.inl (cw_a14 hI.1)) (And.intro (by omega) ?_)))
            refine Exists.intro _ (And.intro (cw_o2 hI.1) ?_)
            refine Exists.intro _ (Exists.intro _ (And.intro (Or.inl (cw_a14 hI.1)) (And.intro (by omega) ?_)))
            refine And.intro (fun c10 => ?_) (fun c10 => ?_)
            · skip
              refine hC.1 5 52 _ _ rfl _ _ _ _ _ ?_
              intro m11 em_52
              try have e11 : m11.toInt = (z3_4).toInt + (1) := by rw [em_52]; exact pm_addc _ _ (1) rfl (by omega) (by omega)
              exact hC.2 [false, false, false, false, true] _ _ _ _ _ _ (ih4 z2_4 m11 (by omega) (by omega) (by rw [show m11.toInt = z3_4.toInt + 1 by omega]; rcases yb_9 with ⟨h9, h8⟩ | ⟨h9, h8⟩; (first | (exfalso; omega) | (exact GC_y (by omega) j2_4 h8 (Or.inl (by omega))) | (exact GC_y (by omega) j2_4 h8 (Or.inr (by omega))) | (exact GC_o (by omega) j2_4 ⟨by omega, by omega⟩)); (first | (exfalso; omega) | (exact GC_n (by omega) j2_4 h8))) (by omega))
            · skip
              refine hC.1 4 50 _ _ rfl _ _ _ _ _ ?_
              refine hC.1 5 52 _ _ rfl _ _ _ _ _ ?_
              intro m12 em_52
              try have e12 : m12.toInt = (z3_4).toInt + (1) := by rw [em_52]; exact pm_addc _ _ (1) rfl (by omega) (by omega)
              exact hC.2 [false, false, false, false, true] _ _ _ _ _ _ (ih4 z3_4 m12 (by omega) (by omega) (by rw [show m12.toInt = z3_4.toInt + 1 by omega]; rcases yb_9 with ⟨h9, h8⟩ | ⟨h9, h8⟩; (first | (exfalso; omega) | (exact GC_y (by omega) j2_4 h8 (Or.inl (by omega))) | (exact GC_y (by omega) j2_4 h8 (Or.inr (by omega))) | (exact GC_o (by omega) j2_4 ⟨by omega, by omega⟩)); (first | (exfalso; omega) | (exact GC_n (by omega) j2_4 h8))) (by omega))
  exact lp3 (200 - (0 : Int32).toInt).toNat.succ (-1 : Int32) (0 : Int32) (by omega) (by omega) (by rw [k0, km1]; exact GC_0 _ _) (by omega)

set_option maxRecDepth 100000 in
set_option maxHeartbeats 2000000 in
theorem F_X2_placesOfLargest (hI : cw_I K nn dn q w e) (hs : cw_S v f) (x1 : Int32) (p0 : CB (v 3) (f 14)) (p1 : ∀ y9 : Nat, y9 < 24 → 0 ≤ (f 14 y9).toInt ∧ (f 14 y9).toInt ≤ 1000) (p2 : 1 ≤ x1.toInt) : pm_Mt l g 91 1 0 0 [.ref (q 2), .int x1] (cw A0 g K nn dn q w e v f) (md_Qp (cw A0 g K nn dn q w e v f) (fun r => (0 ≤ r.toInt ∧ r.toInt ≤ 24000) ∧ LPO (kF (f 14)) (v 3) x1.toInt.toNat r.toInt)) := by
  refine mt_X2_placesOfLargest rfl (fun J hC => ?_)
  have ro_nn : cw_ro K nn := hI.2.1.2.1
  have ro_dn : cw_ro K dn := hI.2.1.2.2.1
  have hu1 := hI.2.1
  unfold cw_W at hu1
  have rg_x1 := pm_rng x1
  obtain ⟨yn_8, ya_8, yo_8⟩ := OD_ex (kF (f 14)) (v 3) 24
  have yr_8 := (OD_r 24 (Nat.le_refl _) yo_8).1
  refine hC.1 0 0 _ _ rfl _ _ _ _ _ ?_
  have k0 : (0 : Int32).toInt = 0 := rfl
  have lp3 : ∀ (n : Nat) (z2_7 : Int32) (z3_7 : Int32) (z4_7 : Int32), (0 ≤ z4_7.toInt ∧ z4_7.toInt ≤ 24) → (z4_7.toInt ≤ x1.toInt) → (0 ≤ z3_7.toInt ∧ z3_7.toInt ≤ 1000 * z4_7.toInt) → (LGI ya_8 yn_8 (kF (f 14)) z4_7.toInt z2_7 z3_7.toInt) → 200 - z4_7.toInt < (n : Int) → J 7 [some (.ref (q 2)), some (.int x1), some (.int z2_7), some (.int z3_7), some (.int z4_7), none] [] (cw A0 g K nn dn q w e v f) 0 0 := by
    intro n
    induction n with
    | zero =>
      intro z2_7 z3_7 z4_7 j0_7 j1_7 j2_7 j3_7 j4_7
      omega
    | succ n ih4 =>
      intro z2_7 z3_7 z4_7 j0_7 j1_7 j2_7 j3_7 j4_7
      refine hC.1 1 7 _ _ rfl _ _ _ _ _ ?_
      refine And.intro (fun c5 => ?_) (fun c5 => ?_)
      · skip
        refine hC.1 3 58 _ _ rfl _ _ _ _ _ ?_
        exact ⟨rfl, fun e9 => absurd e9 (by decide), rfl, z3_7, rfl, rfl, by refine ⟨by omega, LPO_e yo_8 j3_7 ?_⟩; omega⟩
      · skip
        have k24 : (24 : Int32).toInt = 24 := rfl
        refine And.intro (fun c6 => ?_) (fun c6 => ?_)
        · skip
          refine hC.1 3 58 _ _ rfl _ _ _ _ _ ?_
          exact ⟨rfl, fun e9 => absurd e9 (by decide), rfl, z3_7, rfl, rfl, by refine ⟨by omega, LPO_e yo_8 j3_7 ?_⟩; omega⟩
        · skip
          refine And.intro (Exists.intro _ (cw_o2 hI.1)) (Exists.intro _ (Exists.intro _ (Exists.intro _ (Exists.intro _ (And.intro (F_X2_largestBeside hI hs z2_7 ) (And.intro rfl (fun r9 A9 h9 => ?_)))))))
          obtain ⟨y7, rfl, rfl, by7⟩ := h9
          have yg_9 := by7.2
          have yg_8 := by7.1
          have km1 : (-1 : Int32).toInt = -1 := rfl
          refine And.intro (fun c9 => ?_) (fun c9 => ?_)
          · skip
            have dc9 := pm_neI c9
            refine hC.1 2 35 _ _ rfl _ _ _ _ _ ?_
            have k1 : (1 : Int32).toInt = 1 := rfl
            refine Exists.intro _ (And.intro (cw_o2 hI.1) ?_)
            refine Exists.intro _ (Exists.intro _ (And.intro (Or.inl (cw_a14 hI.1)) (And.intro (by omega) ?_)))
            have yk_9 := p1 (y7).toInt.toNat (by omega)
            have yk_8 : kF (f 14) (y7).toInt.toNat = (f 14 (y7).toInt.toNat).toInt := rfl
            intro m10 em_50
            try have e10 : m10.toInt = (z3_7).toInt + ((f 14 (y7).toInt.toNat)).toInt := by rw [em_50]; exact pm_add _ _ (by omega) (by omega)
            intro m11 em_52
            try have e11 : m11.toInt = (z4_7).toInt + (1) := by rw [em_52]; exact pm_addc _ _ (1) rfl (by omega) (by omega)
            exact hC.2 [false, false, false, false, false, true] _ _ _ _ _ _ (ih4 (z2_7 ||| ((1 : Int32) <<< (y7 &&& 31))) m10 m11 (by omega) (by omega) (by omega) (by rw [show m11.toInt = z4_7.toInt + 1 by omega]; exact LG_s yo_8 (fun y9 h9 => ⟨p0 y9 h9, (p1 y9 h9).1⟩) j3_7 (by omega) yg_9 (by omega) rfl (by omega)) (by omega))
          · skip
            have dc9 : (y7).toInt = ((-1 : Int32) : Int32).toInt := congrArg Int32.toInt c9
            exact ⟨rfl, fun e9 => absurd e9 (by decide), rfl, z3_7, rfl, rfl, by refine ⟨by omega, LPO_e yo_8 j3_7 ?_⟩; have h9 := LG_n yo_8 j3_7 (by omega) yg_9 (by omega); omega⟩
  exact lp3 (200 - (0 : Int32).toInt).toNat.succ (0 : Int32) (0 : Int32) (0 : Int32) (by omega) (by omega) (by omega) (by rw [k0]; exact LG_0 _ _ _) (by omega)

set_option maxRecDepth 100000 in
set_option maxHeartbeats 2000000 in
theorem F_X10_least (hI : cw_I K nn dn q w e) (hs : cw_S v f) (x1 : Int32) (x2 : Int32) (x3 : Int32)  : pm_Mt l g 90 4 0 0 [.ref (q 0), .int x1, .int x2, .int x3] (cw A0 g K nn dn q w e v f) (cw_Qs A0 g K nn dn q w e (fun r v2 f2 => ∃ x : Int32, r = some (.int x) ∧ ((True) ∧ (LST (e (nn + 1)) (w nn).toInt x1.toInt x2.toInt x3.toInt x.toInt)))) := by
  refine mt_X10_least rfl (fun J hC => ?_)
  have ro_nn : cw_ro K nn := hI.2.1.2.1
  have ro_dn : cw_ro K dn := hI.2.1.2.2.1
  have hu1 := hI.2.1
  unfold cw_W at hu1
  have rg_x1 := pm_rng x1
  have rg_x2 := pm_rng x2
  have rg_x3 := pm_rng x3
  refine hC.1 0 0 _ _ rfl _ _ _ _ _ ?_
  have k1 : (1 : Int32).toInt = 1 := rfl
  refine And.intro (fun c2 => ?_) (fun c2 => ?_)
  · skip
    refine hC.1 1 33 _ _ rfl _ _ _ _ _ ?_
    have km1 : (-1 : Int32).toInt = -1 := rfl
    refine hC.1 2 34 _ _ rfl _ _ _ _ _ ?_
    exact ⟨rfl, fun e9 => absurd e9 (by decide), rfl, v, f, rfl, hs, (-1 : Int32), rfl, by exact True.intro, by first | (exact LST_c (fun j9 => cw_col hI ro_nn j9) hs9 (by omega) hr9 yf_9 (by omega)) | (exact Or.inl ⟨fun h9 => hs9 h9.1, rfl⟩) | (exact Or.inl ⟨fun h9 => (by omega), rfl⟩)⟩
  · skip
    refine And.intro (Exists.intro _ (cw_o0 hI.1)) (Exists.intro _ (Exists.intro _ (Exists.intro _ (Exists.intro _ (And.intro (F_X10_readSpan hI hs x1 x2 ) (And.intro rfl (fun r9 A9 h9 => ?_)))))))
    rcases h9 with ⟨v4, f4, rfl, hs4, hzy3⟩
    rcases hzy3 with ⟨rfl, by3⟩ | ⟨rfl, by3⟩
    · skip
      have hs9 := by3.1
      have hr9 := by3.2
      refine And.intro (fun c9 => absurd c9 (by decide)) (fun _ => ?_)
      refine Exists.intro _ (And.intro (cw_o0 hI.1) ?_)
      refine Exists.intro _ (And.intro (cw_o2 hI.1) ?_)
      refine Exists.intro _ (And.intro (cw_o0 hI.1) ?_)
      refine And.intro (Exists.intro _ (cw_o2 hI.1)) (Exists.intro _ (Exists.intro _ (Exists.intro _ (Exists.intro _ (And.intro (F_X2_placesOfLargest hI hs4 x3 (by exact PAL_cb hr9) (by intro y9 h9; have h8 := hr9.1 y9 h9; have h7 := hr9.2.2.2.2.2.1 y9; have h6 := hr9.2.2.2.2.2.2.1; omega) (by omega)) (And.intro rfl (fun r9 A9 h9 => ?_)))))))
      obtain ⟨y5, rfl, rfl, by5⟩ := h9
      have yf_9 := by5.2
      have yf_8 := by5.1
      have yl_9 := hr9.2.1
      have yl_8 := hr9.2.2.2.2.2.2.1
      intro m7 em_29
      try have e7 : m7.toInt = ((v4 1)).toInt - (y5).toInt := by rw [em_29]; exact pm_sub _ _ (by omega) (by omega)
      refine hC.1 2 34 _ _ rfl _ _ _ _ _ ?_
      exact ⟨rfl, fun e9 => absurd e9 (by decide), rfl, v4, f4, rfl, hs4, m7, rfl, by exact True.intro, by first | (exact LST_c (fun j9 => cw_col hI ro_nn j9) hs9 (by omega) hr9 yf_9 (by omega)) | (exact Or.inl ⟨fun h9 => hs9 h9.1, rfl⟩) | (exact Or.inl ⟨fun h9 => (by omega), rfl⟩)⟩
    · skip
      have k0 : (0 : Int32).toInt = 0 := rfl
      have hs9 := by3
      refine And.intro (fun _ => ?_) (fun c9 => absurd c9 (by decide))
      refine hC.1 1 33 _ _ rfl _ _ _ _ _ ?_
      have km1 : (-1 : Int32).toInt = -1 := rfl
      refine hC.1 2 34 _ _ rfl _ _ _ _ _ ?_
      exact ⟨rfl, fun e9 => absurd e9 (by decide), rfl, v4, f4, rfl, hs4, (-1 : Int32), rfl, by exact True.intro, by first | (exact LST_c (fun j9 => cw_col hI ro_nn j9) hs9 (by omega) hr9 yf_9 (by omega)) | (exact Or.inl ⟨fun h9 => hs9 h9.1, rfl⟩) | (exact Or.inl ⟨fun h9 => (by omega), rfl⟩)⟩

end
end
section
section
variable {l : Launch} {g : pm_G} {A0 : pm_H} {h : Nat} {q : Nat → Nat}
set_option maxRecDepth 100000 in
set_option maxHeartbeats 2000000 in
theorem G_X11_least (D : md_D h q) (v : Nat → Int32) (f : Nat → Nat → Int32) (hv : md_V v) (hf : md_F f) (x1 : Int32) (x2 : Int32) (x3 : Int32)  : pm_Mt l g 242 3 0 0 [.ref h, .int x1, .int x2, .int x3] (md A0 g h q v f) (md_Qw A0 g h q f (fun r v2 f2 => f2 0 = f 0 ∧ f2 1 = f 1 ∧ ((v2 0).toInt = (v 0).toInt ∧ (v2 1).toInt = (v 1).toInt ∧ (v2 2).toInt = (v 2).toInt ∧ (v2 3).toInt = (v 3).toInt ∧ (v2 4).toInt = (v 4).toInt ∧ (v2 6).toInt = (v 6).toInt) ∧ (LST (f 0) (v 0).toInt x1.toInt x2.toInt x3.toInt r.toInt))) := by
  refine mt_X11_least rfl (fun J hC => ?_)
  have hv9 := hv
  unfold md_V at hv9
  have rg_x1 := pm_rng x1
  have rg_x2 := pm_rng x2
  have rg_x3 := pm_rng x3
  refine hC.1 0 0 _ _ rfl _ _ _ _ _ ?_
  refine And.intro (Exists.intro _ md_o) (Exists.intro _ (Exists.intro _ (Exists.intro _ (Exists.intro _ (And.intro (c_X11_isSpan D v f hv hf x1 x2 ) (And.intro rfl (fun r9 A9 h9 => ?_)))))))
  rcases h9 with ⟨y1, rfl, rfl, ⟨rfl, by1⟩ | ⟨rfl, by1⟩⟩
  · skip
    have k1 : (1 : Int32).toInt = 1 := rfl
    refine And.intro (fun c9 => absurd c9 (by decide)) (fun _ => ?_)
    refine And.intro (fun c2 => ?_) (fun c2 => ?_)
    · skip
      refine hC.1 2 16 _ _ rfl _ _ _ _ _ ?_
      have k4 : (4 : Int32).toInt = 4 := rfl
      refine And.intro (Exists.intro _ md_o) (Exists.intro _ (Exists.intro _ (Exists.intro _ (Exists.intro _ (And.intro (G_X11_laysOrder D v f hv hf x1 x2 (4 : Int32) (by omega) (by omega)) (And.intro rfl (fun r9 A9 h9 => ?_)))))))
      obtain ⟨y3, v4, f4, rfl, rfl, hv4, hf4, hx4, hg4_0, hg4_1, by3⟩ := h9
      have hw4 : f4 2 = f 2 := hx4.trans rfl
      have hr4_0 : f4 0 = f 0 := hg4_0.trans rfl
      have hr4_1 : f4 1 = f 1 := hg4_1.trans rfl
      have yf_9 := by3.2
      have yf_8 := by3.1
      have yo_9 : OD (fun y => (nc (f 0) x1.toInt.toNat (x2.toInt + 1 - x1.toInt).toNat y : Int)) (sS (f 0) x1.toInt x2.toInt) 24 y3.toInt.toNat (f4 16) := (by rcases yf_9 with h9 | h9; (exfalso; have h8 := h9.1; omega); (exact OD_k (fun y9 _ => (by unfold kW; rw [if_neg (by omega), if_pos (by omega)])) 24 (Nat.le_refl _) h9.2))
      have k0 : (0 : Int32).toInt = 0 := rfl
      have lp6 : ∀ (n : Nat) (z5_31 : Int32) (z6_31 : Int32), (x3.toInt ≤ z6_31.toInt ∧ (z6_31.toInt ≤ y3.toInt ∨ z6_31.toInt = x3.toInt)) → (z5_31.toInt = sm (fun i => (nc (f 0) x1.toInt.toNat (x2.toInt + 1 - x1.toInt).toNat (f4 16 i).toInt.toNat : Int)) z6_31.toInt.toNat - sm (fun i => (nc (f 0) x1.toInt.toNat (x2.toInt + 1 - x1.toInt).toNat (f4 16 i).toInt.toNat : Int)) x3.toInt.toNat) → (0 ≤ z5_31.toInt ∧ z5_31.toInt ≤ 1000 * (z6_31.toInt - x3.toInt)) → ((30 - z6_31.toInt).toNat : Int) < (n : Int) → J 31 [some (.ref h), some (.int x1), some (.int x2), some (.int x3), some (.int y3), some (.int z5_31), some (.int z6_31)] [] (md A0 g h q v4 f4) 0 0 := by
        intro n
        induction n with
        | zero =>
          intro z5_31 z6_31 j0_31 j1_31 j2_31 j3_31
          omega
        | succ n ih7 =>
          intro z5_31 z6_31 j0_31 j1_31 j2_31 j3_31
          refine hC.1 3 31 _ _ rfl _ _ _ _ _ ?_
          refine And.intro (fun c8 => ?_) (fun c8 => ?_)
          · skip
            refine hC.1 4 62 _ _ rfl _ _ _ _ _ ?_
            exact ⟨rfl, fun e9 => absurd e9 (by decide), rfl, z5_31, v4, f4, rfl, rfl, hv4, hf4, hw4, hr4_0, hr4_1, by first | omega | (dsimp only; omega) | trivial, by refine Or.inr ⟨by omega, _, _, yo_9, ?_⟩; by_cases h9 : x3.toInt ≤ y3.toInt; (rw [show min x3.toInt.toNat y3.toInt.toNat = x3.toInt.toNat by omega, show y3.toInt.toNat = z6_31.toInt.toNat by omega]; exact j1_31); (rw [show min x3.toInt.toNat y3.toInt.toNat = y3.toInt.toNat by omega, Int.sub_self]; rw [show z6_31.toInt.toNat = x3.toInt.toNat by omega, Int.sub_self] at j1_31; exact j1_31)⟩
          · skip
            refine Exists.intro _ (And.intro md_o ?_)
            refine Exists.intro _ (Exists.intro _ (And.intro (Or.inl (md_a_row D)) (And.intro (by omega) ?_)))
            have w9 : (0 : Int) ≤ (f4 16 (z6_31).toInt.toNat).toInt ∧ (f4 16 (z6_31).toInt.toNat).toInt ≤ (23 : Int) := hf4 16 _
            refine And.intro (Exists.intro _ md_o) (Exists.intro _ (Exists.intro _ (Exists.intro _ (Exists.intro _ (And.intro (F_X11_timesIn D v4 f4 hv4 hf4 x1 x2 (f4 16 (z6_31).toInt.toNat) (by omega) (by omega)) (And.intro rfl (fun r9 A9 h9 => ?_)))))))
            obtain ⟨y10, rfl, rfl, by10⟩ := h9
            have yt_9 : y10.toInt = (nc (f 0) x1.toInt.toNat (x2.toInt + 1 - x1.toInt).toNat (f4 16 z6_31.toInt.toNat).toInt.toNat : Int) := (by rw [by10, hr4_0, nc_ct (fun j9 => hf 0 j9) (by omega)])
            have yl_9 := nc_le (f 0) x1.toInt.toNat (f4 16 z6_31.toInt.toNat).toInt.toNat (x2.toInt + 1 - x1.toInt).toNat
            intro m11 em_53
            try have e11 : m11.toInt = (z5_31).toInt + (y10).toInt := by rw [em_53]; exact pm_add _ _ (by omega) (by omega)
            intro m12 em_56
            try have e12 : m12.toInt = (z6_31).toInt + (1) := by rw [em_56]; exact pm_addc _ _ (1) rfl (by omega) (by omega)
            exact ih7 m11 m12 (by omega) (by rw [show m12.toInt.toNat = z6_31.toInt.toNat + 1 by omega, sm]; omega) (by omega) (by omega)
      exact lp6 (((30 - x3.toInt).toNat : Int)).toNat.succ (0 : Int32) x3 (by omega) (by rw [Int.sub_self]; rfl) (by omega) (by omega)
    · skip
      refine hC.1 1 14 _ _ rfl _ _ _ _ _ ?_
      have km1 : (-1 : Int32).toInt = -1 := rfl
      exact ⟨rfl, fun e9 => absurd e9 (by decide), rfl, (-1 : Int32), v, f, rfl, rfl, hv, hf, rfl, rfl, rfl, by first | omega | (dsimp only; omega) | trivial, by exact Or.inl ⟨by omega, rfl⟩⟩
  · skip
    have k0 : (0 : Int32).toInt = 0 := rfl
    refine And.intro (fun _ => ?_) (fun c9 => absurd c9 (by decide))
    refine hC.1 1 14 _ _ rfl _ _ _ _ _ ?_
    have km1 : (-1 : Int32).toInt = -1 := rfl
    exact ⟨rfl, fun e9 => absurd e9 (by decide), rfl, (-1 : Int32), v, f, rfl, rfl, hv, hf, rfl, rfl, rfl, by first | omega | (dsimp only; omega) | trivial, by exact Or.inl ⟨by omega, rfl⟩⟩

end
end
section
/-! report: the k-th by its bond, those without ahead of all -/
noncomputable def la (c : Nat → Int32) (i : Nat) : Int := lastEq c (c i) i
noncomputable def kR (c : Nat → Int32) (i : Nat) : Int := if la c i < 0 then (i : Int) - 160 else la c i
end
section
/-! the questions: an answer by its row, all of them, one more -/
noncomputable def cro (i : Int) : Nat := (40 + 4 * (i % 41)).toNat
noncomputable def cC (e : Nat → Nat → Int32) (i : Int) : Nat → Int32 := e (cro i + 1)
noncomputable def cM (e : Nat → Nat → Int32) (i : Int) : Nat → Int32 := e (cro i + 2)
end
section
/-! the law's world with the two rows held together -/
noncomputable def LX (g : pm_G) (xo h E : Nat) (A : pm_H) : Prop := ∃ (A00 : pm_H) (K nn dn : Nat) (q : Nat → Nat) (w : Nat → Int32) (e : Nat → Nat → Int32) (v : Nat → Int32) (f : Nat → Nat → Int32) (mq : Nat → Nat) (mv : Nat → Int32) (mf : Nat → Nat → Int32) (M : List pl_P), A = cw (md A00 g h mq mv mf) g K nn dn q w e v f ∧ q 0 = xo ∧ cw_I K nn dn q w e ∧ cw_S v f ∧ md_D h mq ∧ md_V mv ∧ md_F mf ∧ (∀ i, i < 40 + 4 * K → q i ≠ h ∧ ∀ j, j < 20 → q i ≠ mq j) ∧ (∀ j, j < 24 → e 15 j = mf 2 j) ∧ (w 0).toInt ≤ E ∧ (mv 4).toInt ≤ E ∧ rp (w nn) (e (nn + 1)) (e (nn + 2)) M ∧ rp (mv 0) (mf 0) (mf 1) M ∧ w 1 = mv 3 ∧ (w 0).toInt = (mv 4).toInt ∧ (nn : Int) = 40 + 4 * ((w 0).toInt % 41) ∧ nm0 M ∧ bd (w nn) (e (nn + 1)) (e (nn + 3))
theorem LX_mono {g : pm_G} {xo h E E' : Nat} {A : pm_H} (hE : E ≤ E') (hA : LX g xo h E A) : LX g xo h E' A := by
  obtain ⟨A00, K, nn, dn, q, w, e, v, f, mq, mv, mf, M, rfl, rfl, hI, hS, D, hv, hf, dj, hw, hE1, hE2, r⟩ := hA
  exact ⟨A00, K, nn, dn, q, w, e, v, f, mq, mv, mf, M, rfl, rfl, hI, hS, D, hv, hf, dj, hw, by omega, by omega, r⟩
theorem lx_n {n n2 : Int32} {c m c2 m2 : Nat → Int32} {M : List pl_P} (h1 : rp n c m M) (h2 : rp n2 c2 m2 M) : n.toInt = n2.toInt := h1.1.trans h2.1.symm
theorem lx_c {n n2 : Int32} {c m c2 m2 : Nat → Int32} {M : List pl_P} (h1 : rp n c m M) (h2 : rp n2 c2 m2 M) : ∀ j : Nat, (j : Int) < n.toInt → c j = c2 j := fun j hj => by
  have hl := h1.1
  rw [(h1.2 j (by omega)).1, (h2.2 j (by omega)).1]
noncomputable def wq (x1 x2 : Int32) (c : Nat → Int32) : Nat → Int32 := if 0 ≤ x1.toInt ∧ x1.toInt ≤ 23 ∧ 0 ≤ x2.toInt ∧ x2.toInt ≤ 999 then upd c x1.toInt.toNat x2 else c
theorem lx_wc {A0 : pm_H} {g : pm_G} {K nn dn : Nat} {q : Nat → Nat} {w : Nat → Int32} {e : Nat → Nat → Int32} {v : Nat → Int32} {f : Nat → Nat → Int32} (hI : cw_I K nn dn q w e) {x1 x2 : Int32} {r : Option Value} {A9 : pm_H} (h : ((0 ≤ x1.toInt ∧ x1.toInt ≤ 23 ∧ 0 ≤ x2.toInt ∧ x2.toInt ≤ 999) ∧ r = some (.int (e 15 x1.toInt.toNat)) ∧ A9 = cw A0 g K nn dn q w (va_up e 15 (upd (e 15) x1.toInt.toNat x2)) v f) ∨ (¬ (0 ≤ x1.toInt ∧ x1.toInt ≤ 23 ∧ 0 ≤ x2.toInt ∧ x2.toInt ≤ 999) ∧ r = some (.int (-1)) ∧ A9 = cw A0 g K nn dn q w e v f)) : ∃ (e2 : Nat → Nat → Int32) (y : Int32), r = some (.int y) ∧ A9 = cw A0 g K nn dn q w e2 v f ∧ cw_I K nn dn q w e2 ∧ (∀ i, 40 ≤ i → e2 i = e i) ∧ e2 15 = wq x1 x2 (e 15) := by
  rcases h with ⟨hr, h1, h2⟩ | ⟨hr, h1, h2⟩
  · exact ⟨_, _, h1, h2, ⟨hI.1, hI.2.1, hI.2.2.1, cw_E_up hI.2.2.2 _ _ (fun h9 _ => absurd h9 (by decide)) (fun h9 _ => absurd h9 (by decide))⟩, fun i hi => va_un (by omega), by rw [va_us, wq, if_pos hr]⟩
  · exact ⟨e, _, h1, h2, hI, fun _ _ => rfl, by rw [wq, if_neg hr]⟩
theorem lx_wm {B : pm_H} {g : pm_G} {h : Nat} {mq : Nat → Nat} {mv : Nat → Int32} {mf : Nat → Nat → Int32} (_ : md_D h mq) (hf : md_F mf) {x1 x2 : Int32} {r : Option Value} {A9 : pm_H} (h9 : ((0 ≤ x1.toInt ∧ x1.toInt ≤ 23 ∧ 0 ≤ x2.toInt ∧ x2.toInt ≤ 999) ∧ r = some (.int (mf 2 x1.toInt.toNat)) ∧ A9 = md B g h mq mv (va_up mf 2 (upd (mf 2) x1.toInt.toNat x2))) ∨ (¬ (0 ≤ x1.toInt ∧ x1.toInt ≤ 23 ∧ 0 ≤ x2.toInt ∧ x2.toInt ≤ 999) ∧ r = some (.int (-1)) ∧ A9 = md B g h mq mv mf)) : ∃ (mf2 : Nat → Nat → Int32) (y : Int32), r = some (.int y) ∧ A9 = md B g h mq mv mf2 ∧ md_F mf2 ∧ (mf2 0 = mf 0 ∧ mf2 1 = mf 1) ∧ mf2 2 = wq x1 x2 (mf 2) := by
  rcases h9 with ⟨hr, h1, h2⟩ | ⟨hr, h1, h2⟩
  · exact ⟨_, _, h1, h2, md_F_st hf 2 _ _ (md_rng _ _ (by decide)), ⟨va_un (by decide), va_un (by decide)⟩, by rw [va_us, wq, if_pos hr]⟩
  · exact ⟨mf, _, h1, h2, hf, ⟨rfl, rfl⟩, by rw [wq, if_neg hr]⟩
theorem lx_ww {e e2 mf mf2 : Nat → Nat → Int32} {x1 x2 : Int32} (hw : ∀ j, j < 24 → e 15 j = mf 2 j) (hc : e2 15 = wq x1 x2 (e 15)) (hm : mf2 2 = wq x1 x2 (mf 2)) : ∀ j, j < 24 → e2 15 j = mf2 2 j := fun j hj => by
  rw [hc, hm]
  unfold wq
  split
  · by_cases e1 : j = x1.toInt.toNat
    · rw [e1, pk_us, pk_us]
    · rw [pk_un e1, pk_un e1]; exact hw j hj
  · exact hw j hj
end
