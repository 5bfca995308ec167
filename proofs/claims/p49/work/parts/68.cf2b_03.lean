section
section
variable {l : Launch} {g : pm_G} {A0 : pm_H} {K nn dn : Nat} {q : Nat → Nat} {w : Nat → Int32} {e : Nat → Nat → Int32} {v : Nat → Int32} {f : Nat → Nat → Int32}
set_option maxRecDepth 100000 in
set_option maxHeartbeats 2000000 in
theorem H_X10_merge (hI : cw_I K nn dn q w e) (hs : cw_S v f) (x1 : Int32) (x2 : Int32) (p0 : (w 0).toInt < 100000) : pm_Mt l g 37 4 4 485 [.ref (q 0), .int x1, .int x2] (cw A0 g K nn dn q w e v f) (cw_Qb A0 g K nn q (fun r K2 nn2 dn2 w2 e2 => e2 15 = e 15 ∧ (∃ x : Int32, r = some (.int x) ∧ (((w2 0).toInt ≤ (w 0).toInt + 1 ∧ (w 0).toInt ≤ (w2 0).toInt) ∧ (∀ L, rp (w nn) (e (nn + 1)) (e (nn + 2)) L → (nn : Int) = 40 + 4 * ((w 0).toInt % 41) → rp (w2 nn2) (e2 (nn2 + 1)) (e2 (nn2 + 2)) ((ed_merge L x1 x2).getD L) ∧ (w2 0).toInt = (w 0).toInt + edn (ed_merge L x1 x2) ∧ (w2 1).toInt = (w 1).toInt + edn (ed_merge L x1 x2) * (0) ∧ (nn2 : Int) = 40 + 4 * ((w2 0).toInt % 41) ∧ (bd (w nn) (e (nn + 1)) (e (nn + 3)) → bd (w2 nn2) (e2 (nn2 + 1)) (e2 (nn2 + 3)))))))) := by
  refine mt_X10_merge rfl (fun J hC => ?_)
  have ro_nn : cw_ro K nn := hI.2.1.2.1
  have ro_dn : cw_ro K dn := hI.2.1.2.2.1
  have hu1 := hI.2.1
  unfold cw_W at hu1
  replace hu1 := And.intro hu1.1 (And.intro (And.intro hu1.2.1.1 hu1.2.1.2.1) (And.intro (And.intro hu1.2.2.1.1 hu1.2.2.1.2.1) (And.intro hu1.2.2.2.1 (And.intro hu1.2.2.2.2.2.1 hu1.2.2.2.2.2.2))))
  have zs2 := cw_sz hI ro_nn
  have zs3 := cw_sz hI ro_dn
  have rg_x1 := pm_rng x1
  have rg_x2 := pm_rng x2
  refine hC.1 0 0 _ _ rfl _ _ _ _ _ ?_
  refine Exists.intro _ (Exists.intro _ (Exists.intro _ (Exists.intro _ (And.intro (F_X10_areUnlikeColours (cw A0 g K nn dn q w e v f) x1 x2 ) (And.intro rfl (fun r9 A9 h9 => ?_))))))
  rcases h9 with ⟨y4, rfl, rfl, ⟨rfl, by4⟩ | ⟨rfl, by4⟩⟩
  · skip
    have k1 : (1 : Int32).toInt = 1 := rfl
    refine And.intro (fun _ => ?_) (fun c9 => absurd c9 (by decide))
    refine hC.1 1 10 _ _ rfl _ _ _ _ _ ?_
    refine Exists.intro _ (And.intro (cw_o0 hI.1) ?_)
    refine Exists.intro _ (And.intro (cw_o1 hI.1) ?_)
    refine Exists.intro _ (And.intro (cw_o0 hI.1) ?_)
    refine And.intro (Exists.intro _ (cw_o1 hI.1)) (Exists.intro _ (Exists.intro _ (Exists.intro _ (Exists.intro _ (And.intro (F_X9_begin hI hs  (by omega)) (And.intro rfl (fun r9 A9 h9 => ?_)))))))
    obtain ⟨K7, dn7, q7, w7, e7, rfl, rfl, hI7, hX7, hk7, hw7, hy7, hdn7, hfm7, hz7⟩ := h9
    have hq7_0 : q 0 = q7 0 := (hX7.2.1 0 (by omega)).symm
    have hq7_nn : q nn = q7 nn := (hX7.2.1 nn (by omega)).symm
    rw [hq7_0, hq7_nn]
    have hw7_0 := congrArg Int32.toInt hw7.1
    have hw7_1 := congrArg Int32.toInt hw7.2.1
    have hw7_3 := congrArg Int32.toInt hw7.2.2.2
    have ro7 : cw_ro K7 dn7 := hI7.2.1.2.2.1
    have rn7 : cw_ro K7 nn := hI7.2.1.2.1
    have hx7 : e7 15 = e 15 := hy7.trans rfl
    have hu8 := hI7.2.1
    unfold cw_W at hu8
    replace hu8 := And.intro hu8.1 (And.intro (And.intro hu8.2.1.1 hu8.2.1.2.1) (And.intro (And.intro hu8.2.2.1.1 hu8.2.2.1.2.1) (And.intro hu8.2.2.2.1 (And.intro hu8.2.2.2.2.2.1 hu8.2.2.2.2.2.2))))
    have zs9 := cw_sz hI7 rn7
    have zs10 := cw_sz hI7 ro7
    have hz9 := hz7
    have hL7 : ∀ L, rp (w nn) (e (nn + 1)) (e (nn + 2)) L → (nn : Int) = 40 + 4 * ((w 0).toInt % 41) → nn ≠ dn7 ∧ rp (w7 nn) (e7 (nn + 1)) (e7 (nn + 2)) L := hL_b ro_nn ro7 hdn7 hfm7
    have k0 : (0 : Int32).toInt = 0 := rfl
    have lp12 : ∀ (n : Nat) (z4_28 : Int32) (w11 : Nat → Int32) (e11 : Nat → Nat → Int32) (v11 : Nat → Int32) (f11 : Nat → Nat → Int32), cw_I K7 nn dn7 q7 w11 e11 → e11 15 = e 15 → (∀ L, rp (w nn) (e (nn + 1)) (e (nn + 2)) L → (nn : Int) = 40 + 4 * ((w 0).toInt % 41) → nn ≠ dn7 ∧ rp (w11 nn) (e11 (nn + 1)) (e11 (nn + 2)) L) → cw_S v11 f11 → (0 ≤ z4_28.toInt ∧ z4_28.toInt ≤ 160) → (∀ L, rp (w nn) (e (nn + 1)) (e (nn + 2)) L → (nn : Int) = 40 + 4 * ((w 0).toInt % 41) → rp (w11 dn7) (e11 (dn7 + 1)) (e11 (dn7 + 2)) ((si L 0 z4_28.toInt).map (fun p => (if p.1 = x1 then x2 else p.1, p.2)))) → (∀ L, rp (w nn) (e (nn + 1)) (e (nn + 2)) L → (nn : Int) = 40 + 4 * ((w 0).toInt % 41) → z4_28.toInt ≤ (L.length : Int)) → (w11 0).toInt = (w 0).toInt → (w11 1).toInt = (w 1).toInt → (w11 3).toInt = (w 3).toInt → 200 - z4_28.toInt < (n : Int) → J 28 [some (.ref (q7 0)), some (.int x1), some (.int x2), some (.ref (q7 nn)), some (.int z4_28)] [] (cw A0 g K7 nn dn7 q7 w11 e11 v11 f11) 4 485 := by
      intro n
      induction n with
      | zero =>
        intro z4_28 w11 e11 v11 f11 hI11 hx11 hL11 hs11 j0_28 j1_28 j2_28 j3_28 j4_28 j5_28 j6_28
        clear hu8 zs9 zs10
        omega
      | succ n ih13 =>
        intro z4_28 w11 e11 v11 f11 hI11 hx11 hL11 hs11 j0_28 j1_28 j2_28 j3_28 j4_28 j5_28 j6_28
        clear hu8 zs9 zs10
        have lh9 := hL11
        have hu14 := hI11.2.1
        unfold cw_W at hu14
        replace hu14 := And.intro hu14.1 (And.intro (And.intro hu14.2.1.1 hu14.2.1.2.1) (And.intro (And.intro hu14.2.2.1.1 hu14.2.2.1.2.1) (And.intro hu14.2.2.2.1 (And.intro hu14.2.2.2.2.2.1 hu14.2.2.2.2.2.2))))
        have zs15 := cw_sz hI11 rn7
        have zs16 := cw_sz hI11 ro7
        refine hC.1 2 28 _ _ rfl _ _ _ _ _ ?_
        refine Exists.intro _ (And.intro (cw_ro_o hI11.1 rn7) ?_)
        have z17 := cw_sz hI11 rn7
        refine And.intro (fun c18 => ?_) (fun c18 => ?_)
        · skip
          refine hC.1 5 74 _ _ rfl _ _ _ _ _ ?_
          refine Exists.intro _ (And.intro (cw_o0 hI11.1) ?_)
          have hp_78 := hL11
          refine And.intro (Exists.intro _ (cw_o1 hI11.1)) (Exists.intro _ (Exists.intro _ (Exists.intro _ (Exists.intro _ (And.intro (G_X9_finish hI11 hs11  (by omega) (by omega)) (And.intro rfl (fun r9 A9 h9 => ?_)))))))
          rcases h9 with ⟨w20, e20, v20, f20, rfl, hI20, hs20, hy20, y19, rfl, by19⟩
          have hx20 : e20 15 = e 15 := hy20.trans hx11
          have hu21 := hI20.2.1.2.2.2.1
          have hu22 := hI20.2.1.2.2.2.2.1
          have zs23 := cw_sz hI20 ro7
          have zs24 := cw_sz hI20 ro7
          have hb_78 := by19.2
          have sw20_1 : (w20 1).toInt = (w11 1).toInt := by19.1.1
          have sw20_3 : (w20 3).toInt = (w11 3).toInt := by19.1.2.1
          have sp20 := by19.1.2.2
          clear by19
          exact ⟨rfl, fun e9 => absurd e9 (by decide), rfl, K7, dn7, dn7, q7, w20, e20, v20, f20, rfl, hI20, hs20, hX7, hx20, y19, rfl, by first | omega | (dsimp only; omega) | trivial, by intro L hL hN; have hl := hL.1; rw [ed_merge, if_pos (by omega)]; have t2 := j1_28 L hL hN; have h8 := (lh9 L hL hN).2.1; have h7 := j2_28 L hL hN; rw [show z4_28.toInt = (L.length : Int) by omega, si_all] at t2; exact ⟨hb_78.2.1 _ t2, by show _ = _ + (1 : Int); omega, by show _ = _ + (1 : Int) * _; omega, by omega, fun _ => hb_78.2.2⟩⟩
        · skip
          refine Exists.intro _ (And.intro (cw_o0 hI11.1) ?_)
          refine Exists.intro _ (And.intro (cw_ro_o hI11.1 rn7) ?_)
          refine Exists.intro _ (Exists.intro _ (And.intro (Or.inl (cw_ro_1 hI11.1 rn7)) (And.intro (by omega) ?_)))
          have w25 := cw_col hI11 rn7 (z4_28).toInt.toNat
          refine And.intro (fun c26 => ?_) (fun c26 => ?_)
          · skip
            have dc26 := pm_neI c26
            refine hC.1 3 58 _ _ rfl _ _ _ _ _ ?_
            refine Exists.intro _ (And.intro (cw_ro_o hI11.1 rn7) ?_)
            refine Exists.intro _ (Exists.intro _ (And.intro (Or.inl (cw_ro_1 hI11.1 rn7)) (And.intro (by omega) ?_)))
            have w27 := cw_col hI11 rn7 (z4_28).toInt.toNat
            refine hC.1 4 65 _ _ rfl _ _ _ _ _ ?_
            have hp_65 := hL11
            refine And.intro (Exists.intro _ (cw_o1 hI11.1)) (Exists.intro _ (Exists.intro _ (Exists.intro _ (Exists.intro _ (And.intro (F_X9_keepAs hI11 hs11 z4_28 (e11 (nn + 1) (z4_28).toInt.toNat) (by omega)) (And.intro rfl (fun r9 A9 h9 => ?_)))))))
            rcases h9 with ⟨w29, e29, v29, f29, rfl, hI29, hs29, hy29, rfl, by28⟩
            have hx29 : e29 15 = e 15 := hy29.trans hx11
            have zs30 := cw_sz hI29 rn7
            have zs31 := cw_sz hI29 ro7
            have hb_65 := by28.2
            have hL29 : ∀ L, rp (w nn) (e (nn + 1)) (e (nn + 2)) L → (nn : Int) = 40 + 4 * ((w 0).toInt % 41) → nn ≠ dn7 ∧ rp (w29 nn) (e29 (nn + 1)) (e29 (nn + 2)) L := hL_k hL11 rn7 ro7 hb_65.1
            have sw29_0 : (w29 0).toInt = (w11 0).toInt := by28.1.1
            have sw29_1 : (w29 1).toInt = (w11 1).toInt := by28.1.2.1
            have sw29_3 : (w29 3).toInt = (w11 3).toInt := by28.1.2.2
            clear by28
            intro m32 em_68
            try have e32 : m32.toInt = (z4_28).toInt + (1) := by rw [em_68]; exact pm_addc _ _ (1) rfl (by omega) (by omega)
            exact ih13 m32 w29 e29 v29 f29 hI29 hx29 hL29 hs29 (by omega) (by intro L hL hN; have hl := hL.1; have q2 := hp_65 L hL hN; have z2 := q2.2.1; have s2 := si_len (L := L) (a := 0) (b := z4_28.toInt) (by omega) (by omega) (by omega); have t2 := hb_65.2 L _ q2.2 q2.1 (by omega) (by omega) (by first | omega | (simp only [List.length_append, List.length_nil, List.length_cons, List.length_map, List.length_reverse, nw_len, dr_len]; omega)) (j1_28 L hL hN); rw [show m32.toInt = z4_28.toInt + 1 by omega, si_s q2.2 (a := 0) (z := z4_28.toInt) (by omega) (by omega) (by omega), List.map_append, List.map_cons, List.map_nil]; first | (rw [if_pos (by assumption)]; exact t2) | (rw [if_neg (by assumption)]; exact t2)) (by intro L hL hN; have h8 := (lh9 L hL hN).2.1; omega) (by omega) (by omega) (by omega) (by omega)
          · skip
            have dc26 : ((e11 (nn + 1) (z4_28).toInt.toNat)).toInt = (x1 : Int32).toInt := congrArg Int32.toInt c26
            refine hC.1 4 65 _ _ rfl _ _ _ _ _ ?_
            have hp_65 := hL11
            refine And.intro (Exists.intro _ (cw_o1 hI11.1)) (Exists.intro _ (Exists.intro _ (Exists.intro _ (Exists.intro _ (And.intro (F_X9_keepAs hI11 hs11 z4_28 x2 (by omega)) (And.intro rfl (fun r9 A9 h9 => ?_)))))))
            rcases h9 with ⟨w34, e34, v34, f34, rfl, hI34, hs34, hy34, rfl, by33⟩
            have hx34 : e34 15 = e 15 := hy34.trans hx11
            have zs35 := cw_sz hI34 rn7
            have zs36 := cw_sz hI34 ro7
            have hb_65 := by33.2
            have hL34 : ∀ L, rp (w nn) (e (nn + 1)) (e (nn + 2)) L → (nn : Int) = 40 + 4 * ((w 0).toInt % 41) → nn ≠ dn7 ∧ rp (w34 nn) (e34 (nn + 1)) (e34 (nn + 2)) L := hL_k hL11 rn7 ro7 hb_65.1
            have sw34_0 : (w34 0).toInt = (w11 0).toInt := by33.1.1
            have sw34_1 : (w34 1).toInt = (w11 1).toInt := by33.1.2.1
            have sw34_3 : (w34 3).toInt = (w11 3).toInt := by33.1.2.2
            clear by33
            intro m37 em_68
            try have e37 : m37.toInt = (z4_28).toInt + (1) := by rw [em_68]; exact pm_addc _ _ (1) rfl (by omega) (by omega)
            exact ih13 m37 w34 e34 v34 f34 hI34 hx34 hL34 hs34 (by omega) (by intro L hL hN; have hl := hL.1; have q2 := hp_65 L hL hN; have z2 := q2.2.1; have s2 := si_len (L := L) (a := 0) (b := z4_28.toInt) (by omega) (by omega) (by omega); have t2 := hb_65.2 L _ q2.2 q2.1 (by omega) (by omega) (by first | omega | (simp only [List.length_append, List.length_nil, List.length_cons, List.length_map, List.length_reverse, nw_len, dr_len]; omega)) (j1_28 L hL hN); rw [show m37.toInt = z4_28.toInt + 1 by omega, si_s q2.2 (a := 0) (z := z4_28.toInt) (by omega) (by omega) (by omega), List.map_append, List.map_cons, List.map_nil]; first | (rw [if_pos (by assumption)]; exact t2) | (rw [if_neg (by assumption)]; exact t2)) (by intro L hL hN; have h8 := (lh9 L hL hN).2.1; omega) (by omega) (by omega) (by omega) (by omega)
    exact lp12 (200 - (0 : Int32).toInt).toNat.succ (0 : Int32) w7 e7 v f hI7 hx7 hL7 hs (by omega) (by intro L hL hN; have hl := hL.1; rw [si_n (L := L) (a := 0) (b := (0 : Int32).toInt) (by decide)]; exact rp_0 hz9) (by intro L hL hN; have := hL.1; omega) (by omega) (by omega) (by omega) (by omega)
  · skip
    have k0 : (0 : Int32).toInt = 0 := rfl
    refine And.intro (fun c9 => absurd c9 (by decide)) (fun _ => ?_)
    have km1 : (-1 : Int32).toInt = -1 := rfl
    exact ⟨rfl, fun e9 => absurd e9 (by decide), rfl, K, nn, dn, q, w, e, v, f, rfl, hI, hs, cw_X_r, rfl, (-1 : Int32), rfl, by first | omega | (dsimp only; omega) | trivial, by intro L hL hN; have hl := hL.1; rw [ed_merge, if_neg (by omega)]; exact ⟨hL, by show _ = _ + (0 : Int); omega, by show _ = _ + (0 : Int) * _; omega, hN, fun h8 => h8⟩⟩

set_option maxRecDepth 100000 in
set_option maxHeartbeats 2000000 in
theorem H_X10_exchange (hI : cw_I K nn dn q w e) (hs : cw_S v f) (x1 : Int32) (x2 : Int32) (p0 : (w 0).toInt < 100000) : pm_Mt l g 39 4 4 485 [.ref (q 0), .int x1, .int x2] (cw A0 g K nn dn q w e v f) (cw_Qb A0 g K nn q (fun r K2 nn2 dn2 w2 e2 => e2 15 = e 15 ∧ (∃ x : Int32, r = some (.int x) ∧ (((w2 0).toInt ≤ (w 0).toInt + 1 ∧ (w 0).toInt ≤ (w2 0).toInt) ∧ (∀ L, rp (w nn) (e (nn + 1)) (e (nn + 2)) L → (nn : Int) = 40 + 4 * ((w 0).toInt % 41) → rp (w2 nn2) (e2 (nn2 + 1)) (e2 (nn2 + 2)) ((ed_exch L x1 x2).getD L) ∧ (w2 0).toInt = (w 0).toInt + edn (ed_exch L x1 x2) ∧ (w2 1).toInt = (w 1).toInt + edn (ed_exch L x1 x2) * (0) ∧ (nn2 : Int) = 40 + 4 * ((w2 0).toInt % 41) ∧ (bd (w nn) (e (nn + 1)) (e (nn + 3)) → bd (w2 nn2) (e2 (nn2 + 1)) (e2 (nn2 + 3)))))))) := by
  refine mt_X10_exchange rfl (fun J hC => ?_)
  have ro_nn : cw_ro K nn := hI.2.1.2.1
  have ro_dn : cw_ro K dn := hI.2.1.2.2.1
  have hu1 := hI.2.1
  unfold cw_W at hu1
  replace hu1 := And.intro hu1.1 (And.intro (And.intro hu1.2.1.1 hu1.2.1.2.1) (And.intro (And.intro hu1.2.2.1.1 hu1.2.2.1.2.1) (And.intro hu1.2.2.2.1 (And.intro hu1.2.2.2.2.2.1 hu1.2.2.2.2.2.2))))
  have zs2 := cw_sz hI ro_nn
  have zs3 := cw_sz hI ro_dn
  have rg_x1 := pm_rng x1
  have rg_x2 := pm_rng x2
  refine hC.1 0 0 _ _ rfl _ _ _ _ _ ?_
  refine Exists.intro _ (Exists.intro _ (Exists.intro _ (Exists.intro _ (And.intro (F_X10_areUnlikeColours (cw A0 g K nn dn q w e v f) x1 x2 ) (And.intro rfl (fun r9 A9 h9 => ?_))))))
  rcases h9 with ⟨y4, rfl, rfl, ⟨rfl, by4⟩ | ⟨rfl, by4⟩⟩
  · skip
    have k1 : (1 : Int32).toInt = 1 := rfl
    refine And.intro (fun _ => ?_) (fun c9 => absurd c9 (by decide))
    refine hC.1 1 10 _ _ rfl _ _ _ _ _ ?_
    refine Exists.intro _ (And.intro (cw_o0 hI.1) ?_)
    refine Exists.intro _ (And.intro (cw_o1 hI.1) ?_)
    refine Exists.intro _ (And.intro (cw_o0 hI.1) ?_)
    refine And.intro (Exists.intro _ (cw_o1 hI.1)) (Exists.intro _ (Exists.intro _ (Exists.intro _ (Exists.intro _ (And.intro (F_X9_begin hI hs  (by omega)) (And.intro rfl (fun r9 A9 h9 => ?_)))))))
    obtain ⟨K7, dn7, q7, w7, e7, rfl, rfl, hI7, hX7, hk7, hw7, hy7, hdn7, hfm7, hz7⟩ := h9
    have hq7_0 : q 0 = q7 0 := (hX7.2.1 0 (by omega)).symm
    have hq7_nn : q nn = q7 nn := (hX7.2.1 nn (by omega)).symm
    rw [hq7_0, hq7_nn]
    have hw7_0 := congrArg Int32.toInt hw7.1
    have hw7_1 := congrArg Int32.toInt hw7.2.1
    have hw7_3 := congrArg Int32.toInt hw7.2.2.2
    have ro7 : cw_ro K7 dn7 := hI7.2.1.2.2.1
    have rn7 : cw_ro K7 nn := hI7.2.1.2.1
    have hx7 : e7 15 = e 15 := hy7.trans rfl
    have hu8 := hI7.2.1
    unfold cw_W at hu8
    replace hu8 := And.intro hu8.1 (And.intro (And.intro hu8.2.1.1 hu8.2.1.2.1) (And.intro (And.intro hu8.2.2.1.1 hu8.2.2.1.2.1) (And.intro hu8.2.2.2.1 (And.intro hu8.2.2.2.2.2.1 hu8.2.2.2.2.2.2))))
    have zs9 := cw_sz hI7 rn7
    have zs10 := cw_sz hI7 ro7
    have hz9 := hz7
    have hL7 : ∀ L, rp (w nn) (e (nn + 1)) (e (nn + 2)) L → (nn : Int) = 40 + 4 * ((w 0).toInt % 41) → nn ≠ dn7 ∧ rp (w7 nn) (e7 (nn + 1)) (e7 (nn + 2)) L := hL_b ro_nn ro7 hdn7 hfm7
    have k0 : (0 : Int32).toInt = 0 := rfl
    have lp12 : ∀ (n : Nat) (z4_28 : Int32) (w11 : Nat → Int32) (e11 : Nat → Nat → Int32) (v11 : Nat → Int32) (f11 : Nat → Nat → Int32), cw_I K7 nn dn7 q7 w11 e11 → e11 15 = e 15 → (∀ L, rp (w nn) (e (nn + 1)) (e (nn + 2)) L → (nn : Int) = 40 + 4 * ((w 0).toInt % 41) → nn ≠ dn7 ∧ rp (w11 nn) (e11 (nn + 1)) (e11 (nn + 2)) L) → cw_S v11 f11 → (0 ≤ z4_28.toInt ∧ z4_28.toInt ≤ 160) → (∀ L, rp (w nn) (e (nn + 1)) (e (nn + 2)) L → (nn : Int) = 40 + 4 * ((w 0).toInt % 41) → rp (w11 dn7) (e11 (dn7 + 1)) (e11 (dn7 + 2)) ((si L 0 z4_28.toInt).map (fun p => (if p.1 = x1 then x2 else if p.1 = x2 then x1 else p.1, p.2)))) → (∀ L, rp (w nn) (e (nn + 1)) (e (nn + 2)) L → (nn : Int) = 40 + 4 * ((w 0).toInt % 41) → z4_28.toInt ≤ (L.length : Int)) → (w11 0).toInt = (w 0).toInt → (w11 1).toInt = (w 1).toInt → (w11 3).toInt = (w 3).toInt → 200 - z4_28.toInt < (n : Int) → J 28 [some (.ref (q7 0)), some (.int x1), some (.int x2), some (.ref (q7 nn)), some (.int z4_28), none] [] (cw A0 g K7 nn dn7 q7 w11 e11 v11 f11) 4 485 := by
      intro n
      induction n with
      | zero =>
        intro z4_28 w11 e11 v11 f11 hI11 hx11 hL11 hs11 j0_28 j1_28 j2_28 j3_28 j4_28 j5_28 j6_28
        clear hu8 zs9 zs10
        omega
      | succ n ih13 =>
        intro z4_28 w11 e11 v11 f11 hI11 hx11 hL11 hs11 j0_28 j1_28 j2_28 j3_28 j4_28 j5_28 j6_28
        clear hu8 zs9 zs10
        have lh9 := hL11
        have hu14 := hI11.2.1
        unfold cw_W at hu14
        replace hu14 := And.intro hu14.1 (And.intro (And.intro hu14.2.1.1 hu14.2.1.2.1) (And.intro (And.intro hu14.2.2.1.1 hu14.2.2.1.2.1) (And.intro hu14.2.2.2.1 (And.intro hu14.2.2.2.2.2.1 hu14.2.2.2.2.2.2))))
        have zs15 := cw_sz hI11 rn7
        have zs16 := cw_sz hI11 ro7
        refine hC.1 2 28 _ _ rfl _ _ _ _ _ ?_
        refine Exists.intro _ (And.intro (cw_ro_o hI11.1 rn7) ?_)
        have z17 := cw_sz hI11 rn7
        refine And.intro (fun c18 => ?_) (fun c18 => ?_)
        · skip
          refine hC.1 6 83 _ _ rfl _ _ _ _ _ ?_
          refine Exists.intro _ (And.intro (cw_o0 hI11.1) ?_)
          have hp_87 := hL11
          refine And.intro (Exists.intro _ (cw_o1 hI11.1)) (Exists.intro _ (Exists.intro _ (Exists.intro _ (Exists.intro _ (And.intro (G_X9_finish hI11 hs11  (by omega) (by omega)) (And.intro rfl (fun r9 A9 h9 => ?_)))))))
          rcases h9 with ⟨w20, e20, v20, f20, rfl, hI20, hs20, hy20, y19, rfl, by19⟩
          have hx20 : e20 15 = e 15 := hy20.trans hx11
          have hu21 := hI20.2.1.2.2.2.1
          have hu22 := hI20.2.1.2.2.2.2.1
          have zs23 := cw_sz hI20 ro7
          have zs24 := cw_sz hI20 ro7
          have hb_87 := by19.2
          have sw20_1 : (w20 1).toInt = (w11 1).toInt := by19.1.1
          have sw20_3 : (w20 3).toInt = (w11 3).toInt := by19.1.2.1
          have sp20 := by19.1.2.2
          clear by19
          exact ⟨rfl, fun e9 => absurd e9 (by decide), rfl, K7, dn7, dn7, q7, w20, e20, v20, f20, rfl, hI20, hs20, hX7, hx20, y19, rfl, by first | omega | (dsimp only; omega) | trivial, by intro L hL hN; have hl := hL.1; rw [ed_exch, if_pos (by omega)]; have t2 := j1_28 L hL hN; have h8 := (lh9 L hL hN).2.1; have h7 := j2_28 L hL hN; rw [show z4_28.toInt = (L.length : Int) by omega, si_all] at t2; exact ⟨hb_87.2.1 _ t2, by show _ = _ + (1 : Int); omega, by show _ = _ + (1 : Int) * _; omega, by omega, fun _ => hb_87.2.2⟩⟩
        · skip
          refine Exists.intro _ (And.intro (cw_ro_o hI11.1 rn7) ?_)
          refine Exists.intro _ (Exists.intro _ (And.intro (Or.inl (cw_ro_1 hI11.1 rn7)) (And.intro (by omega) ?_)))
          have w25 := cw_col hI11 rn7 (z4_28).toInt.toNat
          refine Exists.intro _ (And.intro (cw_o0 hI11.1) ?_)
          refine And.intro (fun c26 => ?_) (fun c26 => ?_)
          · skip
            have dc26 := pm_neI c26
            refine hC.1 3 62 _ _ rfl _ _ _ _ _ ?_
            refine And.intro (fun c27 => ?_) (fun c27 => ?_)
            · skip
              have dc27 := pm_neI c27
              refine hC.1 4 72 _ _ rfl _ _ _ _ _ ?_
              refine hC.1 5 74 _ _ rfl _ _ _ _ _ ?_
              have hp_74 := hL11
              refine And.intro (Exists.intro _ (cw_o1 hI11.1)) (Exists.intro _ (Exists.intro _ (Exists.intro _ (Exists.intro _ (And.intro (F_X9_keepAs hI11 hs11 z4_28 (e11 (nn + 1) (z4_28).toInt.toNat) (by omega)) (And.intro rfl (fun r9 A9 h9 => ?_)))))))
              rcases h9 with ⟨w29, e29, v29, f29, rfl, hI29, hs29, hy29, rfl, by28⟩
              have hx29 : e29 15 = e 15 := hy29.trans hx11
              have zs30 := cw_sz hI29 rn7
              have zs31 := cw_sz hI29 ro7
              have hb_74 := by28.2
              have hL29 : ∀ L, rp (w nn) (e (nn + 1)) (e (nn + 2)) L → (nn : Int) = 40 + 4 * ((w 0).toInt % 41) → nn ≠ dn7 ∧ rp (w29 nn) (e29 (nn + 1)) (e29 (nn + 2)) L := hL_k hL11 rn7 ro7 hb_74.1
              have sw29_0 : (w29 0).toInt = (w11 0).toInt := by28.1.1
              have sw29_1 : (w29 1).toInt = (w11 1).toInt := by28.1.2.1
              have sw29_3 : (w29 3).toInt = (w11 3).toInt := by28.1.2.2
              clear by28
              intro m32 em_77
              try have e32 : m32.toInt = (z4_28).toInt + (1) := by rw [em_77]; exact pm_addc _ _ (1) rfl (by omega) (by omega)
              exact hC.2 [false, false, false, false, false, true] _ _ _ _ _ _ (ih13 m32 w29 e29 v29 f29 hI29 hx29 hL29 hs29 (by omega) (by intro L hL hN; have hl := hL.1; have q2 := hp_74 L hL hN; have z2 := q2.2.1; have s2 := si_len (L := L) (a := 0) (b := z4_28.toInt) (by omega) (by omega) (by omega); have t2 := hb_74.2 L _ q2.2 q2.1 (by omega) (by omega) (by first | omega | (simp only [List.length_append, List.length_nil, List.length_cons, List.length_map, List.length_reverse, nw_len, dr_len]; omega)) (j1_28 L hL hN); rw [show m32.toInt = z4_28.toInt + 1 by omega, si_s q2.2 (a := 0) (z := z4_28.toInt) (by omega) (by omega) (by omega), List.map_append, List.map_cons, List.map_nil]; first | (rw [if_pos (by assumption)]; exact t2) | (rw [if_neg (by assumption), if_pos (by assumption)]; exact t2) | (rw [if_neg (by assumption), if_neg (by assumption)]; exact t2)) (by intro L hL hN; have h8 := (lh9 L hL hN).2.1; omega) (by omega) (by omega) (by omega) (by omega))
            · skip
              have dc27 : ((e11 (nn + 1) (z4_28).toInt.toNat)).toInt = (x2 : Int32).toInt := congrArg Int32.toInt c27
              refine hC.1 5 74 _ _ rfl _ _ _ _ _ ?_
              have hp_74 := hL11
              refine And.intro (Exists.intro _ (cw_o1 hI11.1)) (Exists.intro _ (Exists.intro _ (Exists.intro _ (Exists.intro _ (And.intro (F_X9_keepAs hI11 hs11 z4_28 x1 (by omega)) (And.intro rfl (fun r9 A9 h9 => ?_)))))))
              rcases h9 with ⟨w34, e34, v34, f34, rfl, hI34, hs34, hy34, rfl, by33⟩
              have hx34 : e34 15 = e 15 := hy34.trans hx11
              have zs35 := cw_sz hI34 rn7
              have zs36 := cw_sz hI34 ro7
              have hb_74 := by33.2
              have hL34 : ∀ L, rp (w nn) (e (nn + 1)) (e (nn + 2)) L → (nn : Int) = 40 + 4 * ((w 0).toInt % 41) → nn ≠ dn7 ∧ rp (w34 nn) (e34 (nn + 1)) (e34 (nn + 2)) L := hL_k hL11 rn7 ro7 hb_74.1
              have sw34_0 : (w34 0).toInt = (w11 0).toInt := by33.1.1
              have sw34_1 : (w34 1).toInt = (w11 1).toInt := by33.1.2.1
              have sw34_3 : (w34 3).toInt = (w11 3).toInt := by33.1.2.2
              clear by33
              intro m37 em_77
              try have e37 : m37.toInt = (z4_28).toInt + (1) := by rw [em_77]; exact pm_addc _ _ (1) rfl (by omega) (by omega)
              exact hC.2 [false, false, false, false, false, true] _ _ _ _ _ _ (ih13 m37 w34 e34 v34 f34 hI34 hx34 hL34 hs34 (by omega) (by intro L hL hN; have hl := hL.1; have q2 := hp_74 L hL hN; have z2 := q2.2.1; have s2 := si_len (L := L) (a := 0) (b := z4_28.toInt) (by omega) (by omega) (by omega); have t2 := hb_74.2 L _ q2.2 q2.1 (by omega) (by omega) (by first | omega | (simp only [List.length_append, List.length_nil, List.length_cons, List.length_map, List.length_reverse, nw_len, dr_len]; omega)) (j1_28 L hL hN); rw [show m37.toInt = z4_28.toInt + 1 by omega, si_s q2.2 (a := 0) (z := z4_28.toInt) (by omega) (by omega) (by omega), List.map_append, List.map_cons, List.map_nil]; first | (rw [if_pos (by assumption)]; exact t2) | (rw [if_neg (by assumption), if_pos (by assumption)]; exact t2) | (rw [if_neg (by assumption), if_neg (by assumption)]; exact t2)) (by intro L hL hN; have h8 := (lh9 L hL hN).2.1; omega) (by omega) (by omega) (by omega) (by omega))
          · skip
            have dc26 : ((e11 (nn + 1) (z4_28).toInt.toNat)).toInt = (x1 : Int32).toInt := congrArg Int32.toInt c26
            refine hC.1 5 74 _ _ rfl _ _ _ _ _ ?_
            have hp_74 := hL11
            refine And.intro (Exists.intro _ (cw_o1 hI11.1)) (Exists.intro _ (Exists.intro _ (Exists.intro _ (Exists.intro _ (And.intro (F_X9_keepAs hI11 hs11 z4_28 x2 (by omega)) (And.intro rfl (fun r9 A9 h9 => ?_)))))))
            rcases h9 with ⟨w39, e39, v39, f39, rfl, hI39, hs39, hy39, rfl, by38⟩
            have hx39 : e39 15 = e 15 := hy39.trans hx11
            have zs40 := cw_sz hI39 rn7
            have zs41 := cw_sz hI39 ro7
            have hb_74 := by38.2
            have hL39 : ∀ L, rp (w nn) (e (nn + 1)) (e (nn + 2)) L → (nn : Int) = 40 + 4 * ((w 0).toInt % 41) → nn ≠ dn7 ∧ rp (w39 nn) (e39 (nn + 1)) (e39 (nn + 2)) L := hL_k hL11 rn7 ro7 hb_74.1
            have sw39_0 : (w39 0).toInt = (w11 0).toInt := by38.1.1
            have sw39_1 : (w39 1).toInt = (w11 1).toInt := by38.1.2.1
            have sw39_3 : (w39 3).toInt = (w11 3).toInt := by38.1.2.2
            clear by38
            intro m42 em_77
            try have e42 : m42.toInt = (z4_28).toInt + (1) := by rw [em_77]; exact pm_addc _ _ (1) rfl (by omega) (by omega)
            exact hC.2 [false, false, false, false, false, true] _ _ _ _ _ _ (ih13 m42 w39 e39 v39 f39 hI39 hx39 hL39 hs39 (by omega) (by intro L hL hN; have hl := hL.1; have q2 := hp_74 L hL hN; have z2 := q2.2.1; have s2 := si_len (L := L) (a := 0) (b := z4_28.toInt) (by omega) (by omega) (by omega); have t2 := hb_74.2 L _ q2.2 q2.1 (by omega) (by omega) (by first | omega | (simp only [List.length_append, List.length_nil, List.length_cons, List.length_map, List.length_reverse, nw_len, dr_len]; omega)) (j1_28 L hL hN); rw [show m42.toInt = z4_28.toInt + 1 by omega, si_s q2.2 (a := 0) (z := z4_28.toInt) (by omega) (by omega) (by omega), List.map_append, List.map_cons, List.map_nil]; first | (rw [if_pos (by assumption)]; exact t2) | (rw [if_neg (by assumption), if_pos (by assumption)]; exact t2) | (rw [if_neg (by assumption), if_neg (by assumption)]; exact t2)) (by intro L hL hN; have h8 := (lh9 L hL hN).2.1; omega) (by omega) (by omega) (by omega) (by omega))
    exact lp12 (200 - (0 : Int32).toInt).toNat.succ (0 : Int32) w7 e7 v f hI7 hx7 hL7 hs (by omega) (by intro L hL hN; have hl := hL.1; rw [si_n (L := L) (a := 0) (b := (0 : Int32).toInt) (by decide)]; exact rp_0 hz9) (by intro L hL hN; have := hL.1; omega) (by omega) (by omega) (by omega) (by omega)
  · skip
    have k0 : (0 : Int32).toInt = 0 := rfl
    refine And.intro (fun c9 => absurd c9 (by decide)) (fun _ => ?_)
    have km1 : (-1 : Int32).toInt = -1 := rfl
    exact ⟨rfl, fun e9 => absurd e9 (by decide), rfl, K, nn, dn, q, w, e, v, f, rfl, hI, hs, cw_X_r, rfl, (-1 : Int32), rfl, by first | omega | (dsimp only; omega) | trivial, by intro L hL hN; have hl := hL.1; rw [ed_exch, if_neg (by omega)]; exact ⟨hL, by show _ = _ + (0 : Int); omega, by show _ = _ + (0 : Int) * _; omega, hN, fun h8 => h8⟩⟩

end
end
section
section
variable {l : Launch} {g : pm_G} {A0 : pm_H} {K nn dn : Nat} {q : Nat → Nat} {w : Nat → Int32} {e : Nat → Nat → Int32} {v : Nat → Int32} {f : Nat → Nat → Int32}
set_option maxRecDepth 100000 in
set_option maxHeartbeats 2000000 in
theorem H_X10_sort (hI : cw_I K nn dn q w e) (hs : cw_S v f) (x1 : Int32) (x2 : Int32) (p0 : (w 0).toInt < 100000) : pm_Mt l g 32 5 4 485 [.ref (q 0), .int x1, .int x2] (cw A0 g K nn dn q w e v f) (cw_Qb A0 g K nn q (fun r K2 nn2 dn2 w2 e2 => e2 15 = e 15 ∧ (∃ x : Int32, r = some (.int x) ∧ (((w2 0).toInt ≤ (w 0).toInt + 1 ∧ (w 0).toInt ≤ (w2 0).toInt) ∧ (∀ L, rp (w nn) (e (nn + 1)) (e (nn + 2)) L → (nn : Int) = 40 + 4 * ((w 0).toInt % 41) → rp (w2 nn2) (e2 (nn2 + 1)) (e2 (nn2 + 2)) ((ed_sort L x1 x2).getD L) ∧ (w2 0).toInt = (w 0).toInt + edn (ed_sort L x1 x2) ∧ (w2 1).toInt = (w 1).toInt + edn (ed_sort L x1 x2) * (0) ∧ (nn2 : Int) = 40 + 4 * ((w2 0).toInt % 41) ∧ (bd (w nn) (e (nn + 1)) (e (nn + 3)) → bd (w2 nn2) (e2 (nn2 + 1)) (e2 (nn2 + 3)))))))) := by
  refine mt_X10_sort rfl (fun J hC => ?_)
  have ro_nn : cw_ro K nn := hI.2.1.2.1
  have ro_dn : cw_ro K dn := hI.2.1.2.2.1
  have hu1 := hI.2.1
  unfold cw_W at hu1
  replace hu1 := And.intro hu1.1 (And.intro (And.intro hu1.2.1.1 hu1.2.1.2.1) (And.intro (And.intro hu1.2.2.1.1 hu1.2.2.1.2.1) (And.intro hu1.2.2.2.1 (And.intro hu1.2.2.2.2.2.1 hu1.2.2.2.2.2.2))))
  have zs2 := cw_sz hI ro_nn
  have zs3 := cw_sz hI ro_dn
  have rg_x1 := pm_rng x1
  have rg_x2 := pm_rng x2
  refine hC.1 0 0 _ _ rfl _ _ _ _ _ ?_
  refine Exists.intro _ (And.intro (cw_o0 hI.1) ?_)
  refine Exists.intro _ (And.intro (cw_o1 hI.1) ?_)
  refine And.intro (Exists.intro _ (cw_ro_o hI.1 ro_nn)) (Exists.intro _ (Exists.intro _ (Exists.intro _ (Exists.intro _ (And.intro (c_X7_isSpan hI hs ro_nn x1 x2 ) (And.intro rfl (fun r9 A9 h9 => ?_)))))))
  rcases h9 with ⟨y4, rfl, rfl, ⟨rfl, by4⟩ | ⟨rfl, by4⟩⟩
  · skip
    have k1 : (1 : Int32).toInt = 1 := rfl
    refine And.intro (fun _ => ?_) (fun c9 => absurd c9 (by decide))
    refine hC.1 1 19 _ _ rfl _ _ _ _ _ ?_
    refine Exists.intro _ (And.intro (cw_o0 hI.1) ?_)
    refine And.intro (Exists.intro _ (cw_o1 hI.1)) (Exists.intro _ (Exists.intro _ (Exists.intro _ (Exists.intro _ (And.intro (F_X9_begin hI hs  (by omega)) (And.intro rfl (fun r9 A9 h9 => ?_)))))))
    obtain ⟨K7, dn7, q7, w7, e7, rfl, rfl, hI7, hX7, hk7, hw7, hy7, hdn7, hfm7, hz7⟩ := h9
    have hq7_0 : q 0 = q7 0 := (hX7.2.1 0 (by omega)).symm
    have hq7_nn : q nn = q7 nn := (hX7.2.1 nn (by omega)).symm
    rw [hq7_0, hq7_nn]
    have hw7_0 := congrArg Int32.toInt hw7.1
    have hw7_1 := congrArg Int32.toInt hw7.2.1
    have hw7_3 := congrArg Int32.toInt hw7.2.2.2
    have ro7 : cw_ro K7 dn7 := hI7.2.1.2.2.1
    have rn7 : cw_ro K7 nn := hI7.2.1.2.1
    have hx7 : e7 15 = e 15 := hy7.trans rfl
    have hu8 := hI7.2.1
    unfold cw_W at hu8
    replace hu8 := And.intro hu8.1 (And.intro (And.intro hu8.2.1.1 hu8.2.1.2.1) (And.intro (And.intro hu8.2.2.1.1 hu8.2.2.1.2.1) (And.intro hu8.2.2.2.1 (And.intro hu8.2.2.2.2.2.1 hu8.2.2.2.2.2.2))))
    have zs9 := cw_sz hI7 rn7
    have zs10 := cw_sz hI7 ro7
    have hz9 := hz7
    have hL7 : ∀ L, rp (w nn) (e (nn + 1)) (e (nn + 2)) L → (nn : Int) = 40 + 4 * ((w 0).toInt % 41) → nn ≠ dn7 ∧ rp (w7 nn) (e7 (nn + 1)) (e7 (nn + 2)) L := hL_b ro_nn ro7 hdn7 hfm7
    refine Exists.intro _ (And.intro (cw_o0 hI7.1) ?_)
    have k0 : (0 : Int32).toInt = 0 := rfl
    intro m11 em_33
    try have e11 : m11.toInt = (x1).toInt - (1) := by rw [em_33]; exact pm_subc _ _ (1) rfl (by omega) (by omega)
    have hp_34 := hL7
    refine And.intro (Exists.intro _ (cw_o1 hI7.1)) (Exists.intro _ (Exists.intro _ (Exists.intro _ (Exists.intro _ (And.intro (F_X9_keep hI7 hs (0 : Int32) m11 ) (And.intro rfl (fun r9 A9 h9 => ?_)))))))
    rcases h9 with ⟨w13, e13, v13, f13, rfl, hI13, hs13, hy13, rfl, by12⟩
    have hx13 : e13 15 = e 15 := hy13.trans hx7
    have zs14 := cw_sz hI13 rn7
    have zs15 := cw_sz hI13 ro7
    have hb_34 := by12.2
    have hL13 : ∀ L, rp (w nn) (e (nn + 1)) (e (nn + 2)) L → (nn : Int) = 40 + 4 * ((w 0).toInt % 41) → nn ≠ dn7 ∧ rp (w13 nn) (e13 (nn + 1)) (e13 (nn + 2)) L := hL_k hL7 rn7 ro7 hb_34.1
    have sw13_0 : (w13 0).toInt = (w 0).toInt := by12.1.1.trans hw7_0
    have sw13_1 : (w13 1).toInt = (w 1).toInt := by12.1.2.1.trans hw7_1
    have sw13_3 : (w13 3).toInt = (w 3).toInt := by12.1.2.2.trans hw7_3
    clear by12
    have lp17 : ∀ (n : Nat) (z4_40 : Int32) (w16 : Nat → Int32) (e16 : Nat → Nat → Int32) (v16 : Nat → Int32) (f16 : Nat → Nat → Int32), cw_I K7 nn dn7 q7 w16 e16 → e16 15 = e 15 → (∀ L, rp (w nn) (e (nn + 1)) (e (nn + 2)) L → (nn : Int) = 40 + 4 * ((w 0).toInt % 41) → nn ≠ dn7 ∧ rp (w16 nn) (e16 (nn + 1)) (e16 (nn + 2)) L) → cw_S v16 f16 → (0 ≤ z4_40.toInt ∧ z4_40.toInt ≤ 24) → (∀ L, rp (w nn) (e (nn + 1)) (e (nn + 2)) L → (nn : Int) = 40 + 4 * ((w 0).toInt % 41) → rp (w16 dn7) (e16 (dn7 + 1)) (e16 (dn7 + 2)) (si L 0 x1.toInt ++ st_l (si L x1.toInt (x2.toInt + 1)) z4_40.toInt.toNat)) → (w16 0).toInt = (w 0).toInt → (w16 1).toInt = (w 1).toInt → (w16 3).toInt = (w 3).toInt → 200 - z4_40.toInt < (n : Int) → J 40 [some (.ref (q7 0)), some (.int x1), some (.int x2), some (.ref (q7 nn)), some (.int z4_40)] [] (cw A0 g K7 nn dn7 q7 w16 e16 v16 f16) 4 485 := by
      intro n
      induction n with
      | zero =>
        intro z4_40 w16 e16 v16 f16 hI16 hx16 hL16 hs16 j0_40 j1_40 j2_40 j3_40 j4_40 j5_40
        clear hu8 zs9 zs10 zs14 zs15 sw13_0 sw13_1 sw13_3
        omega
      | succ n ih18 =>
        intro z4_40 w16 e16 v16 f16 hI16 hx16 hL16 hs16 j0_40 j1_40 j2_40 j3_40 j4_40 j5_40
        clear hu8 zs9 zs10 zs14 zs15 sw13_0 sw13_1 sw13_3
        have hu19 := hI16.2.1
        unfold cw_W at hu19
        replace hu19 := And.intro hu19.1 (And.intro (And.intro hu19.2.1.1 hu19.2.1.2.1) (And.intro (And.intro hu19.2.2.1.1 hu19.2.2.1.2.1) (And.intro hu19.2.2.2.1 (And.intro hu19.2.2.2.2.2.1 hu19.2.2.2.2.2.2))))
        have zs20 := cw_sz hI16 rn7
        have zs21 := cw_sz hI16 ro7
        refine hC.1 2 40 _ _ rfl _ _ _ _ _ ?_
        have k24 : (24 : Int32).toInt = 24 := rfl
        refine And.intro (fun c22 => ?_) (fun c22 => ?_)
        · skip
          refine hC.1 3 64 _ _ rfl _ _ _ _ _ ?_
          refine Exists.intro _ (And.intro (cw_o0 hI16.1) ?_)
          intro m23 em_70
          try have e23 : m23.toInt = (x2).toInt + (1) := by rw [em_70]; exact pm_addc _ _ (1) rfl (by omega) (by omega)
          refine Exists.intro _ (And.intro (cw_ro_o hI16.1 rn7) ?_)
          have z24 := cw_sz hI16 rn7
          intro m25 em_76
          try have e25 : m25.toInt = ((w16 nn)).toInt - (1) := by rw [em_76]; exact pm_subc _ _ (1) rfl (by omega) (by omega)
          have hp_77 := hL16
          refine And.intro (Exists.intro _ (cw_o1 hI16.1)) (Exists.intro _ (Exists.intro _ (Exists.intro _ (Exists.intro _ (And.intro (F_X9_keep hI16 hs16 m23 m25 ) (And.intro rfl (fun r9 A9 h9 => ?_)))))))
          rcases h9 with ⟨w27, e27, v27, f27, rfl, hI27, hs27, hy27, rfl, by26⟩
          have hx27 : e27 15 = e 15 := hy27.trans hx16
          have zs28 := cw_sz hI27 rn7
          have zs29 := cw_sz hI27 ro7
          have hb_77 := by26.2
          have hL27 : ∀ L, rp (w nn) (e (nn + 1)) (e (nn + 2)) L → (nn : Int) = 40 + 4 * ((w 0).toInt % 41) → nn ≠ dn7 ∧ rp (w27 nn) (e27 (nn + 1)) (e27 (nn + 2)) L := hL_k hL16 rn7 ro7 hb_77.1
          have sw27_0 : (w27 0).toInt = (w16 0).toInt := by26.1.1
          have sw27_1 : (w27 1).toInt = (w16 1).toInt := by26.1.2.1
          have sw27_3 : (w27 3).toInt = (w16 3).toInt := by26.1.2.2
          clear by26
          refine Exists.intro _ (And.intro (cw_o0 hI27.1) ?_)
          have hp_84 := hL27
          refine And.intro (Exists.intro _ (cw_o1 hI27.1)) (Exists.intro _ (Exists.intro _ (Exists.intro _ (Exists.intro _ (And.intro (G_X9_finish hI27 hs27  (by omega) (by omega)) (And.intro rfl (fun r9 A9 h9 => ?_)))))))
          rcases h9 with ⟨w31, e31, v31, f31, rfl, hI31, hs31, hy31, y30, rfl, by30⟩
          have hx31 : e31 15 = e 15 := hy31.trans hx27
          have hu32 := hI31.2.1.2.2.2.1
          have hu33 := hI31.2.1.2.2.2.2.1
          clear zs28 zs29
          have zs34 := cw_sz hI31 ro7
          have zs35 := cw_sz hI31 ro7
          have hb_84 := by30.2
          have sw31_1 : (w31 1).toInt = (w16 1).toInt := by30.1.1.trans sw27_1
          have sw31_3 : (w31 3).toInt = (w16 3).toInt := by30.1.2.1.trans sw27_3
          have sp31 := by30.1.2.2
          clear by30 sw27_1 sw27_3
          exact ⟨rfl, fun e9 => absurd e9 (by decide), rfl, K7, dn7, dn7, q7, w31, e31, v31, f31, rfl, hI31, hs31, hX7, hx31, y30, rfl, by first | omega | (dsimp only; omega) | trivial, by intro L hL hN; have hl := hL.1; rw [ed_sort, if_pos (by omega)]; have t2 := j1_40 L hL hN; rw [show z4_40.toInt.toNat = 24 by omega] at t2; have h6 := st_len (si L x1.toInt (x2.toInt + 1)) 24; have s1 := si_len (L := L) (a := 0) (b := x1.toInt) (by omega) (by omega) (by omega); have s2 := si_len (L := L) (a := x1.toInt) (b := x2.toInt + 1) (by omega) (by omega) (by omega); have q3 := hp_77 L hL hN; have z3 := q3.2.1; have t3 := hb_77.2 L (_) (x2.toInt + 1) (L.length) q3.2 q3.1 (by omega) (by omega) (by omega) (by omega) (by omega) (by first | omega | (simp only [List.length_append, List.length_nil, List.length_cons, List.length_map, List.length_reverse, nw_len, dr_len]; omega)) t2; have k3 := si_len (L := L) (a := x2.toInt + 1) (b := L.length) (by omega) (by omega) (by omega); exact ⟨hb_84.2.1 _ t3, by show _ = _ + (1 : Int); omega, by show _ = _ + (1 : Int) * _; omega, by omega, fun _ => hb_84.2.2⟩⟩
        · skip
          refine Exists.intro _ (And.intro (cw_o0 hI16.1) ?_)
          have hp_55 := hL16
          refine And.intro (Exists.intro _ (cw_o1 hI16.1)) (Exists.intro _ (Exists.intro _ (Exists.intro _ (Exists.intro _ (And.intro (F_X9_keepThoseOf hI16 hs16 z4_40 x1 x2 (by omega)) (And.intro rfl (fun r9 A9 h9 => ?_)))))))
          rcases h9 with ⟨w37, e37, v37, f37, rfl, hI37, hs37, hy37, rfl, by36⟩
          have hx37 : e37 15 = e 15 := hy37.trans hx16
          have zs38 := cw_sz hI37 rn7
          have zs39 := cw_sz hI37 ro7
          have hb_55 := by36.2
          have hL37 : ∀ L, rp (w nn) (e (nn + 1)) (e (nn + 2)) L → (nn : Int) = 40 + 4 * ((w 0).toInt % 41) → nn ≠ dn7 ∧ rp (w37 nn) (e37 (nn + 1)) (e37 (nn + 2)) L := hL_k hL16 rn7 ro7 hb_55.1
          have sw37_0 : (w37 0).toInt = (w16 0).toInt := by36.1.1
          have sw37_1 : (w37 1).toInt = (w16 1).toInt := by36.1.2.1
          have sw37_3 : (w37 3).toInt = (w16 3).toInt := by36.1.2.2
          clear by36
          intro m40 em_58
          try have e40 : m40.toInt = (z4_40).toInt + (1) := by rw [em_58]; exact pm_addc _ _ (1) rfl (by omega) (by omega)
          exact ih18 m40 w37 e37 v37 f37 hI37 hx37 hL37 hs37 (by omega) (by intro L hL hN; have hl := hL.1; have q2 := hp_55 L hL hN; have z2 := q2.2.1; have s2 := si_len (L := L) (a := 0) (b := x1.toInt) (by omega) (by omega) (by omega); have s3 := si_len (L := L) (a := x1.toInt) (b := x2.toInt + 1) (by omega) (by omega) (by omega); have h6 := st_len (si L x1.toInt (x2.toInt + 1)) (z4_40.toInt.toNat + 1); have h7 : st_l (si L x1.toInt (x2.toInt + 1)) (z4_40.toInt.toNat + 1) = st_l (si L x1.toInt (x2.toInt + 1)) z4_40.toInt.toNat ++ (si L x1.toInt (x2.toInt + 1)).filter (fun p => decide (p.1.toInt = z4_40.toInt)) := (by show _ ++ List.filter (fun p : pl_P => decide (p.1.toInt = ((z4_40.toInt.toNat : Nat) : Int))) _ = _; rw [show ((z4_40.toInt.toNat : Nat) : Int) = z4_40.toInt by omega]); rw [h7, List.length_append] at h6; have t2 := hb_55.2 L _ x1.toInt (x2.toInt + 1) q2.2 q2.1 rfl rfl (by omega) (by omega) (by omega) (by first | omega | (simp only [List.length_append, List.length_nil, List.length_cons, List.length_map, List.length_reverse, nw_len, dr_len]; omega)) (j1_40 L hL hN); rw [show m40.toInt.toNat = z4_40.toInt.toNat + 1 by omega, h7, ← List.append_assoc]; exact t2) (by omega) (by omega) (by omega) (by omega)
    exact lp17 (200 - (0 : Int32).toInt).toNat.succ (0 : Int32) w13 e13 v13 f13 hI13 hx13 hL13 hs13 (by omega) (by intro L hL hN; have hl := hL.1; have q1 := hp_34 L hL hN; have z1 := q1.2.1; have t1 := hb_34.2 L ([]) (0) (x1.toInt) q1.2 q1.1 (by omega) (by omega) (by omega) (by omega) (by omega) (by first | omega | (simp only [List.length_append, List.length_nil, List.length_cons, List.length_map, List.length_reverse, nw_len, dr_len]; omega)) (rp_0 hz9); have k1 := si_len (L := L) (a := 0) (b := x1.toInt) (by omega) (by omega) (by omega); rw [List.nil_append] at t1; show rp _ _ _ (_ ++ []); rw [List.append_nil]; exact t1) (by omega) (by omega) (by omega) (by omega)
  · skip
    have k0 : (0 : Int32).toInt = 0 := rfl
    refine And.intro (fun c9 => absurd c9 (by decide)) (fun _ => ?_)
    have km1 : (-1 : Int32).toInt = -1 := rfl
    exact ⟨rfl, fun e9 => absurd e9 (by decide), rfl, K, nn, dn, q, w, e, v, f, rfl, hI, hs, cw_X_r, rfl, (-1 : Int32), rfl, by first | omega | (dsimp only; omega) | trivial, by intro L hL hN; have hl := hL.1; rw [ed_sort, if_neg (by omega)]; exact ⟨hL, by show _ = _ + (0 : Int); omega, by show _ = _ + (0 : Int) * _; omega, hN, fun h8 => h8⟩⟩

set_option maxRecDepth 100000 in
set_option maxHeartbeats 2000000 in
theorem H_X10_draw (hI : cw_I K nn dn q w e) (hs : cw_S v f) (x1 : Int32) (x2 : Int32) (x3 : Int32) (p0 : (w 0).toInt < 100000) : pm_Mt l g 40 4 4 485 [.ref (q 0), .int x1, .int x2, .int x3] (cw A0 g K nn dn q w e v f) (cw_Qb A0 g K nn q (fun r K2 nn2 dn2 w2 e2 => e2 15 = e 15 ∧ (∃ x : Int32, r = some (.int x) ∧ (((w2 0).toInt ≤ (w 0).toInt + 1 ∧ (w 0).toInt ≤ (w2 0).toInt) ∧ (∀ L, rp (w nn) (e (nn + 1)) (e (nn + 2)) L → (nn : Int) = 40 + 4 * ((w 0).toInt % 41) → rp (w2 nn2) (e2 (nn2 + 1)) (e2 (nn2 + 2)) ((ed_draw L (w 1) x1 x2 x3).getD L) ∧ (w2 0).toInt = (w 0).toInt + edn (ed_draw L (w 1) x1 x2 x3) ∧ (w2 1).toInt = (w 1).toInt + edn (ed_draw L (w 1) x1 x2 x3) * (x2.toInt) ∧ (nn2 : Int) = 40 + 4 * ((w2 0).toInt % 41) ∧ (bd (w nn) (e (nn + 1)) (e (nn + 3)) → bd (w2 nn2) (e2 (nn2 + 1)) (e2 (nn2 + 3)))))))) := by
  refine mt_X10_draw rfl (fun J hC => ?_)
  have ro_nn : cw_ro K nn := hI.2.1.2.1
  have ro_dn : cw_ro K dn := hI.2.1.2.2.1
  have hu1 := hI.2.1
  unfold cw_W at hu1
  replace hu1 := And.intro hu1.1 (And.intro (And.intro hu1.2.1.1 hu1.2.1.2.1) (And.intro (And.intro hu1.2.2.1.1 hu1.2.2.1.2.1) (And.intro hu1.2.2.2.1 (And.intro hu1.2.2.2.2.2.1 hu1.2.2.2.2.2.2))))
  have zs2 := cw_sz hI ro_nn
  have zs3 := cw_sz hI ro_dn
  have rg_x1 := pm_rng x1
  have rg_x2 := pm_rng x2
  have rg_x3 := pm_rng x3
  refine hC.1 0 0 _ _ rfl _ _ _ _ _ ?_
  refine And.intro (fun c4 => ?_) (fun c4 => ?_)
  · skip
    refine hC.1 1 27 _ _ rfl _ _ _ _ _ ?_
    have k0 : (0 : Int32).toInt = 0 := rfl
    refine hC.1 2 28 _ _ rfl _ _ _ _ _ ?_
    refine And.intro (fun _ => ?_) (fun c9 => absurd c9 (by decide))
    refine hC.1 3 57 _ _ rfl _ _ _ _ _ ?_
    have km1 : (-1 : Int32).toInt = -1 := rfl
    exact ⟨rfl, fun e9 => absurd e9 (by decide), rfl, K, nn, dn, q, w, e, v, f, rfl, hI, hs, cw_X_r, rfl, (-1 : Int32), rfl, by first | omega | (dsimp only; omega) | trivial, by intro L hL hN; have hl := hL.1; rw [ed_draw, if_neg (by omega)]; exact ⟨hL, by show _ = _ + (0 : Int); omega, by show _ = _ + (0 : Int) * _; omega, hN, fun h8 => h8⟩⟩
  · skip
    have k9999 : (9999 : Int32).toInt = 9999 := rfl
    refine And.intro (fun c5 => ?_) (fun c5 => ?_)
    · skip
      refine hC.1 1 27 _ _ rfl _ _ _ _ _ ?_
      have k0 : (0 : Int32).toInt = 0 := rfl
      refine hC.1 2 28 _ _ rfl _ _ _ _ _ ?_
      refine And.intro (fun _ => ?_) (fun c9 => absurd c9 (by decide))
      refine hC.1 3 57 _ _ rfl _ _ _ _ _ ?_
      have km1 : (-1 : Int32).toInt = -1 := rfl
      exact ⟨rfl, fun e9 => absurd e9 (by decide), rfl, K, nn, dn, q, w, e, v, f, rfl, hI, hs, cw_X_r, rfl, (-1 : Int32), rfl, by first | omega | (dsimp only; omega) | trivial, by intro L hL hN; have hl := hL.1; rw [ed_draw, if_neg (by omega)]; exact ⟨hL, by show _ = _ + (0 : Int); omega, by show _ = _ + (0 : Int) * _; omega, hN, fun h8 => h8⟩⟩
    · skip
      have k1 : (1 : Int32).toInt = 1 := rfl
      refine And.intro (fun c6 => ?_) (fun c6 => ?_)
      · skip
        refine hC.1 1 27 _ _ rfl _ _ _ _ _ ?_
        have k0 : (0 : Int32).toInt = 0 := rfl
        refine hC.1 2 28 _ _ rfl _ _ _ _ _ ?_
        refine And.intro (fun _ => ?_) (fun c9 => absurd c9 (by decide))
        refine hC.1 3 57 _ _ rfl _ _ _ _ _ ?_
        have km1 : (-1 : Int32).toInt = -1 := rfl
        exact ⟨rfl, fun e9 => absurd e9 (by decide), rfl, K, nn, dn, q, w, e, v, f, rfl, hI, hs, cw_X_r, rfl, (-1 : Int32), rfl, by first | omega | (dsimp only; omega) | trivial, by intro L hL hN; have hl := hL.1; rw [ed_draw, if_neg (by omega)]; exact ⟨hL, by show _ = _ + (0 : Int); omega, by show _ = _ + (0 : Int) * _; omega, hN, fun h8 => h8⟩⟩
      · skip
        have k160 : (160 : Int32).toInt = 160 := rfl
        refine And.intro (fun c7 => ?_) (fun c7 => ?_)
        · skip
          refine hC.1 1 27 _ _ rfl _ _ _ _ _ ?_
          have k0 : (0 : Int32).toInt = 0 := rfl
          refine hC.1 2 28 _ _ rfl _ _ _ _ _ ?_
          refine And.intro (fun _ => ?_) (fun c9 => absurd c9 (by decide))
          refine hC.1 3 57 _ _ rfl _ _ _ _ _ ?_
          have km1 : (-1 : Int32).toInt = -1 := rfl
          exact ⟨rfl, fun e9 => absurd e9 (by decide), rfl, K, nn, dn, q, w, e, v, f, rfl, hI, hs, cw_X_r, rfl, (-1 : Int32), rfl, by first | omega | (dsimp only; omega) | trivial, by intro L hL hN; have hl := hL.1; rw [ed_draw, if_neg (by omega)]; exact ⟨hL, by show _ = _ + (0 : Int); omega, by show _ = _ + (0 : Int) * _; omega, hN, fun h8 => h8⟩⟩
        · skip
          refine hC.1 2 28 _ _ rfl _ _ _ _ _ ?_
          refine And.intro (fun c9 => absurd c9 (by decide)) (fun _ => ?_)
          refine And.intro (fun c8 => ?_) (fun c8 => ?_)
          · skip
            refine hC.1 3 57 _ _ rfl _ _ _ _ _ ?_
            have km1 : (-1 : Int32).toInt = -1 := rfl
            exact ⟨rfl, fun e9 => absurd e9 (by decide), rfl, K, nn, dn, q, w, e, v, f, rfl, hI, hs, cw_X_r, rfl, (-1 : Int32), rfl, by first | omega | (dsimp only; omega) | trivial, by intro L hL hN; have hl := hL.1; rw [ed_draw, if_neg (by omega)]; exact ⟨hL, by show _ = _ + (0 : Int); omega, by show _ = _ + (0 : Int) * _; omega, hN, fun h8 => h8⟩⟩
          · skip
            have k24 : (24 : Int32).toInt = 24 := rfl
            refine And.intro (fun c9 => ?_) (fun c9 => ?_)
            · skip
              refine hC.1 3 57 _ _ rfl _ _ _ _ _ ?_
              have km1 : (-1 : Int32).toInt = -1 := rfl
              exact ⟨rfl, fun e9 => absurd e9 (by decide), rfl, K, nn, dn, q, w, e, v, f, rfl, hI, hs, cw_X_r, rfl, (-1 : Int32), rfl, by first | omega | (dsimp only; omega) | trivial, by intro L hL hN; have hl := hL.1; rw [ed_draw, if_neg (by omega)]; exact ⟨hL, by show _ = _ + (0 : Int); omega, by show _ = _ + (0 : Int) * _; omega, hN, fun h8 => h8⟩⟩
            · skip
              refine Exists.intro _ (And.intro (cw_o0 hI.1) ?_)
              refine And.intro (Exists.intro _ (cw_o1 hI.1)) (Exists.intro _ (Exists.intro _ (Exists.intro _ (Exists.intro _ (And.intro (c_X9_hasRoomFor hI hs x2 (by omega)) (And.intro rfl (fun r9 A9 h9 => ?_)))))))
              rcases h9 with ⟨y10, rfl, rfl, ⟨rfl, by10⟩ | ⟨rfl, by10⟩⟩
              · skip
                refine And.intro (fun _ => ?_) (fun c9 => absurd c9 (by decide))
                refine hC.1 4 59 _ _ rfl _ _ _ _ _ ?_
                refine Exists.intro _ (And.intro (cw_o0 hI.1) ?_)
                refine And.intro (Exists.intro _ (cw_o1 hI.1)) (Exists.intro _ (Exists.intro _ (Exists.intro _ (Exists.intro _ (And.intro (F_X9_begin hI hs  (by omega)) (And.intro rfl (fun r9 A9 h9 => ?_)))))))
                obtain ⟨K13, dn13, q13, w13, e13, rfl, rfl, hI13, hX13, hk13, hw13, hy13, hdn13, hfm13, hz13⟩ := h9
                have hq13_0 : q 0 = q13 0 := (hX13.2.1 0 (by omega)).symm
                rw [hq13_0]
                have hw13_0 := congrArg Int32.toInt hw13.1
                have hw13_1 := congrArg Int32.toInt hw13.2.1
                have hw13_3 := congrArg Int32.toInt hw13.2.2.2
                have ro13 : cw_ro K13 dn13 := hI13.2.1.2.2.1
                have rn13 : cw_ro K13 nn := hI13.2.1.2.1
                have hx13 : e13 15 = e 15 := hy13.trans rfl
                have hu14 := hI13.2.1
                unfold cw_W at hu14
                replace hu14 := And.intro hu14.1 (And.intro (And.intro hu14.2.1.1 hu14.2.1.2.1) (And.intro (And.intro hu14.2.2.1.1 hu14.2.2.1.2.1) (And.intro hu14.2.2.2.1 (And.intro hu14.2.2.2.2.2.1 hu14.2.2.2.2.2.2))))
                have zs15 := cw_sz hI13 rn13
                have zs16 := cw_sz hI13 ro13
                have hz9 := hz13
                have hL13 : ∀ L, rp (w nn) (e (nn + 1)) (e (nn + 2)) L → (nn : Int) = 40 + 4 * ((w 0).toInt % 41) → nn ≠ dn13 ∧ rp (w13 nn) (e13 (nn + 1)) (e13 (nn + 2)) L := hL_b ro_nn ro13 hdn13 hfm13
                refine Exists.intro _ (And.intro (cw_o0 hI13.1) ?_)
                have k0 : (0 : Int32).toInt = 0 := rfl
                refine Exists.intro _ (And.intro (cw_o0 hI13.1) ?_)
                refine Exists.intro _ (And.intro (cw_o1 hI13.1) ?_)
                refine Exists.intro _ (And.intro (cw_ro_o hI13.1 rn13) ?_)
                have z17 := cw_sz hI13 rn13
                intro m18 em_82
                try have e18 : m18.toInt = ((w13 nn)).toInt - (1) := by rw [em_82]; exact pm_subc _ _ (1) rfl (by omega) (by omega)
                have hp_83 := hL13
                refine And.intro (Exists.intro _ (cw_o1 hI13.1)) (Exists.intro _ (Exists.intro _ (Exists.intro _ (Exists.intro _ (And.intro (F_X9_keep hI13 hs (0 : Int32) m18 ) (And.intro rfl (fun r9 A9 h9 => ?_)))))))
                rcases h9 with ⟨w20, e20, v20, f20, rfl, hI20, hs20, hy20, rfl, by19⟩
                have hx20 : e20 15 = e 15 := hy20.trans hx13
                have zs21 := cw_sz hI20 rn13
                have zs22 := cw_sz hI20 ro13
                have hb_83 := by19.2
                have hL20 : ∀ L, rp (w nn) (e (nn + 1)) (e (nn + 2)) L → (nn : Int) = 40 + 4 * ((w 0).toInt % 41) → nn ≠ dn13 ∧ rp (w20 nn) (e20 (nn + 1)) (e20 (nn + 2)) L := hL_k hL13 rn13 ro13 hb_83.1
                have sw20_0 : (w20 0).toInt = (w 0).toInt := by19.1.1.trans hw13_0
                have sw20_1 : (w20 1).toInt = (w 1).toInt := by19.1.2.1.trans hw13_1
                have sw20_3 : (w20 3).toInt = (w 3).toInt := by19.1.2.2.trans hw13_3
                clear by19
                have lp24 : ∀ (n : Nat) (z5_92 : Int32) (z6_92 : Int32) (w23 : Nat → Int32) (e23 : Nat → Nat → Int32) (v23 : Nat → Int32) (f23 : Nat → Nat → Int32), cw_I K13 nn dn13 q13 w23 e23 → e23 15 = e 15 → (∀ L, rp (w nn) (e (nn + 1)) (e (nn + 2)) L → (nn : Int) = 40 + 4 * ((w 0).toInt % 41) → nn ≠ dn13 ∧ rp (w23 nn) (e23 (nn + 1)) (e23 (nn + 2)) L) → cw_S v23 f23 → (0 ≤ z6_92.toInt ∧ z6_92.toInt ≤ x2.toInt) → (0 ≤ z5_92.toInt ∧ z5_92.toInt ≤ 10006) → ((w23 1).toInt = (w 1).toInt + z6_92.toInt) → (z5_92.toInt = ds x1.toInt z6_92.toInt.toNat) → (∀ L, rp (w nn) (e (nn + 1)) (e (nn + 2)) L → (nn : Int) = 40 + 4 * ((w 0).toInt % 41) → rp (w23 dn13) (e23 (dn13 + 1)) (e23 (dn13 + 2)) (L ++ nw_l (w 1) (dr_l x1.toInt x3.toInt z6_92.toInt.toNat))) → (w23 0).toInt = (w 0).toInt → (w23 3).toInt = (w 3).toInt → 200 - z6_92.toInt < (n : Int) → J 92 [some (.ref (q13 0)), some (.int x1), some (.int x2), some (.int x3), some (.int (1 : Int32)), some (.int z5_92), some (.int z6_92)] [] (cw A0 g K13 nn dn13 q13 w23 e23 v23 f23) 4 485 := by
                  intro n
                  induction n with
                  | zero =>
                    intro z5_92 z6_92 w23 e23 v23 f23 hI23 hx23 hL23 hs23 j0_92 j1_92 j2_92 j3_92 j4_92 j5_92 j6_92 j7_92
                    clear hu14 zs15 zs16 zs21 zs22 sw20_0 sw20_1 sw20_3
                    omega
                  | succ n ih25 =>
                    intro z5_92 z6_92 w23 e23 v23 f23 hI23 hx23 hL23 hs23 j0_92 j1_92 j2_92 j3_92 j4_92 j5_92 j6_92 j7_92
                    clear hu14 zs15 zs16 zs21 zs22 sw20_0 sw20_1 sw20_3
                    obtain ⟨g92, eg92⟩ : ∃ z9, z9 = w23 1 := ⟨_, rfl⟩
                    have hu26 := hI23.2.1
                    unfold cw_W at hu26
                    replace hu26 := And.intro hu26.1 (And.intro (And.intro hu26.2.1.1 hu26.2.1.2.1) (And.intro (And.intro hu26.2.2.1.1 hu26.2.2.1.2.1) (And.intro hu26.2.2.2.1 (And.intro hu26.2.2.2.2.2.1 hu26.2.2.2.2.2.2))))
                    have zs27 := cw_sz hI23 rn13
                    have zs28 := cw_sz hI23 ro13
                    refine hC.1 5 92 _ _ rfl _ _ _ _ _ ?_
                    refine And.intro (fun c29 => ?_) (fun c29 => ?_)
                    · skip
                      refine hC.1 6 130 _ _ rfl _ _ _ _ _ ?_
                      refine Exists.intro _ (And.intro (cw_o0 hI23.1) ?_)
                      have hp_134 := hL23
                      refine And.intro (Exists.intro _ (cw_o1 hI23.1)) (Exists.intro _ (Exists.intro _ (Exists.intro _ (Exists.intro _ (And.intro (G_X9_finish hI23 hs23  (by omega) (by omega)) (And.intro rfl (fun r9 A9 h9 => ?_)))))))
                      rcases h9 with ⟨w31, e31, v31, f31, rfl, hI31, hs31, hy31, y30, rfl, by30⟩
                      have hx31 : e31 15 = e 15 := hy31.trans hx23
                      have hu32 := hI31.2.1.2.2.2.1
                      have hu33 := hI31.2.1.2.2.2.2.1
                      have zs34 := cw_sz hI31 ro13
                      have zs35 := cw_sz hI31 ro13
                      have hb_134 := by30.2
                      have sw31_1 : (w31 1).toInt = (w23 1).toInt := by30.1.1
                      have sw31_3 : (w31 3).toInt = (w23 3).toInt := by30.1.2.1
                      have sp31 := by30.1.2.2
                      clear by30
                      exact ⟨rfl, fun e9 => absurd e9 (by decide), rfl, K13, dn13, dn13, q13, w31, e31, v31, f31, rfl, hI31, hs31, hX13, hx31, y30, rfl, by first | omega | (dsimp only; omega) | trivial, by intro L hL hN; have hl := hL.1; rw [ed_draw, if_pos (by omega)]; have t2 := j4_92 L hL hN; rw [show z6_92.toInt.toNat = x2.toInt.toNat by omega] at t2; exact ⟨hb_134.2.1 _ t2, by show _ = _ + (1 : Int); omega, by show _ = _ + (1 : Int) * _; omega, by omega, fun _ => hb_134.2.2⟩⟩
                    · skip
                      have k137 : (137 : Int32).toInt = 137 := rfl
                      intro m36 em_103
                      try have e36 : m36.toInt = (z5_92).toInt * (137) := by rw [em_103]; exact pm_mulc _ _ (137) rfl (by omega) (by omega)
                      have k71 : (71 : Int32).toInt = 71 := rfl
                      intro m37 em_106
                      try have e37 : m37.toInt = (m36).toInt + (71) := by rw [em_106]; exact pm_addc _ _ (71) rfl (by omega) (by omega)
                      have k10007 : (10007 : Int32).toInt = 10007 := rfl
                      refine And.intro (by decide) ?_
                      intro m38 em_110
                      have e38 : 0 ≤ m38.toInt ∧ m38.toInt < 10007 ∧ m38.toInt = (m37).toInt % 10007 := by rw [em_110]; exact pm_remc _ _ 10007 rfl (by omega) (by decide)
                      have hd1 : ds x1.toInt (z6_92.toInt.toNat + 1) = m38.toInt := by show (137 * ds x1.toInt z6_92.toInt.toNat + 71) % 10007 = _; rw [← j3_92]; omega
                      refine Exists.intro _ (And.intro (cw_o0 hI23.1) ?_)
                      refine And.intro (fun e9 => by have e8 := congrArg Int32.toInt e9; have e7 : (0 : Int32).toInt = 0 := rfl; omega) ?_
                      intro m39 em_120
                      try have e39 := pm_rem m38 x3 (by omega) (by omega)
                      try rw [← em_120] at e39
                      obtain ⟨cc9, hcc9⟩ : ∃ z9, z9 = m39 := ⟨_, rfl⟩
                      have ecc := pm_rem m38 x3 (by omega) (by omega)
                      rw [← em_120, ← hcc9] at ecc
                      have hp_121 := hL23
                      refine And.intro (Exists.intro _ (cw_o1 hI23.1)) (Exists.intro _ (Exists.intro _ (Exists.intro _ (Exists.intro _ (And.intro (F_X9_add hI23 hs23 m39 (by omega) (by omega)) (And.intro rfl (fun r9 A9 h9 => ?_)))))))
                      rcases h9 with ⟨w41, e41, v41, f41, rfl, hI41, hs41, hy41, rfl, by40⟩
                      have hx41 : e41 15 = e 15 := hy41.trans hx23
                      have hu42 := hI41.2.1.2.2.2.2.2.1
                      have zs43 := cw_sz hI41 rn13
                      have zs44 := cw_sz hI41 ro13
                      have hb_121 := by40.2
                      have hL41 : ∀ L, rp (w nn) (e (nn + 1)) (e (nn + 2)) L → (nn : Int) = 40 + 4 * ((w 0).toInt % 41) → nn ≠ dn13 ∧ rp (w41 nn) (e41 (nn + 1)) (e41 (nn + 2)) L := hL_k hL23 rn13 ro13 hb_121.1
                      have sw41_0 : (w41 0).toInt = (w23 0).toInt := by40.1.1
                      have sw41_3 : (w41 3).toInt = (w23 3).toInt := by40.1.2.1
                      have sp41 := by40.1.2.2
                      clear by40
                      intro m45 em_124
                      try have e45 : m45.toInt = (z6_92).toInt + (1) := by rw [em_124]; exact pm_addc _ _ (1) rfl (by omega) (by omega)
                      exact ih25 m38 m45 w41 e41 v41 f41 hI41 hx41 hL41 hs41 (by omega) (by omega) (by omega) (by rw [show m45.toInt.toNat = z6_92.toInt.toNat + 1 by omega, hd1]) (by intro L hL hN; have hl := hL.1; have t2 := hb_121.2 _ (j4_92 L hL hN) (by first | omega | (simp only [List.length_append, List.length_nil, List.length_cons, List.length_map, List.length_reverse, nw_len, dr_len]; omega)); rw [← eg92] at t2; have h5 : Int32.ofInt (m38.toInt % x3.toInt) = cc9 := (by rw [← ecc.2.2, Int32.ofInt_toInt]); rw [show m45.toInt.toNat = z6_92.toInt.toNat + 1 by omega, dr_s, hd1, nw_app (g2 := g92) (by rw [eg92, dr_len]; omega) (by rw [dr_len]; omega), ← List.append_assoc, h5, hcc9]; exact t2) (by omega) (by omega) (by omega)
                exact lp24 (200 - (0 : Int32).toInt).toNat.succ x1 (0 : Int32) w20 e20 v20 f20 hI20 hx20 hL20 hs20 (by omega) (by omega) (by omega) (by rfl) (by intro L hL hN; have hl := hL.1; have q1 := hp_83 L hL hN; have z1 := q1.2.1; have t1 := hb_83.2 L ([]) (0) (L.length) q1.2 q1.1 (by omega) (by omega) (by omega) (by omega) (by omega) (by first | omega | (simp only [List.length_append, List.length_nil, List.length_cons, List.length_map, List.length_reverse, nw_len, dr_len]; omega)) (rp_0 hz9); have k1 := si_len (L := L) (a := 0) (b := L.length) (by omega) (by omega) (by omega); rw [List.nil_append] at t1; rw [si_all] at t1; show rp _ _ _ (L ++ []); rw [List.append_nil]; exact t1) (by omega) (by omega) (by omega)
              · skip
                have k0 : (0 : Int32).toInt = 0 := rfl
                refine And.intro (fun c9 => absurd c9 (by decide)) (fun _ => ?_)
                refine hC.1 3 57 _ _ rfl _ _ _ _ _ ?_
                have km1 : (-1 : Int32).toInt = -1 := rfl
                exact ⟨rfl, fun e9 => absurd e9 (by decide), rfl, K, nn, dn, q, w, e, v, f, rfl, hI, hs, cw_X_r, rfl, (-1 : Int32), rfl, by first | omega | (dsimp only; omega) | trivial, by intro L hL hN; have hl := hL.1; rw [ed_draw, if_neg (by omega)]; exact ⟨hL, by show _ = _ + (0 : Int); omega, by show _ = _ + (0 : Int) * _; omega, hN, fun h8 => h8⟩⟩

end
end
section
/-! what is told of a row, as functions of its colours c, names m, number n: at, colour, close -/
theorem lastEq_eq {c d : Nat → Int32} {x : Int32} : ∀ k : Nat, (∀ j, j < k → c j = d j) → lastEq c x k = lastEq d x k
  | 0, _ => rfl
  | k + 1, h => by
    have ih := lastEq_eq (x := x) k (fun j hj => h j (by omega))
    show (if c k = x then (k : Int) else lastEq c x k) = (if d k = x then (k : Int) else lastEq d x k)
    rw [h k (by omega), ih]
theorem nextEq_eq {c d : Nat → Int32} {x : Int32} : ∀ n k : Nat, (∀ j, j < k + n → c j = d j) → nextEq c x k n = nextEq d x k n
  | 0, _, _ => rfl
  | n + 1, k, h => by
    have ih := nextEq_eq (x := x) n (k + 1) (fun j hj => h j (by omega))
    show (if c k = x then (k : Int) else nextEq c x (k + 1) n) = (if d k = x then (k : Int) else nextEq d x (k + 1) n)
    rw [h k (by omega), ih]
end
section
/-! bits counted; counts of a span's colours; the palette -/
theorem pc_low : ∀ (N m : Nat), m ≤ N → m ≠ 0 → ∃ i, m.testBit i = true ∧ ∀ j, (m.testBit j && (m - 1).testBit j) = (decide (j ≠ i) && m.testBit j) := by
  intro N
  induction N with
  | zero => intro m h1 h2; omega
  | succ N ih =>
    intro m h1 h2
    by_cases ho : m % 2 = 1
    · refine ⟨0, by rw [Nat.testBit_zero]; exact decide_eq_true ho, fun j => ?_⟩
      cases j with
      | zero => rw [Nat.testBit_zero, Nat.testBit_zero, decide_eq_false (show ¬ (m - 1) % 2 = 1 by omega)]; simp
      | succ j => rw [Nat.testBit_succ, Nat.testBit_succ, show (m - 1) / 2 = m / 2 by omega]; simp
    · obtain ⟨i, hi, hj⟩ := ih (m / 2) (by omega) (by omega)
      refine ⟨i + 1, by rw [Nat.testBit_succ]; exact hi, fun j => ?_⟩
      cases j with
      | zero => rw [Nat.testBit_zero, decide_eq_false ho]; simp
      | succ j =>
        rw [Nat.testBit_succ, Nat.testBit_succ, show (m - 1) / 2 = m / 2 - 1 by omega, hj j]
        simp
theorem bt_m1 {x : Int32} (h : ¬ x = 0) : ∃ i, i < 32 ∧ bt x i = true ∧ ∀ j, bt (x &&& (x - 1)) j = (decide (j ≠ i) && bt x j) := by
  have h0 : x.toBitVec ≠ 0 := fun q => h (by
    have : x = ⟨⟨x.toBitVec⟩⟩ := rfl
    rw [this, q]; rfl)
  have h3 : x.toBitVec.toNat ≠ 0 := fun q => h0 (BitVec.eq_of_toNat_eq (by simpa using q))
  have h4 : (x.toBitVec - 1).toNat = x.toBitVec.toNat - 1 := by
    rw [BitVec.toNat_sub]
    have := x.toBitVec.isLt
    have h5 : (1 : BitVec 32).toNat = 1 := rfl
    rw [h5]
    omega
  obtain ⟨i, hi, hj⟩ := pc_low _ x.toBitVec.toNat (Nat.le_refl _) h3
  have hb : ∀ j, bt x j = x.toBitVec.toNat.testBit j := fun j => (BitVec.testBit_toNat _).symm
  have hb1 : ∀ j, bt (x - 1) j = (x.toBitVec.toNat - 1).testBit j := fun j => by
    rw [← h4, BitVec.testBit_toNat]; rfl
  refine ⟨i, ?_, by rw [hb]; exact hi, fun j => ?_⟩
  · by_cases h9 : i < 32
    · exact h9
    · have h8 := hb i
      rw [b_big (by omega), hi] at h8
      exact absurd h8 (by decide)
  · rw [b_and, hb1, hb]; exact hj j
theorem cntB_clr {x y : Int32} {i : Nat} (hx : bt x i = true) (h : ∀ j, bt y j = (decide (j ≠ i) && bt x j)) : ∀ k, cntB y k + (if i < k then 1 else 0) = cntB x k
  | 0 => by rw [if_neg (by omega)]; rfl
  | k + 1 => by
    have ih := cntB_clr hx h k
    rw [cntB, cntB]
    by_cases e : k = i
    · have hy : bt y k = false := by rw [h k, decide_eq_false (fun h9 => h9 e)]; rfl
      rw [hy, show bt x k = true by rw [e]; exact hx, if_neg (by decide), if_pos rfl, if_pos (by omega)]
      rw [if_neg (by omega)] at ih
      omega
    · have hy : bt y k = bt x k := by rw [h k, decide_eq_true e]; rfl
      rw [hy]
      obtain ⟨z, hz⟩ : ∃ z : Nat, z = (if bt x k = true then 1 else 0) := ⟨_, rfl⟩
      rw [← hz]
      by_cases e2 : i < k
      · rw [if_pos e2] at ih; rw [if_pos (by omega)]; omega
      · rw [if_neg e2] at ih; rw [if_neg (by omega)]; omega
theorem pcB {x : Int32} (h : ¬ x = 0) : cntB (x &&& (x - 1)) 32 + 1 = cntB x 32 := by
  obtain ⟨i, hi, h1, h2⟩ := bt_m1 h
  have h3 := cntB_clr h1 h2 32
  rw [if_pos hi] at h3
  exact h3
theorem cntB_z : ∀ k, cntB 0 k = 0
  | 0 => rfl
  | k + 1 => by rw [cntB, cntB_z k, b_0, if_neg (by decide)]
theorem b_y1 {x c : Int32} (h : 0 ≤ c.toInt ∧ c.toInt ≤ 31) (hb : ((x >>> (c &&& 31)) &&& 1) = 1) : bt x c.toInt.toNat = true := b_y h (by rw [hb]; decide)
noncomputable def ok24 (c : Nat → Int32) : Prop := ∀ j, 0 ≤ (c j).toInt ∧ (c j).toInt ≤ 23
end
section
/-! colours by their bits: the k-th, those with more than a part -/
noncomputable def bf (s : Int32) (j : Nat) : Int32 := if bt s j = true then 1 else 0
theorem bf_1 {s : Int32} {j : Nat} : bf s j = 1 ↔ bt s j = true := by
  unfold bf
  by_cases h : bt s j = true
  · rw [if_pos h]; exact ⟨fun _ => h, fun _ => rfl⟩
  · rw [if_neg h]; exact ⟨fun e => absurd e (by decide), fun e => absurd e h⟩
theorem an_1 {s c : Int32} (h : 0 ≤ c.toInt ∧ c.toInt ≤ 31) : s &&& ((1 : Int32) <<< (c &&& 31)) = 0 ↔ bt s c.toInt.toNat = false := by
  constructor
  · intro e
    have h1 := b_and s ((1 : Int32) <<< (c &&& 31)) c.toInt.toNat
    rw [e, b_0, b_one h (by omega), decide_eq_true rfl, Bool.and_true] at h1
    exact h1.symm
  · intro e
    refine b_ext (fun i hi => ?_)
    rw [b_and, b_one h hi, b_0]
    by_cases q : i = c.toInt.toNat
    · rw [q, e]; rfl
    · rw [decide_eq_false q, Bool.and_false]
theorem by1 {s c : Int32} (h : 0 ≤ c.toInt ∧ c.toInt ≤ 31) (e : ¬ s &&& ((1 : Int32) <<< (c &&& 31)) = 0) : bf s c.toInt.toNat = 1 := by
  refine bf_1.mpr ?_
  cases q : bt s c.toInt.toNat with
  | true => rfl
  | false => exact absurd ((an_1 h).mpr q) e
end
section
/-! two colours that stand nearest -/
theorem lastEq_ge {c : Nat → Int32} {x : Int32} : ∀ (k j : Nat), j < k → c j = x → (j : Int) ≤ lastEq c x k
  | 0, j, h, _ => by omega
  | k + 1, j, h, e => by
    show (j : Int) ≤ (if c k = x then (k : Int) else lastEq c x k)
    by_cases q : c k = x
    · rw [if_pos q]; omega
    · rw [if_neg q]
      by_cases r : j = k
      · subst r; exact absurd e q
      · exact lastEq_ge k j (by omega) e
theorem lastEq_is {c : Nat → Int32} {x : Int32} : ∀ k : Nat, 0 ≤ lastEq c x k → c (lastEq c x k).toNat = x
  | 0, h => absurd (show (0 : Int) ≤ -1 from h) (by decide)
  | k + 1, h => by
    by_cases q : c k = x
    · rw [lastEq_y q]; exact q
    · rw [lastEq_n q] at h ⊢; exact lastEq_is k h
theorem nextEq_is {c : Nat → Int32} {x : Int32} : ∀ n k : Nat, 0 ≤ nextEq c x k n → c (nextEq c x k n).toNat = x
  | 0, k, h => absurd (show (0 : Int) ≤ -1 from h) (by decide)
  | n + 1, k, h => by
    by_cases q : c k = x
    · have e : nextEq c x k (n + 1) = (k : Int) := if_pos q
      rw [e]; exact q
    · have e : nextEq c x k (n + 1) = nextEq c x (k + 1) n := if_neg q
      rw [e] at h ⊢; exact nextEq_is n (k + 1) h
theorem nextEq_le {c : Nat → Int32} {x : Int32} : ∀ (n k j : Nat), k ≤ j → j < k + n → c j = x → 0 ≤ nextEq c x k n ∧ nextEq c x k n ≤ (j : Int)
  | 0, _, _, h1, h2, _ => by omega
  | n + 1, k, j, h1, h2, h3 => by
    by_cases q : c k = x
    · have e : nextEq c x k (n + 1) = (k : Int) := if_pos q
      rw [e]; omega
    · have e : nextEq c x k (n + 1) = nextEq c x (k + 1) n := if_neg q
      rw [e]
      by_cases r : j = k
      · subst r; exact absurd h3 q
      · exact nextEq_le n (k + 1) j (by omega) (by omega) h3
end
section
section
variable {l : Launch} {g : pm_G} {A0 : pm_H} {h : Nat} {q : Nat → Nat}
set_option maxRecDepth 100000 in
set_option maxHeartbeats 2000000 in
theorem F_X11_bits (A : pm_H) (x0 : Int32)  : pm_Mt l g 207 0 0 0 [.int x0] A (md_Qp A (fun r => r.toInt = (cntB x0 32 : Int))) := by
  refine mt_X11_bits rfl (fun J hC => ?_)
  have rg_x0 := pm_rng x0
  have cl9 := cntB_le x0 32
  refine hC.1 0 0 _ _ rfl _ _ _ _ _ ?_
  have k0 : (0 : Int32).toInt = 0 := rfl
  have lp1 : ∀ (n : Nat) (z1_4 : Int32) (z2_4 : Int32), (0 ≤ z1_4.toInt) → (z1_4.toInt + (cntB z2_4 32 : Int) = (cntB x0 32 : Int)) → (z2_4.toBitVec.toNat : Int) < (n : Int) → J 4 [some (.int x0), some (.int z1_4), some (.int z2_4)] [] A 0 0 := by
    intro n
    induction n with
    | zero =>
      intro z1_4 z2_4 j0_4 j1_4 j2_4
      omega
    | succ n ih2 =>
      intro z1_4 z2_4 j0_4 j1_4 j2_4
      refine hC.1 1 4 _ _ rfl _ _ _ _ _ ?_
      refine And.intro (fun c3 => ?_) (fun c3 => ?_)
      · skip
        have dc3 : (z2_4).toInt = (0 : Int32).toInt := congrArg Int32.toInt c3
        refine hC.1 2 20 _ _ rfl _ _ _ _ _ ?_
        exact ⟨rfl, fun e9 => absurd e9 (by decide), rfl, z1_4, rfl, rfl, by have h8 : cntB z2_4 32 = 0 := (by rw [show z2_4 = 0 by assumption]; exact cntB_z 32); omega⟩
      · skip
        have dc3 := pm_neI c3
        have k1 : (1 : Int32).toInt = 1 := rfl
        intro m4 em_8
        try have e4 : m4.toInt = (z1_4).toInt + (1) := by rw [em_8]; exact pm_addc _ _ (1) rfl (by omega) (by omega)
        intro m5 em_14
        exact ih2 m4 (z2_4 &&& m5) (by omega) (by have h8 := pcB (x := z2_4) (by assumption); rw [← em_14] at h8; omega) (by have h1 := pm_bits_lt (x := z2_4) (by assumption); rw [em_14]; omega)
  exact lp1 ((x0.toBitVec.toNat : Int)).toNat.succ (0 : Int32) x0 (by omega) (by omega) (by omega)

end
end
section
section
variable {l : Launch} {g : pm_G} {A0 : pm_H} {h : Nat} {q : Nat → Nat}
set_option maxRecDepth 100000 in
set_option maxHeartbeats 2000000 in
theorem F_X11_nextBehind (D : md_D h q) (v : Nat → Int32) (f : Nat → Nat → Int32) (hv : md_V v) (hf : md_F f) (x1 : Int32) (x2 : Int32) (p0 : 0 ≤ x2.toInt ∧ x2.toInt < (v 0).toInt) : pm_Mt l g 247 0 0 0 [.ref h, .int x1, .int x2] (md A0 g h q v f) (md_Qp (md A0 g h q v f) (fun r => (nextEq (f 0) x1 (x2.toInt + 1).toNat ((v 0).toInt - (x2.toInt + 1)).toNat = -1 ∧ r.toInt = 268435456) ∨ (0 ≤ nextEq (f 0) x1 (x2.toInt + 1).toNat ((v 0).toInt - (x2.toInt + 1)).toNat ∧ r.toInt = nextEq (f 0) x1 (x2.toInt + 1).toNat ((v 0).toInt - (x2.toInt + 1)).toNat))) := by
  refine mt_X11_nextBehind rfl (fun J hC => ?_)
  have hv9 := hv
  unfold md_V at hv9
  have rg_x1 := pm_rng x1
  have rg_x2 := pm_rng x2
  refine hC.1 0 0 _ _ rfl _ _ _ _ _ ?_
  have k1 : (1 : Int32).toInt = 1 := rfl
  intro m1 em_2
  try have e1 : m1.toInt = (x2).toInt + (1) := by rw [em_2]; exact pm_addc _ _ (1) rfl (by omega) (by omega)
  have lp2 : ∀ (n : Nat) (z3_4 : Int32), (x2.toInt + 1 ≤ z3_4.toInt ∧ z3_4.toInt ≤ (v 0).toInt) → (nextEq (f 0) x1 (x2.toInt + 1).toNat ((v 0).toInt - (x2.toInt + 1)).toNat = nextEq (f 0) x1 z3_4.toInt.toNat ((v 0).toInt - z3_4.toInt).toNat) → 200 - z3_4.toInt < (n : Int) → J 4 [some (.ref h), some (.int x1), some (.int x2), some (.int z3_4)] [] (md A0 g h q v f) 0 0 := by
    intro n
    induction n with
    | zero =>
      intro z3_4 j0_4 j1_4 j2_4
      omega
    | succ n ih3 =>
      intro z3_4 j0_4 j1_4 j2_4
      refine hC.1 1 4 _ _ rfl _ _ _ _ _ ?_
      refine Exists.intro _ (And.intro md_o ?_)
      refine And.intro (fun c4 => ?_) (fun c4 => ?_)
      · skip
        refine hC.1 3 30 _ _ rfl _ _ _ _ _ ?_
        have k268435456 : (268435456 : Int32).toInt = 268435456 := rfl
        exact ⟨rfl, fun e9 => absurd e9 (by decide), rfl, (268435456 : Int32), rfl, rfl, by have h9 : nextEq (f 0) x1 (x2.toInt + 1).toNat ((v 0).toInt - (x2.toInt + 1)).toNat = -1 := (by rw [j1_4, show ((v 0).toInt - z3_4.toInt).toNat = 0 by omega]; rfl); exact Or.inl ⟨h9, rfl⟩⟩
      · skip
        refine Exists.intro _ (And.intro md_o ?_)
        refine Exists.intro _ (Exists.intro _ (And.intro (Or.inl (md_a_colours D)) (And.intro (by omega) ?_)))
        have w5 : (0 : Int) ≤ (f 0 (z3_4).toInt.toNat).toInt ∧ (f 0 (z3_4).toInt.toNat).toInt ≤ (23 : Int) := hf 0 _
        refine And.intro (fun c6 => ?_) (fun c6 => ?_)
        · skip
          have dc6 := pm_neI c6
          refine hC.1 2 24 _ _ rfl _ _ _ _ _ ?_
          intro m7 em_24
          try have e7 : m7.toInt = (z3_4).toInt + (1) := by rw [em_24]; exact pm_addc _ _ (1) rfl (by omega) (by omega)
          exact ih3 m7 (by omega) (by rw [j1_4, nextEq_s (by omega) (by omega), if_neg (by assumption)]; congr 1 <;> omega) (by omega)
        · skip
          have dc6 : ((f 0 (z3_4).toInt.toNat)).toInt = (x1 : Int32).toInt := congrArg Int32.toInt c6
          exact ⟨rfl, fun e9 => absurd e9 (by decide), rfl, z3_4, rfl, rfl, by have h9 : nextEq (f 0) x1 (x2.toInt + 1).toNat ((v 0).toInt - (x2.toInt + 1)).toNat = z3_4.toInt := (by rw [j1_4, nextEq_s (by omega) (by omega), if_pos (by assumption)]); exact Or.inr ⟨by omega, by omega⟩⟩
  exact lp2 (200 - m1.toInt).toNat.succ m1 (by omega) (by congr 1 <;> omega) (by omega)

end
end
section
/-! bitCount: byte by byte -/
noncomputable def N32 (x : Int32) : Nat := x.toBitVec.toNat
theorem N_lt (x : Int32) : N32 x < 4294967296 := x.toBitVec.isLt
theorem N_and (x y : Int32) : N32 (x &&& y) = N32 x &&& N32 y := by unfold N32; rw [Int32.toBitVec_and, BitVec.toNat_and]
theorem N_add {x y : Int32} (h : N32 x + N32 y < 4294967296) : N32 (x + y) = N32 x + N32 y := by
  unfold N32 at *
  rw [Int32.toBitVec_add, BitVec.toNat_add]
  exact Nat.mod_eq_of_lt h
theorem N_sub {x y : Int32} (h : N32 y ≤ N32 x) : N32 (x - y) = N32 x - N32 y := by
  unfold N32 at *
  rw [Int32.toBitVec_sub, BitVec.toNat_sub_of_le (BitVec.le_def.mpr h)]
theorem N_ushr (n : Nat) (hn : n < 32) (x : Int32) : N32 ((x.toUInt32 >>> ((nI n).toUInt32 &&& Int32.toUInt32 31)).toInt32) = N32 x / 2 ^ n := by
  show (x.toUInt32 >>> ((nI n).toUInt32 &&& Int32.toUInt32 31)).toBitVec.toNat = x.toUInt32.toBitVec.toNat / 2 ^ n
  rw [UInt32.toBitVec_shiftRight]
  show (x.toUInt32.toBitVec >>> (((nI n).toUInt32 &&& Int32.toUInt32 31).toBitVec % 32).toNat).toNat = _
  rw [s_u n hn, BitVec.toNat_ushiftRight, Nat.shiftRight_eq_div_pow]
theorem an8 (x y : Nat) : x &&& y = ((x % 256) &&& (y % 256)) + 256 * ((x / 256) &&& (y / 256)) := by
  have h1 := Nat.and_mod_two_pow (a := x) (b := y) (n := 8)
  have h2 := Nat.and_div_two_pow (a := x) (b := y) (n := 8)
  have h3 := Nat.mod_add_div (x &&& y) 256
  rw [show (2 : Nat) ^ 8 = 256 from rfl] at h1 h2
  rw [← h1, ← h2]
  omega
theorem an32 (x y : Nat) (hx : x < 4294967296) (hy : y < 4294967296) : x &&& y = ((x % 256) &&& (y % 256)) + 256 * ((x / 256 % 256) &&& (y / 256 % 256)) + 65536 * ((x / 65536 % 256) &&& (y / 65536 % 256)) + 16777216 * ((x / 16777216 % 256) &&& (y / 16777216 % 256)) := by
  rw [an8 x y, an8 (x / 256) (y / 256), an8 (x / 256 / 256) (y / 256 / 256)]
  rw [show x / 256 / 256 = x / 65536 by omega, show y / 256 / 256 = y / 65536 by omega, show x / 65536 / 256 = x / 16777216 % 256 by omega, show y / 65536 / 256 = y / 16777216 % 256 by omega]
  omega
noncomputable def pq1 (b : Nat) : Nat := b - (b / 2 &&& 85)
noncomputable def pq2 (b : Nat) : Nat := (pq1 b &&& 51) + (pq1 b / 4 &&& 51)
noncomputable def pq3 (b : Nat) : Nat := pq2 b % 16 + pq2 b / 16
noncomputable def pc8 (b : Nat) : Nat := (if b.testBit 0 then 1 else 0) + (if b.testBit 1 then 1 else 0) + (if b.testBit 2 then 1 else 0) + (if b.testBit 3 then 1 else 0) + (if b.testBit 4 then 1 else 0) + (if b.testBit 5 then 1 else 0) + (if b.testBit 6 then 1 else 0) + (if b.testBit 7 then 1 else 0)
set_option maxRecDepth 100000 in
theorem pq1_d : ∀ b, b < 256 → ∀ e, e < 2 → (b / 2 + 128 * e) &&& 85 = (b / 2 &&& 85) ∧ (b / 2 &&& 85) ≤ b := by decide +kernel
set_option maxRecDepth 100000 in
theorem pq2_d : ∀ b, b < 256 → ∀ e, e < 4 → (b / 4 + 64 * e) &&& 51 = (b / 4 &&& 51) ∧ (b / 4 &&& 51) ≤ 51 ∧ (b &&& 51) ≤ 51 := by decide +kernel
set_option maxRecDepth 100000 in
theorem pq3_d : ∀ b, b < 256 → pq1 b < 256 ∧ pq2 b % 16 ≤ 4 ∧ pq2 b / 16 ≤ 4 ∧ pq3 b = pc8 b := by decide +kernel
set_option maxRecDepth 100000 in
theorem pq4_d : ∀ s, s < 256 → s &&& 15 = s % 16 := by decide +kernel
set_option maxRecDepth 100000 in
theorem pq6_d (x : Nat) : x &&& 63 = x % 64 := by
  rw [show 63 = 2 ^ 6 - 1 from rfl, Nat.and_two_pow_sub_one_eq_mod]
noncomputable def by4 (n a b c d : Nat) : Prop := n = a + 256 * b + 65536 * c + 16777216 * d ∧ a < 256 ∧ b < 256 ∧ c < 256 ∧ d < 256
theorem by4_of {n : Nat} (h : n < 4294967296) : by4 n (n % 256) (n / 256 % 256) (n / 65536 % 256) (n / 16777216 % 256) := ⟨by omega, by omega, by omega, by omega, by omega⟩
theorem by4_q {n a b c d : Nat} (h : by4 n a b c d) : n % 256 = a ∧ n / 256 % 256 = b ∧ n / 65536 % 256 = c ∧ n / 16777216 % 256 = d ∧ n < 4294967296 := by
  obtain ⟨h0, h1, h2, h3, h4⟩ := h
  refine ⟨by omega, by omega, by omega, by omega, by omega⟩
theorem s1_ok {n a b c d : Nat} (h : by4 n a b c d) : (n / 2 &&& 1431655765) ≤ n ∧ by4 (n - (n / 2 &&& 1431655765)) (pq1 a) (pq1 b) (pq1 c) (pq1 d) := by
  have hq := by4_q h
  obtain ⟨h0, h1, h2, h3, h4⟩ := h
  have e : n / 2 &&& 1431655765 = (a / 2 &&& 85) + 256 * (b / 2 &&& 85) + 65536 * (c / 2 &&& 85) + 16777216 * (d / 2 &&& 85) := by
    rw [an32 (n / 2) 1431655765 (by omega) (by omega)]
    rw [show n / 2 % 256 = a / 2 + 128 * (b % 2) by omega, show n / 2 / 256 % 256 = b / 2 + 128 * (c % 2) by omega, show n / 2 / 65536 % 256 = c / 2 + 128 * (d % 2) by omega, show n / 2 / 16777216 % 256 = d / 2 + 128 * 0 by omega]
    rw [show 1431655765 % 256 = 85 from rfl]
    rw [(pq1_d a h1 _ (Nat.mod_lt _ (by omega))).1, (pq1_d b h2 _ (Nat.mod_lt _ (by omega))).1, (pq1_d c h3 _ (Nat.mod_lt _ (by omega))).1, (pq1_d d h4 0 (by omega)).1]
  have a1 := (pq1_d a h1 0 (by omega)).2
  have a2 := (pq1_d b h2 0 (by omega)).2
  have a3 := (pq1_d c h3 0 (by omega)).2
  have a4 := (pq1_d d h4 0 (by omega)).2
  rw [e]
  unfold by4 pq1
  refine ⟨by omega, by omega, by omega, by omega, by omega, by omega⟩
theorem s2_ok {n a b c d : Nat} (h : by4 n a b c d) : by4 ((n &&& 858993459) + (n / 4 &&& 858993459)) ((a &&& 51) + (a / 4 &&& 51)) ((b &&& 51) + (b / 4 &&& 51)) ((c &&& 51) + (c / 4 &&& 51)) ((d &&& 51) + (d / 4 &&& 51)) := by
  have hq := by4_q h
  obtain ⟨h0, h1, h2, h3, h4⟩ := h
  have e1 : n &&& 858993459 = (a &&& 51) + 256 * (b &&& 51) + 65536 * (c &&& 51) + 16777216 * (d &&& 51) := by
    rw [an32 n 858993459 (by omega) (by omega), hq.1, hq.2.1, hq.2.2.1, hq.2.2.2.1]
  have e2 : n / 4 &&& 858993459 = (a / 4 &&& 51) + 256 * (b / 4 &&& 51) + 65536 * (c / 4 &&& 51) + 16777216 * (d / 4 &&& 51) := by
    rw [an32 (n / 4) 858993459 (by omega) (by omega)]
    rw [show n / 4 % 256 = a / 4 + 64 * (b % 4) by omega, show n / 4 / 256 % 256 = b / 4 + 64 * (c % 4) by omega, show n / 4 / 65536 % 256 = c / 4 + 64 * (d % 4) by omega, show n / 4 / 16777216 % 256 = d / 4 + 64 * 0 by omega]
    rw [show 858993459 % 256 = 51 from rfl]
    rw [(pq2_d a h1 _ (Nat.mod_lt _ (by omega))).1, (pq2_d b h2 _ (Nat.mod_lt _ (by omega))).1, (pq2_d c h3 _ (Nat.mod_lt _ (by omega))).1, (pq2_d d h4 0 (by omega)).1]
  have a1 := (pq2_d a h1 0 (by omega)).2
  have a2 := (pq2_d b h2 0 (by omega)).2
  have a3 := (pq2_d c h3 0 (by omega)).2
  have a4 := (pq2_d d h4 0 (by omega)).2
  rw [e1, e2]
  refine ⟨by omega, by omega, by omega, by omega, by omega⟩
theorem s3_a {a x : Nat} (ha : a % 16 ≤ 4 ∧ a / 16 ≤ 4) (hx : x ≤ 4) : a + a / 16 + 16 * x < 256 ∧ (a + a / 16 + 16 * x) % 16 = a % 16 + a / 16 := by
  refine ⟨by omega, by omega⟩
theorem s3_n {n a b c d : Nat} (h : n = a + 256 * b + 65536 * c + 16777216 * d) : n + n / 16 = (a + a / 16 + 16 * (b % 16)) + 256 * (b + b / 16 + 16 * (c % 16)) + 65536 * (c + c / 16 + 16 * (d % 16)) + 16777216 * (d + d / 16 + 16 * 0) := by
  omega
theorem s3_ok {n a b c d : Nat} (h : by4 n a b c d) (ha : a % 16 ≤ 4 ∧ a / 16 ≤ 4) (hb : b % 16 ≤ 4 ∧ b / 16 ≤ 4) (hc : c % 16 ≤ 4 ∧ c / 16 ≤ 4) (hd : d % 16 ≤ 4 ∧ d / 16 ≤ 4) : n + n / 16 < 4294967296 ∧ (n + n / 16) &&& 252645135 = (a % 16 + a / 16) + 256 * (b % 16 + b / 16) + 65536 * (c % 16 + c / 16) + 16777216 * (d % 16 + d / 16) := by
  have e := s3_n h.1
  have A0 := s3_a ha hb.1
  have A1 := s3_a hb hc.1
  have A2 := s3_a hc hd.1
  have A3 := s3_a (x := 0) hd (by omega)
  have q := by4_q ⟨e, A0.1, A1.1, A2.1, A3.1⟩
  refine ⟨q.2.2.2.2, ?_⟩
  rw [an32 _ 252645135 q.2.2.2.2 (by decide), q.1, q.2.1, q.2.2.1, q.2.2.2.1]
  rw [show 252645135 % 256 = 15 from rfl]
  rw [pq4_d _ A0.1, pq4_d _ A1.1, pq4_d _ A2.1, pq4_d _ A3.1, A0.2, A1.2, A2.2, A3.2]
theorem cnt8 (x : Int32) (k : Nat) : cntB x (k + 8) = cntB x k + (if bt x k then 1 else 0) + (if bt x (k + 1) then 1 else 0) + (if bt x (k + 2) then 1 else 0) + (if bt x (k + 3) then 1 else 0) + (if bt x (k + 4) then 1 else 0) + (if bt x (k + 5) then 1 else 0) + (if bt x (k + 6) then 1 else 0) + (if bt x (k + 7) then 1 else 0) := rfl
theorem bt_by (x : Int32) (j i : Nat) (hi : i < 8) : (N32 x / 2 ^ j % 256).testBit i = bt x (j + i) := by
  rw [show 256 = 2 ^ 8 from rfl, Nat.testBit_mod_two_pow, Nat.testBit_div_two_pow, decide_eq_true hi, Bool.true_and]
  show _ = x.toBitVec.getLsbD (j + i)
  unfold N32
  rw [BitVec.testBit_toNat, Nat.add_comm]
theorem cnt_by (x : Int32) (j : Nat) : cntB x (j + 8) = cntB x j + pc8 (N32 x / 2 ^ j % 256) := by
  rw [cnt8]
  unfold pc8
  rw [show (N32 x / 2 ^ j % 256).testBit 0 = bt x j from bt_by x j 0 (by omega), bt_by x j 1 (by omega), bt_by x j 2 (by omega), bt_by x j 3 (by omega), bt_by x j 4 (by omega), bt_by x j 5 (by omega), bt_by x j 6 (by omega), bt_by x j 7 (by omega)]
  omega
theorem cnt_32 (x : Int32) : cntB x 32 = pc8 (N32 x % 256) + pc8 (N32 x / 256 % 256) + pc8 (N32 x / 65536 % 256) + pc8 (N32 x / 16777216 % 256) := by
  have h0 := cnt_by x 0
  have h1 := cnt_by x 8
  have h2 := cnt_by x 16
  have h3 := cnt_by x 24
  rw [show (2 : Nat) ^ 0 = 1 from rfl, Nat.div_one] at h0
  rw [show (2 : Nat) ^ 8 = 256 from rfl] at h1
  rw [show (2 : Nat) ^ 16 = 65536 from rfl] at h2
  rw [show (2 : Nat) ^ 24 = 16777216 from rfl] at h3
  rw [show 0 + 8 = 8 from rfl, show cntB x 0 = 0 from rfl] at h0
  rw [show 8 + 8 = 16 from rfl] at h1
  rw [show 16 + 8 = 24 from rfl] at h2
  rw [show 24 + 8 = 32 from rfl] at h3
  omega
theorem N_int {x : Int32} (h : N32 x < 2147483648) : x.toInt = (N32 x : Int) := by
  show x.toBitVec.toInt = _
  rw [BitVec.toInt_eq_toNat_of_lt (by unfold N32 at h; omega)]
  rfl
theorem bc_end {a b c d n m k : Nat} (la : a ≤ 8) (lb : b ≤ 8) (lc : c ≤ 8) (ld : d ≤ 8) (h1 : n = a + 256 * b + 65536 * c + 16777216 * d) (h2 : m = n + n / 256) (h3 : k = m + m / 65536) : k % 64 = a + b + c + d := by
  have e1 : n / 256 = b + 256 * c + 65536 * d := by omega
  have e2 : m = (a + b) + 256 * (b + c) + 65536 * (c + d) + 16777216 * d := by omega
  have e3 : m / 65536 = (c + d) + 256 * d := by omega
  omega
theorem bc_ok {x m1 m2 m3 m4 m5 : Int32} (e1 : m1 = x - ((x.toUInt32 >>> ((nI 1).toUInt32 &&& Int32.toUInt32 31)).toInt32 &&& 1431655765)) (e2 : m2 = (m1 &&& 858993459) + ((m1.toUInt32 >>> ((nI 2).toUInt32 &&& Int32.toUInt32 31)).toInt32 &&& 858993459)) (e3 : m3 = m2 + (m2.toUInt32 >>> ((nI 4).toUInt32 &&& Int32.toUInt32 31)).toInt32) (e4 : m4 = (m3 &&& 252645135) + ((m3 &&& 252645135).toUInt32 >>> ((nI 8).toUInt32 &&& Int32.toUInt32 31)).toInt32) (e5 : m5 = m4 + (m4.toUInt32 >>> ((nI 16).toUInt32 &&& Int32.toUInt32 31)).toInt32) : (m5 &&& 63).toInt = (cntB x 32 : Int) := by
  have hx := by4_of (N_lt x)
  obtain ⟨a, ea⟩ : ∃ a, a = N32 x % 256 := ⟨_, rfl⟩
  obtain ⟨b, eb⟩ : ∃ a, a = N32 x / 256 % 256 := ⟨_, rfl⟩
  obtain ⟨c, ec⟩ : ∃ a, a = N32 x / 65536 % 256 := ⟨_, rfl⟩
  obtain ⟨d, ed⟩ : ∃ a, a = N32 x / 16777216 % 256 := ⟨_, rfl⟩
  have hc := cnt_32 x
  rw [← ea, ← eb, ← ec, ← ed] at hx hc
  have ha := pq3_d a hx.2.1
  have hb := pq3_d b hx.2.2.1
  have hcc := pq3_d c hx.2.2.2.1
  have hd := pq3_d d hx.2.2.2.2
  have k1 : N32 (1431655765 : Int32) = 1431655765 := rfl
  have k2 : N32 (858993459 : Int32) = 858993459 := rfl
  have k3 : N32 (252645135 : Int32) = 252645135 := rfl
  have k6 : N32 (63 : Int32) = 63 := rfl
  have s1 := s1_ok hx
  have n1 : N32 m1 = N32 x - (N32 x / 2 &&& 1431655765) := by
    rw [e1, N_sub (by rw [N_and, N_ushr 1 (by omega), k1]; exact s1.1), N_and, N_ushr 1 (by omega), k1]
  have t1 := s1.2
  rw [← n1] at t1
  have s2 := s2_ok t1
  have q2 := (by4_q s2).2.2.2.2
  have n2 : N32 m2 = (N32 m1 &&& 858993459) + (N32 m1 / 4 &&& 858993459) := by
    have f1 : N32 (m1 &&& 858993459) = N32 m1 &&& 858993459 := by rw [N_and, k2]
    have f2 : N32 ((m1.toUInt32 >>> ((nI 2).toUInt32 &&& Int32.toUInt32 31)).toInt32 &&& 858993459) = N32 m1 / 4 &&& 858993459 := by rw [N_and, N_ushr 2 (by omega), k2]
    rw [e2, N_add (by rw [f1, f2]; exact q2), f1, f2]
  rw [← n2] at s2
  have s3 := s3_ok (n := N32 m2) (a := pq2 a) (b := pq2 b) (c := pq2 c) (d := pq2 d) s2 ⟨ha.2.1, ha.2.2.1⟩ ⟨hb.2.1, hb.2.2.1⟩ ⟨hcc.2.1, hcc.2.2.1⟩ ⟨hd.2.1, hd.2.2.1⟩
  have n3 : N32 m3 = N32 m2 + N32 m2 / 16 := by
    rw [e3, N_add (by rw [N_ushr 4 (by omega)]; exact s3.1), N_ushr 4 (by omega)]
  have n4 : N32 (m3 &&& 252645135) = pq3 a + 256 * pq3 b + 65536 * pq3 c + 16777216 * pq3 d := by
    rw [N_and, k3, n3]; exact s3.2
  have la : pq3 a ≤ 8 := by unfold pq3; omega
  have lb : pq3 b ≤ 8 := by unfold pq3; omega
  have lc : pq3 c ≤ 8 := by unfold pq3; omega
  have ld : pq3 d ≤ 8 := by unfold pq3; omega
  have n5 : N32 m4 = N32 (m3 &&& 252645135) + N32 (m3 &&& 252645135) / 256 := by
    rw [e4, N_add (by rw [N_ushr 8 (by omega)]; omega), N_ushr 8 (by omega)]
  have n6 : N32 m5 = N32 m4 + N32 m4 / 65536 := by
    rw [e5, N_add (by rw [N_ushr 16 (by omega)]; omega), N_ushr 16 (by omega)]
  have n7 : N32 (m5 &&& 63) = N32 m5 % 64 := by rw [N_and, k6, pq6_d]
  have g1 := ha.2.2.2
  have g2 := hb.2.2.2
  have g3 := hcc.2.2.2
  have g4 := hd.2.2.2
  have n8 := bc_end la lb lc ld n4 n5 n6
  rw [N_int (by omega), hc, n7, n8, g1, g2, g3, g4]
end
section
section
variable {l : Launch} {g : pm_G} {A0 : pm_H} {K nn dn : Nat} {q : Nat → Nat} {w : Nat → Int32} {e : Nat → Nat → Int32} {v : Nat → Int32} {f : Nat → Nat → Int32}
set_option maxRecDepth 100000 in
set_option maxHeartbeats 2000000 in
theorem F_J6_bitCount_0f7a4 (A : pm_H) (x0 : Int32)  : pm_Mt l g 75 0 0 0 [.int x0] A (md_Qp A (fun r => r.toInt = (cntB x0 32 : Int))) := by
  refine mt_J6_bitCount_0f7a4 rfl (fun J hC => ?_)
  have rg_x0 := pm_rng x0
  refine hC.1 0 0 _ _ rfl _ _ _ _ _ ?_
  have k1 : (1 : Int32).toInt = 1 := rfl
  have k1431655765 : (1431655765 : Int32).toInt = 1431655765 := rfl
  intro m1 em_8
  have k858993459 : (858993459 : Int32).toInt = 858993459 := rfl
  have k2 : (2 : Int32).toInt = 2 := rfl
  intro m2 em_22
  have k4 : (4 : Int32).toInt = 4 := rfl
  intro m3 em_28
  have k252645135 : (252645135 : Int32).toInt = 252645135 := rfl
  have k8 : (8 : Int32).toInt = 8 := rfl
  intro m4 em_39
  have k16 : (16 : Int32).toInt = 16 := rfl
  intro m5 em_46
  have k63 : (63 : Int32).toInt = 63 := rfl
  exact ⟨rfl, fun e9 => absurd e9 (by decide), rfl, (m5 &&& (63 : Int32)), rfl, rfl, by exact bc_ok em_8 em_22 em_28 em_39 em_46⟩

end
end
section
/-! the shelf: which colour goes, what is on it, how many misses -/
theorem nJ_of {z : Int32} (h : 0 ≤ z.toInt ∧ z.toInt ≤ 23) : nI z.toInt.toNat = z := by
  obtain ⟨n, _, h2, h3⟩ := bn_of (c := z) (by omega)
  rw [show z.toInt.toNat = n by omega, h2]
theorem nI_i : ∀ y, y < 24 → (nI y).toInt = (y : Int) := by decide +kernel
theorem b_z {x c : Int32} (h : 0 ≤ c.toInt ∧ c.toInt ≤ 31) (hb : ((x >>> (c &&& 31)) &&& 1) = 0) : bt x c.toInt.toNat = false := by
  rcases Bool.eq_false_or_eq_true (bt x c.toInt.toNat) with q | q
  · exact absurd hb (b_y' h q)
  · exact q
theorem cntB_ex (x : Int32) : ∀ k, 0 < cntB x k → ∃ i, i < k ∧ bt x i = true
  | 0, h => absurd h (Nat.lt_irrefl _)
  | k + 1, h => by
    by_cases e : bt x k = true
    · exact ⟨k, by omega, e⟩
    · rw [cntB, if_neg e] at h
      obtain ⟨i, h1, h2⟩ := cntB_ex x k (by omega)
      exact ⟨i, by omega, h2⟩
noncomputable def GON (K : Nat → Int) (s : Int32) (g : Nat) : Prop := g < 24 ∧ bt s g = true ∧ ∀ y, y < 24 → bt s y = true → K y < K g ∨ (K y = K g ∧ g ≤ y)
noncomputable def EXB (s : Int32) : Prop := ∃ y : Nat, y < 24 ∧ bt s y = true
noncomputable def GOR (K : Nat → Int) (s r : Int32) : Prop := ∃ g : Nat, r.toInt = (g : Int) ∧ GON K s g
theorem GON_u {K L : Nat → Int} {s : Int32} {g h : Nat} (hK : ∀ y z, y < 24 → z < 24 → bt s y = true → bt s z = true → (K y < K z ↔ L y < L z)) (h1 : GON K s g) (h2 : GON L s h) : g = h := by
  obtain ⟨a1, a2, a3⟩ := h1
  obtain ⟨b1, b2, b3⟩ := h2
  have e1 := a3 h b1 b2
  have e2 := b3 g a1 a2
  have e3 := hK g h a1 b1 a2 b2
  have e4 := hK h g b1 a1 b2 a2
  omega
noncomputable def GC (K : Nat → Int) (s : Int32) (k x : Int) : Prop := (x = -1 ∧ ∀ y : Nat, (y : Int) < k → bt s y = false) ∨ ((0 ≤ x ∧ x < k) ∧ bt s x.toNat = true ∧ ∀ y : Nat, (y : Int) < k → bt s y = true → K y < K x.toNat ∨ (K y = K x.toNat ∧ x.toNat ≤ y))
theorem GC_0 (K : Nat → Int) (s : Int32) : GC K s 0 (-1) := Or.inl ⟨rfl, fun y h => by omega⟩
theorem GC_n {K : Nat → Int} {s : Int32} {k x : Int} (h0 : 0 ≤ k) (h : GC K s k x) (hb : bt s k.toNat = false) : GC K s (k + 1) x := by
  rcases h with ⟨a, b⟩ | ⟨a, b, d⟩
  · refine Or.inl ⟨a, fun y h => ?_⟩
    by_cases e : (y : Int) = k
    · rw [show y = k.toNat by omega]; exact hb
    · exact b y (by omega)
  · refine Or.inr ⟨by omega, b, fun y h h2 => ?_⟩
    by_cases e : (y : Int) = k
    · rw [show y = k.toNat by omega, hb] at h2; cases h2
    · exact d y (by omega) h2
theorem GC_y {K : Nat → Int} {s : Int32} {k x : Int} (h0 : 0 ≤ k) (h : GC K s k x) (hb : bt s k.toNat = true) (hk : x = -1 ∨ K x.toNat < K k.toNat) : GC K s (k + 1) k := by
  refine Or.inr ⟨by omega, hb, fun y h9 h8 => ?_⟩
  by_cases e : (y : Int) = k
  · rw [show y = k.toNat by omega]; omega
  · rcases h with ⟨a, b⟩ | ⟨a, b, d⟩
    · rw [b y (by omega)] at h8; cases h8
    · have := d y (by omega) h8
      omega
theorem GC_o {K : Nat → Int} {s : Int32} {k x : Int} (h0 : 0 ≤ k) (h : GC K s k x) (hk : ¬ x = -1 ∧ K k.toNat ≤ K x.toNat) : GC K s (k + 1) x := by
  rcases h with ⟨a, b⟩ | ⟨a, b, d⟩
  · omega
  · refine Or.inr ⟨by omega, b, fun y h9 h8 => ?_⟩
    by_cases e : (y : Int) = k
    · rw [show y = k.toNat by omega]; omega
    · exact d y (by omega) h8
theorem GC_e {K : Nat → Int} {s r : Int32} (h : GC K s 24 r.toInt) (hx : EXB s) : GOR K s r := by
  obtain ⟨z, z1, z2⟩ := hx
  rcases h with ⟨a, b⟩ | ⟨a, b, d⟩
  · rw [b z (by omega)] at z2; cases z2
  · exact ⟨r.toInt.toNat, by omega, by omega, b, fun y h1 h2 => d y (by omega) h2⟩
noncomputable def nf (c : Nat → Int32) (n : Int) (x : Int32) (p : Nat) : Int := nextEq c x (p + 1) (n - ((p : Int) + 1)).toNat
noncomputable def sk (c : Nat → Int32) (n ru : Int) (p : Nat) (y : Nat) : Int := if ru = 0 then (p : Int) - lastEq c (nI y) p else if nf c n (nI y) p < 0 then 268435456 else nf c n (nI y) p
theorem sk_eq {c d : Nat → Int32} {n ru : Int} {p y : Nat} (hc : ∀ j : Nat, (j : Int) < n → c j = d j) (hp : (p : Int) < n) : sk c n ru p y = sk d n ru p y := by
  unfold sk nf
  rw [lastEq_eq p (fun j hj => hc j (by omega)), nextEq_eq _ _ (fun j hj => hc j (by omega))]
theorem sk_0 (c : Nat → Int32) (n ru : Int) (p y : Nat) : 0 ≤ sk c n ru p y := by
  unfold sk
  have := lastEq_lt c (nI y) p
  split
  · omega
  · split <;> omega
theorem sk_l {c : Nat → Int32} {n ru : Int} {p : Nat} {z : Int32} (hz : 0 ≤ z.toInt ∧ z.toInt ≤ 23) (h : ru = 0) : sk c n ru p z.toInt.toNat = (p : Int) - lastEq c z p := by unfold sk; rw [nJ_of hz, if_pos h]
theorem sk_f {c : Nat → Int32} {n ru : Int} {p : Nat} {z : Int32} (hz : 0 ≤ z.toInt ∧ z.toInt ≤ 23) (h : ¬ ru = 0) (hn : nf c n z p < 0) : sk c n ru p z.toInt.toNat = 268435456 := by unfold sk; rw [nJ_of hz, if_neg h, if_pos hn]
theorem sk_n {c : Nat → Int32} {n ru : Int} {p : Nat} {z : Int32} (hz : 0 ≤ z.toInt ∧ z.toInt ≤ 23) (h : ¬ ru = 0) (hn : ¬ nf c n z p < 0) : sk c n ru p z.toInt.toNat = nf c n z p := by unfold sk; rw [nJ_of hz, if_neg h, if_neg hn]
noncomputable def b1 (x : Int32) : Int32 := (1 : Int32) <<< (x &&& 31)
noncomputable def STP (c : Nat → Int32) (n k ru : Int) (p : Nat) (s0 : Int32) (m0 : Int) (s : Int32) (m : Int) : Prop := (bt s0 (c p).toInt.toNat = true ∧ s = s0 ∧ m = m0) ∨ (bt s0 (c p).toInt.toNat = false ∧ m = m0 + 1 ∧ ((¬ (cntB s0 32 : Int) = k ∧ s = s0 ||| b1 (c p)) ∨ ((cntB s0 32 : Int) = k ∧ ∃ g : Nat, GON (sk c n ru p) s0 g ∧ s = (s0 &&& (b1 (nI g) ^^^ (-1 : Int32))) ||| b1 (c p))))
noncomputable def SHL (c : Nat → Int32) (n k ru : Int) : Nat → Int32 → Int → Prop
  | 0, s, m => s = 0 ∧ m = 0
  | p + 1, s, m => ∃ s0 m0, SHL c n k ru p s0 m0 ∧ STP c n k ru p s0 m0 s m
theorem SHL_u {c d : Nat → Int32} {n k ru : Int} (hc : ∀ j : Nat, (j : Int) < n → c j = d j) : ∀ (p : Nat) {s t : Int32} {m o : Int}, (p : Int) ≤ n → SHL c n k ru p s m → SHL d n k ru p t o → s = t ∧ m = o
  | 0, s, t, m, o, _, h1, h2 => by rw [h1.1, h1.2, h2.1, h2.2]; exact ⟨rfl, rfl⟩
  | p + 1, s, t, m, o, hp, h1, h2 => by
    obtain ⟨s0, m0, a1, a2⟩ := h1
    obtain ⟨t0, o0, b1', b2⟩ := h2
    obtain ⟨e1, e2⟩ := SHL_u hc p (by omega) a1 b1'
    subst e1; subst e2
    unfold STP at a2 b2
    rw [← hc p (by omega)] at b2
    rcases a2 with ⟨x1, x2, x3⟩ | ⟨x1, x2, x3⟩
    · rcases b2 with ⟨y1, y2, y3⟩ | ⟨y1, _, _⟩
      · rw [x2, x3, y2, y3]; exact ⟨rfl, rfl⟩
      · rw [x1] at y1; cases y1
    · rcases b2 with ⟨y1, _, _⟩ | ⟨y1, y2, y3⟩
      · rw [x1] at y1; cases y1
      · refine ⟨?_, by omega⟩
        rcases x3 with ⟨u1, u2⟩ | ⟨u1, g, u2, u3⟩
        · rcases y3 with ⟨w1, w2⟩ | ⟨w1, _⟩
          · rw [u2, w2]
          · exact absurd w1 u1
        · rcases y3 with ⟨w1, _⟩ | ⟨w1, h, w2, w3⟩
          · exact absurd u1 w1
          · have e : g = h := GON_u (fun y z _ _ _ _ => by rw [sk_eq hc (by omega), sk_eq hc (by omega)]) u2 w2
            rw [u3, w3, e]
theorem SHL_y {c : Nat → Int32} {n k ru : Int} {p : Nat} {s : Int32} {m : Int} (h : SHL c n k ru p s m) (hb : bt s (c p).toInt.toNat = true) : SHL c n k ru (p + 1) s m := ⟨s, m, h, Or.inl ⟨hb, rfl, rfl⟩⟩
theorem SHL_a {c : Nat → Int32} {n k ru : Int} {p : Nat} {s s2 : Int32} {m m2 : Int} (h : SHL c n k ru p s m) (hb : bt s (c p).toInt.toNat = false) (hn : ¬ (cntB s 32 : Int) = k) (hs : s2 = s ||| ((1 : Int32) <<< (c p &&& 31))) (hm : m2 = m + 1) : SHL c n k ru (p + 1) s2 m2 := ⟨s, m, h, Or.inr ⟨hb, hm, Or.inl ⟨hn, hs⟩⟩⟩
theorem SHL_r {c : Nat → Int32} {n k ru : Int} {p : Nat} {s s1 s2 y : Int32} {m m2 : Int} (h : SHL c n k ru p s m) (hb : bt s (c p).toInt.toNat = false) (hn : (cntB s 32 : Int) = k) (hg : GOR (sk c n ru p) s y) (hs1 : s1 = s &&& (((1 : Int32) <<< (y &&& 31)) ^^^ (-1 : Int32))) (hs : s2 = s1 ||| ((1 : Int32) <<< (c p &&& 31))) (hm : m2 = m + 1) : SHL c n k ru (p + 1) s2 m2 := by
  obtain ⟨g, g1, g2⟩ := hg
  have hl := g2.1
  refine ⟨s, m, h, Or.inr ⟨hb, hm, Or.inr ⟨hn, g, g2, ?_⟩⟩⟩
  rw [hs, hs1]
  unfold b1
  rw [show nI g = y from by rw [show g = y.toInt.toNat by omega]; exact nJ_of (by omega)]
theorem b1_g {g : Nat} (hg : g < 24) {i : Nat} (hi : i < 32) : bt (b1 (nI g)) i = decide (i = g) := by
  have h1 := nI_i g hg
  unfold b1
  rw [b_one (by omega) hi, show (nI g).toInt.toNat = g by omega]
theorem rm_g {s : Int32} {g : Nat} (hg : g < 24) (i : Nat) : bt (s &&& (b1 (nI g) ^^^ (-1 : Int32))) i = (decide (i ≠ g) && bt s i) := by
  by_cases hi : i < 32
  · rw [b_and, b_xor, b1_g hg hi, b_m1 i hi]
    by_cases e : i = g
    · rw [decide_eq_true e, decide_eq_false (fun q => q e)]; cases bt s i <;> rfl
    · rw [decide_eq_false e, decide_eq_true e]; cases bt s i <;> rfl
  · rw [b_big (by omega), b_big (x := s) (by omega)]; simp
noncomputable def SHI (c : Nat → Int32) (k : Int) (p : Nat) (s : Int32) (m : Int) : Prop := (∀ i, 24 ≤ i → bt s i = false) ∧ (∀ i, bt s i = true → ∃ j : Nat, j < p ∧ (c j).toInt.toNat = i) ∧ (cntB s 32 : Int) ≤ k ∧ 0 ≤ m ∧ m ≤ p
theorem SHL_I {c : Nat → Int32} {n k ru : Int} (hc : ok24 c) (hk : 1 ≤ k) : ∀ (p : Nat) {s : Int32} {m : Int}, SHL c n k ru p s m → SHI c k p s m
  | 0, s, m, h => by
    obtain ⟨h1, h2⟩ := h
    refine ⟨fun i _ => by rw [h1, b_0], fun i q => (by rw [h1, b_0] at q; cases q), by rw [h1, cntB_z]; omega, by omega, by omega⟩
  | p + 1, s, m, h => by
    obtain ⟨s0, m0, a1, a2⟩ := h
    obtain ⟨i1, i2, i3, i4, i5⟩ := SHL_I hc hk p a1
    have hx := hc p
    have bx : ∀ t : Int32, ∀ i, bt (t ||| b1 (c p)) i = true → bt t i = true ∨ i = (c p).toInt.toNat := fun t i q => by
      by_cases hi : i < 32
      · unfold b1 at q
        rw [b_or, b_one (by omega) hi, Bool.or_eq_true, decide_eq_true_eq] at q
        exact q
      · rw [b_big (by omega)] at q; cases q
    rcases a2 with ⟨x1, x2, x3⟩ | ⟨x1, x2, x3⟩
    · rw [x2, x3]
      exact ⟨i1, fun i q => by obtain ⟨j, j1, j2⟩ := i2 i q; exact ⟨j, by omega, j2⟩, i3, i4, by omega⟩
    · rcases x3 with ⟨u1, u2⟩ | ⟨u1, g, u2, u3⟩
      · rw [u2]
        refine ⟨fun i hi => ?_, fun i q => ?_, ?_, by omega, by omega⟩
        · rcases Bool.eq_false_or_eq_true (bt (s0 ||| b1 (c p)) i) with q | q
          · rcases bx _ _ q with w | w
            · rw [i1 i hi] at w; cases w
            · omega
          · exact q
        · rcases bx _ _ q with w | w
          · obtain ⟨j, j1, j2⟩ := i2 i w; exact ⟨j, by omega, j2⟩
          · exact ⟨p, by omega, w.symm⟩
        · unfold b1
          rw [cntB_or (by omega) x1 32 (by omega), if_pos (by omega)]
          omega
      · obtain ⟨g1, g2, g3⟩ := u2
        rw [u3]
        have r1 : bt (s0 &&& (b1 (nI g) ^^^ (-1 : Int32))) (c p).toInt.toNat = false := by
          rw [rm_g g1, x1, Bool.and_false]
        have r2 := cntB_clr (x := s0) (y := s0 &&& (b1 (nI g) ^^^ (-1 : Int32))) (i := g) g2 (fun j => rm_g g1 j) 32
        rw [if_pos (by omega)] at r2
        refine ⟨fun i hi => ?_, fun i q => ?_, ?_, by omega, by omega⟩
        · rcases Bool.eq_false_or_eq_true (bt ((s0 &&& (b1 (nI g) ^^^ (-1 : Int32))) ||| b1 (c p)) i) with q | q
          · rcases bx _ _ q with w | w
            · rw [rm_g g1, i1 i hi, Bool.and_false] at w; cases w
            · omega
          · exact q
        · rcases bx _ _ q with w | w
          · rw [rm_g g1, Bool.and_eq_true] at w
            obtain ⟨j, j1, j2⟩ := i2 i w.2; exact ⟨j, by omega, j2⟩
          · exact ⟨p, by omega, w.symm⟩
        · show (cntB ((s0 &&& (b1 (nI g) ^^^ (-1 : Int32))) ||| ((1 : Int32) <<< (c p &&& 31))) 32 : Int) ≤ k
          rw [cntB_or (by omega) r1 32 (by omega), if_pos (by omega)]
          omega
theorem SHI_ex {c : Nat → Int32} {k : Int} {p : Nat} {s : Int32} {m : Int} (h : SHI c k p s m) (hk : 1 ≤ k) (hn : k ≤ (cntB s 32 : Int)) : EXB s := by
  obtain ⟨i, h1, h2⟩ := cntB_ex s 32 (by omega)
  by_cases e : i < 24
  · exact ⟨i, e, h2⟩
  · rw [h.1 i (by omega)] at h2; cases h2
noncomputable def SFA (c : Nat → Int32) (n mi ru k : Int) : Prop := ∀ j : Int, 1 ≤ j → j < k → ∃ s m, SHL c n j ru n.toNat s m ∧ mi < m
noncomputable def SUF (c : Nat → Int32) (n mi ru x : Int) : Prop := (¬ (0 ≤ mi ∧ 0 ≤ ru ∧ ru ≤ 1) ∧ x = -1) ∨ ((0 ≤ mi ∧ 0 ≤ ru ∧ ru ≤ 1) ∧ (((1 ≤ x ∧ x ≤ 24) ∧ SFA c n mi ru x ∧ ∃ s m, SHL c n x ru n.toNat s m ∧ m ≤ mi) ∨ (x = -1 ∧ SFA c n mi ru 25)))
theorem SUF_u {c d : Nat → Int32} {n mi ru x y : Int} (hn : 0 ≤ n) (hc : ∀ j : Nat, (j : Int) < n → c j = d j) (h1 : SUF c n mi ru x) (h2 : SUF d n mi ru y) : x = y := by
  have no : ∀ {c d : Nat → Int32} {x k : Int}, (∀ j : Nat, (j : Int) < n → c j = d j) → SFA c n mi ru k → 1 ≤ x → x < k → (∃ s m, SHL d n x ru n.toNat s m ∧ m ≤ mi) → False := by
    intro c d x k hc h h1 h2 h3
    obtain ⟨s, m, a, b⟩ := h x h1 h2
    obtain ⟨t, o, p, q⟩ := h3
    have := SHL_u hc n.toNat (by omega) a p
    omega
  rcases h1 with ⟨a, b⟩ | ⟨a, b⟩
  · rcases h2 with ⟨p, q⟩ | ⟨p, _⟩
    · rw [b, q]
    · exact absurd p a
  · rcases h2 with ⟨p, q⟩ | ⟨p, q⟩
    · exact absurd a p
    · rcases b with ⟨b1', b2, b3⟩ | ⟨b1', b2⟩
      · rcases q with ⟨q1, q2, q3⟩ | ⟨q1, q2⟩
        · have e1 : ¬ x < y := fun h => no (fun j hj => (hc j hj).symm) q2 b1'.1 h b3
          have e2 : ¬ y < x := fun h => no hc b2 q1.1 h q3
          omega
        · exact (no (fun j hj => (hc j hj).symm) q2 b1'.1 (by omega) b3).elim
      · rcases q with ⟨q1, q2, q3⟩ | ⟨q1, q2⟩
        · exact (no hc b2 q1.1 (by omega) q3).elim
        · omega
theorem SFA_s {c : Nat → Int32} {n mi ru k m : Int} {s : Int32} (h : SFA c n mi ru k) (hs : SHL c n k ru n.toNat s m) (hm : mi < m) : SFA c n mi ru (k + 1) := fun j h1 h2 => by
  by_cases e : j = k
  · rw [e]; exact ⟨s, m, hs, hm⟩
  · exact h j h1 (by omega)
end
section
/-! the shelf of the class: by rows of latest places and of next ones -/
theorem an_t {s c : Int32} (h : 0 ≤ c.toInt ∧ c.toInt ≤ 31) (hb : ¬ s &&& ((1 : Int32) <<< (c &&& 31)) = 0) : bt s c.toInt.toNat = true := by
  rcases Bool.eq_false_or_eq_true (bt s c.toInt.toNat) with q | q
  · exact q
  · exact absurd ((an_1 h).mpr q) hb
noncomputable def rk (g h : Nat → Int32) (ru : Int) (y : Nat) : Int := if ru = 0 then - (g y).toInt else (h y).toInt
theorem rk_y {g h : Nat → Int32} {ru : Int} {a b : Nat} (hr : (ru = 0 ∧ (g a).toInt < (g b).toInt) ∨ (¬ ru = 0 ∧ (h b).toInt < (h a).toInt)) : rk g h ru b < rk g h ru a := by
  unfold rk
  rcases hr with ⟨e, q⟩ | ⟨e, q⟩
  · rw [if_pos e, if_pos e]; omega
  · rw [if_neg e, if_neg e]; exact q
theorem rk_n {g h : Nat → Int32} {ru : Int} {a b : Nat} (hr : ¬ ((ru = 0 ∧ (g a).toInt < (g b).toInt) ∨ (¬ ru = 0 ∧ (h b).toInt < (h a).toInt))) : rk g h ru a ≤ rk g h ru b := by
  unfold rk
  by_cases e : ru = 0
  · rw [if_pos e, if_pos e]; omega
  · rw [if_neg e, if_neg e]; omega
theorem GC_e2 {K : Nat → Int} {s r : Int32} {k x : Int} (h : GC K s k x) (hk : k = 24) (hx : EXB s) (hr : (0 ≤ x ∧ r.toInt = x) ∨ (x < 0 ∧ r.toInt = 0)) : (0 ≤ r.toInt ∧ r.toInt ≤ 23) ∧ GOR K s r := by
  subst hk
  obtain ⟨z, z1, z2⟩ := hx
  have h0 := h
  rcases h0 with ⟨a, b⟩ | ⟨a, b, d⟩
  · rw [b z (by omega)] at z2; cases z2
  · have e : r.toInt = x := by omega
    exact ⟨by omega, GC_e (by rw [e]; exact h) ⟨z, z1, z2⟩⟩
/-- the next place alike, 160 if there is none -/
noncomputable def nx (c : Nat → Int32) (n : Int) (p : Nat) : Int := if nf c n (c p) p < 0 then 160 else nf c n (c p) p
noncomputable def NXB (g c : Nat → Int32) (n : Int) : Prop := ∀ j : Nat, j < 160 → (g j).toInt = nx c n j
theorem nf_none {c : Nat → Int32} {n : Int} {x : Int32} {p : Nat} (h : n ≤ (p : Int) + 1) : nf c n x p = -1 := by
  unfold nf
  rw [show (n - ((p : Int) + 1)).toNat = 0 by omega]
  rfl
theorem nx_0 (c : Nat → Int32) (p : Nat) : nx c 0 p = 160 := by
  unfold nx
  rw [nf_none (by omega), if_pos (by omega)]
theorem nf_r (c : Nat → Int32) (n : Int) (x : Int32) (p : Nat) : nf c n x p = -1 ∨ ((p : Int) < nf c n x p ∧ nf c n x p < n) := by
  unfold nf
  rcases nextEq_lt c x (p + 1) (n - ((p : Int) + 1)).toNat with q | q
  · exact Or.inl q
  · right; omega
theorem nf_is {c : Nat → Int32} {n : Int} {x : Int32} {p : Nat} (h : 0 ≤ nf c n x p) : c (nf c n x p).toNat = x := nextEq_is _ _ h
theorem nf_le {c : Nat → Int32} {n : Int} {x : Int32} {p j : Nat} (h1 : p < j) (h2 : (j : Int) < n) (h3 : c j = x) : 0 ≤ nf c n x p ∧ nf c n x p ≤ (j : Int) := nextEq_le _ _ j (by omega) (by omega) h3
/-- first place alike behind p: what it is -/
theorem nf_at {c : Nat → Int32} {n : Int} {x : Int32} {p j : Nat} (h1 : p < j) (h2 : (j : Int) < n) (h3 : c j = x) (h4 : ∀ i : Nat, p < i → i < j → ¬ c i = x) : nf c n x p = (j : Int) := by
  have a := nf_le h1 h2 h3
  rcases nf_r c n x p with q | q
  · omega
  · refine Classical.byContradiction (fun e => h4 (nf c n x p).toNat (by omega) (by omega) (nf_is a.1))
theorem nf_no {c : Nat → Int32} {n : Int} {x : Int32} {p : Nat} (h : ∀ i : Nat, p < i → (i : Int) < n → ¬ c i = x) : nf c n x p = -1 := by
  rcases nf_r c n x p with q | q
  · exact q
  · exact absurd (nf_is (c := c) (n := n) (x := x) (p := p) (by omega)) (h _ (by omega) (by omega))
theorem nx_s {c : Nat → Int32} {k p : Nat} (h : ¬ lastEq c (c k) k = (p : Int)) : nx c ((k : Int) + 1) p = nx c k p := by
  have e : nf c ((k : Int) + 1) (c p) p = nf c k (c p) p := by
    rcases nf_r c k (c p) p with q | q
    · rw [q]
      refine nf_no (fun i h1 h2 h3 => ?_)
      by_cases e : (i : Int) < k
      · have := nf_le (c := c) (n := (k : Int)) h1 e h3; omega
      · have e2 : i = k := by omega
        subst e2
        apply h
        have l1 := lastEq_ge (c := c) (x := c i) i p h1 h3.symm
        have l2 := lastEq_lt c (c i) i
        have l3 := lastEq_is (c := c) (x := c i) i (by omega)
        refine Classical.byContradiction (fun e3 => ?_)
        have := nf_le (c := c) (n := (i : Int)) (x := c p) (p := p) (j := (lastEq c (c i) i).toNat) (by omega) (by omega) (l3.trans h3)
        omega
    · have h3 := nf_is (c := c) (n := (k : Int)) (x := c p) (p := p) (by omega)
      have h4 := nf_at (c := c) (n := (k : Int) + 1) (x := c p) (p := p) (j := (nf c k (c p) p).toNat) (by omega) (by omega) h3 (fun i h5 h6 h7 => by
        have := nf_le (c := c) (n := (k : Int)) (x := c p) h5 (by omega) h7
        omega)
      rw [h4]; omega
  unfold nx
  rw [e]
theorem NXB_n {g c : Nat → Int32} {k a : Int} (h : NXB g c k) (hk : 0 ≤ k) (ha : a = lastEq c (c k.toNat) k.toNat) (hn : a < 0) : NXB g c (k + 1) := fun j hj => by
  obtain ⟨m, rfl⟩ := Int.eq_ofNat_of_zero_le hk
  rw [show ((m : Int)).toNat = m by omega] at ha
  rw [nx_s (by omega)]
  exact h j hj
theorem NXB_y {g c : Nat → Int32} {k : Int} {A z : Int32} (h : NXB g c k) (hk : 0 ≤ k) (ha : A.toInt = lastEq c (c k.toNat) k.toNat) (h0 : 0 ≤ A.toInt) (hz : z.toInt = k) : NXB (upd g A.toInt.toNat z) c (k + 1) := fun j hj => by
  obtain ⟨m, rfl⟩ := Int.eq_ofNat_of_zero_le hk
  rw [show ((m : Int)).toNat = m by omega] at ha
  by_cases e : j = A.toInt.toNat
  · have l2 := lastEq_lt c (c m) m
    have l3 := lastEq_is (c := c) (x := c m) m (by omega)
    have e1 : c j = c m := by rw [e, ha]; exact l3
    rw [e, pk_us, hz, ← e]
    unfold nx
    have h4 := nf_at (c := c) (n := (m : Int) + 1) (x := c j) (p := j) (j := m) (by omega) (by omega) e1.symm (fun i h5 h6 h7 => by
      have := lastEq_ge (c := c) (x := c m) m i h6 (h7.trans e1)
      omega)
    rw [h4, if_neg (by omega)]
  · rw [pk_un e, nx_s (by omega)]
    exact h j hj
noncomputable def SHA (g h c : Nat → Int32) (n : Int) (p : Nat) : Prop := ∀ y : Nat, y < 24 → 0 ≤ lastEq c (nI y) p → (g y).toInt = lastEq c (nI y) p ∧ (h y).toInt = nx c n (lastEq c (nI y) p).toNat
theorem SHA_0 {g h c : Nat → Int32} {n : Int} {p : Nat} (hp : p = 0) : SHA g h c n p := fun y hy h0 => by
  subst hp
  have := lastEq_lt c (nI y) 0
  omega
theorem SHA_s {g h g2 h2 X c : Nat → Int32} {n : Int} {p : Nat} {z : Int32} (hc : ok24 c) (hA : SHA g h c n p) (hN : NXB X c n) (hp : (p : Int) < n ∧ n ≤ 160) (hg : g2 = upd g (c p).toInt.toNat z) (hz : z.toInt = (p : Int)) (hh : h2 = upd h (c p).toInt.toNat (X p)) : SHA g2 h2 c n (p + 1) := fun y hy h0 => by
  have hx := hc p
  have h1 := nI_i y hy
  rw [hg, hh]
  by_cases e : c p = nI y
  · rw [lastEq_y e]
    have e2 : y = (c p).toInt.toNat := by rw [e]; omega
    rw [e2, pk_us, pk_us, hz]
    exact ⟨rfl, by rw [hN p (by omega), show ((p : Int)).toNat = p by omega]⟩
  · rw [lastEq_n e] at h0 ⊢
    have e2 : y ≠ (c p).toInt.toNat := fun q => e (pm_eqI (by omega))
    rw [pk_un e2, pk_un e2]
    exact hA y hy h0
theorem GON_k {K L : Nat → Int} {s : Int32} {g : Nat} (hK : ∀ y z, y < 24 → z < 24 → bt s y = true → bt s z = true → (K y < K z ↔ L y < L z)) (h : GON K s g) : GON L s g := by
  obtain ⟨a, b, d⟩ := h
  refine ⟨a, b, fun y h1 h2 => ?_⟩
  have e1 := hK y g h1 a h2 b
  have e2 := hK g y a h1 b h2
  have e3 := d y h1 h2
  omega
theorem GOR_k {g h c : Nat → Int32} {n k ru m : Int} {p : Nat} {s r : Int32} (hc : ok24 c) (hg : GOR (rk g h ru) s r) (hA : SHA g h c n p) (hI : SHI c k p s m) (hp : (p : Int) < n ∧ n ≤ 160) (hx : bt s (c p).toInt.toNat = false) : GOR (sk c n ru p) s r := by
  obtain ⟨w, w1, w2⟩ := hg
  refine ⟨w, w1, GON_k (fun y z hy hz by1 bz1 => ?_) w2⟩
  have key : ∀ y, y < 24 → bt s y = true → (g y).toInt = lastEq c (nI y) p ∧ ((nf c n (nI y) p < 0 ∧ (h y).toInt = 160) ∨ (¬ nf c n (nI y) p < 0 ∧ (h y).toInt = nf c n (nI y) p ∧ nf c n (nI y) p < 160)) := by
    intro y hy hb
    obtain ⟨j, j1, j2⟩ := hI.2.1 y hb
    have hj := hc j
    have hn := nI_i y hy
    have e : c j = nI y := pm_eqI (by omega)
    have l1 := lastEq_ge (c := c) (x := nI y) p j j1 e
    have l2 := lastEq_lt c (nI y) p
    have l3 := lastEq_is (c := c) (x := nI y) p (by omega)
    obtain ⟨q1, q2⟩ := hA y hy (by omega)
    have hne : ¬ c p = nI y := fun q => by
      rw [q, show (nI y).toInt.toNat = y by omega, hb] at hx; cases hx
    have e3 : nf c n (c (lastEq c (nI y) p).toNat) (lastEq c (nI y) p).toNat = nf c n (nI y) p := by
      rw [l3]
      rcases nf_r c n (nI y) p with u | u
      · rw [u]
        refine nf_no (fun i a1 a2 a3 => ?_)
        by_cases b1' : i < p
        · have := lastEq_ge (c := c) (x := nI y) p i b1' a3; omega
        · by_cases b2 : i = p
          · subst b2; exact hne a3
          · have := nf_le (c := c) (n := n) (x := nI y) (p := p) (j := i) (by omega) a2 a3; omega
      · have a3 := nf_is (c := c) (n := n) (x := nI y) (p := p) (by omega)
        rw [nf_at (c := c) (n := n) (x := nI y) (p := (lastEq c (nI y) p).toNat) (j := (nf c n (nI y) p).toNat) (by omega) (by omega) a3 (fun i b1' b2 b3 => by
          by_cases b4 : i < p
          · have := lastEq_ge (c := c) (x := nI y) p i b4 b3; omega
          · by_cases b5 : i = p
            · subst b5; exact hne b3
            · have := nf_le (c := c) (n := n) (x := nI y) (p := p) (j := i) (by omega) (by omega) b3; omega)]
        omega
    unfold nx at q2
    rw [e3] at q2
    refine ⟨q1, ?_⟩
    have u := nf_r c n (nI y) p
    by_cases v : nf c n (nI y) p < 0
    · rw [if_pos v] at q2; exact Or.inl ⟨v, q2⟩
    · rw [if_neg v] at q2; exact Or.inr ⟨v, q2, by omega⟩
  obtain ⟨a1, a2⟩ := key y hy by1
  obtain ⟨d1, d2⟩ := key z hz bz1
  unfold rk sk
  by_cases e : ru = 0
  · rw [if_pos e, if_pos e, if_pos e, if_pos e]; omega
  · rw [if_neg e, if_neg e, if_neg e, if_neg e]
    rcases a2 with ⟨p1', p2⟩ | ⟨p1', p2⟩
    · rw [if_pos p1']
      rcases d2 with ⟨q1, q2⟩ | ⟨q1, q2⟩
      · rw [if_pos q1]; omega
      · rw [if_neg q1]; omega
    · rw [if_neg p1']
      rcases d2 with ⟨q1, q2⟩ | ⟨q1, q2⟩
      · rw [if_pos q1]; omega
      · rw [if_neg q1]; omega
end
section
section
variable {l : Launch} {g : pm_G} {A0 : pm_H} {K nn dn : Nat} {q : Nat → Nat} {w : Nat → Int32} {e : Nat → Nat → Int32} {v : Nat → Int32} {f : Nat → Nat → Int32}
set_option maxRecDepth 100000 in
set_option maxHeartbeats 2000000 in
theorem F_X8_canBe (A : pm_H) (x0 : Int32) (x1 : Int32)  : pm_Mt l g 121 0 0 0 [.int x0, .int x1] A (md_Qp A (fun r => (r = 1 ∧ ((1 ≤ x0.toInt ∧ x0.toInt ≤ 24) ∧ 0 ≤ x1.toInt ∧ x1.toInt ≤ 1)) ∨ (r = 0 ∧ (¬ ((1 ≤ x0.toInt ∧ x0.toInt ≤ 24) ∧ 0 ≤ x1.toInt ∧ x1.toInt ≤ 1))))) := by
  refine mt_X8_canBe rfl (fun J hC => ?_)
  have rg_x0 := pm_rng x0
  have rg_x1 := pm_rng x1
  refine hC.1 0 0 _ _ rfl _ _ _ _ _ ?_
  have k1 : (1 : Int32).toInt = 1 := rfl
  refine And.intro (fun c1 => ?_) (fun c1 => ?_)
  · skip
    refine hC.1 2 24 _ _ rfl _ _ _ _ _ ?_
    have k0 : (0 : Int32).toInt = 0 := rfl
    refine hC.1 3 25 _ _ rfl _ _ _ _ _ ?_
    exact ⟨rfl, fun _ => (by decide), rfl, (0 : Int32), rfl, rfl, Or.inr ⟨rfl, by first | omega | (dsimp only; omega) | trivial⟩⟩
  · skip
    have k24 : (24 : Int32).toInt = 24 := rfl
    refine And.intro (fun c2 => ?_) (fun c2 => ?_)
    · skip
      refine hC.1 2 24 _ _ rfl _ _ _ _ _ ?_
      have k0 : (0 : Int32).toInt = 0 := rfl
      refine hC.1 3 25 _ _ rfl _ _ _ _ _ ?_
      exact ⟨rfl, fun _ => (by decide), rfl, (0 : Int32), rfl, rfl, Or.inr ⟨rfl, by first | omega | (dsimp only; omega) | trivial⟩⟩
    · skip
      refine And.intro (fun c3 => ?_) (fun c3 => ?_)
      · skip
        have dc3 : (x1).toInt = (0 : Int32).toInt := congrArg Int32.toInt c3
        have k0 : (0 : Int32).toInt = 0 := rfl
        refine hC.1 1 20 _ _ rfl _ _ _ _ _ ?_
        refine hC.1 3 25 _ _ rfl _ _ _ _ _ ?_
        exact ⟨rfl, fun _ => (by decide), rfl, (1 : Int32), rfl, rfl, Or.inl ⟨rfl, by first | omega | (dsimp only; omega) | trivial⟩⟩
      · skip
        have dc3 := pm_neI c3
        have k0 : (0 : Int32).toInt = 0 := rfl
        refine And.intro (fun c4 => ?_) (fun c4 => ?_)
        · skip
          have dc4 := pm_neI c4
          refine hC.1 2 24 _ _ rfl _ _ _ _ _ ?_
          refine hC.1 3 25 _ _ rfl _ _ _ _ _ ?_
          exact ⟨rfl, fun _ => (by decide), rfl, (0 : Int32), rfl, rfl, Or.inr ⟨rfl, by first | omega | (dsimp only; omega) | trivial⟩⟩
        · skip
          have dc4 : (x1).toInt = ((1 : Int32) : Int32).toInt := congrArg Int32.toInt c4
          refine hC.1 1 20 _ _ rfl _ _ _ _ _ ?_
          refine hC.1 3 25 _ _ rfl _ _ _ _ _ ?_
          exact ⟨rfl, fun _ => (by decide), rfl, (1 : Int32), rfl, rfl, Or.inl ⟨rfl, by first | omega | (dsimp only; omega) | trivial⟩⟩

set_option maxRecDepth 100000 in
set_option maxHeartbeats 2000000 in
theorem F_X8_findNextAlike (hI : cw_I K nn dn q w e) (hs : cw_S v f) {o1 : Nat} (ho1 : cw_ro K o1) (p0 : bd (w o1) (e (o1 + 1)) (e (o1 + 3))) : pm_Mt l g 123 1 0 0 [.ref (q 6), .ref (q o1)] (cw A0 g K nn dn q w e v f) (cw_Qs A0 g K nn dn q w e (fun r v2 f2 => r = none ∧ ((True) ∧ (NXB (f2 22) (e (o1 + 1)) (w o1).toInt)))) := by
  refine mt_X8_findNextAlike rfl (fun J hC => ?_)
  have ro_nn : cw_ro K nn := hI.2.1.2.1
  have ro_dn : cw_ro K dn := hI.2.1.2.2.1
  have hu1 := hI.2.1
  unfold cw_W at hu1
  have zz0 := cw_sz hI ho1
  refine hC.1 0 0 _ _ rfl _ _ _ _ _ ?_
  refine Exists.intro _ (And.intro (cw_o6 hI.1) ?_)
  have k160 : (160 : Int32).toInt = 160 := rfl
  refine Exists.intro _ (Exists.intro _ (Exists.intro _ (Exists.intro _ (And.intro (c_fill (cw_a22 hI.1) (by decide) (160 : Int32)) (And.intro rfl (fun r9 A9 h9 => ?_))))))
  obtain ⟨rfl, rfl⟩ := h9
  rw [cw_s22 hI.1]
  obtain ⟨f2, ef2⟩ : ∃ z9, z9 = va_up f 22 (fun j => if j < 160 then (160 : Int32) else f 22 j) := ⟨_, rfl⟩
  rw [← ef2]
  have hs2 : cw_S v f2 := by rw [ef2]; exact cw_S_fr hs _ _ (by decide) (by decide)
  have pf_7 := ef2
  have k0 : (0 : Int32).toInt = 0 := rfl
  have lp4 : ∀ (n : Nat) (z2_12 : Int32) (v3 : Nat → Int32) (f3 : Nat → Nat → Int32), cw_S v3 f3 → (0 ≤ z2_12.toInt ∧ z2_12.toInt ≤ (w o1).toInt) → (NXB (f3 22) (e (o1 + 1)) z2_12.toInt) → 200 - z2_12.toInt < (n : Int) → J 12 [some (.ref (q 6)), some (.ref (q o1)), some (.int z2_12)] [] (cw A0 g K nn dn q w e v3 f3) 0 0 := by
    intro n
    induction n with
    | zero =>
      intro z2_12 v3 f3 hs3 j0_12 j1_12 j2_12
      omega
    | succ n ih5 =>
      intro z2_12 v3 f3 hs3 j0_12 j1_12 j2_12
      refine hC.1 1 12 _ _ rfl _ _ _ _ _ ?_
      refine Exists.intro _ (And.intro (cw_ro_o hI.1 ho1) ?_)
      have z6 := cw_sz hI ho1
      refine And.intro (fun c7 => ?_) (fun c7 => ?_)
      · skip
        refine hC.1 3 48 _ _ rfl _ _ _ _ _ ?_
        exact ⟨rfl, rfl, v3, f3, rfl, hs3, rfl, by exact True.intro, by rw [show (w o1).toInt = z2_12.toInt by omega]; exact j1_12⟩
      · skip
        refine Exists.intro _ (And.intro (cw_ro_o hI.1 ho1) ?_)
        have ba_9 := p0 z2_12.toInt.toNat (by omega)
        refine Exists.intro _ (Exists.intro _ (And.intro (Or.inl (cw_ro_3 hI.1 ho1)) (And.intro (by omega) ?_)))
        have w8 := cw_ahd hI ho1 (z2_12).toInt.toNat
        have km1 : (-1 : Int32).toInt = -1 := rfl
        refine And.intro (fun c9 => ?_) (fun c9 => ?_)
        · skip
          have dc9 : ((e (o1 + 3) (z2_12).toInt.toNat)).toInt = ((-1 : Int32) : Int32).toInt := congrArg Int32.toInt c9
          refine hC.1 2 42 _ _ rfl _ _ _ _ _ ?_
          have k1 : (1 : Int32).toInt = 1 := rfl
          intro m10 em_42
          try have e10 : m10.toInt = (z2_12).toInt + (1) := by rw [em_42]; exact pm_addc _ _ (1) rfl (by omega) (by omega)
          exact ih5 m10 v3 f3 hs3 (by omega) (by rw [show m10.toInt = z2_12.toInt + 1 by omega]; first | (rw [pf_41, va_us]; exact NXB_y j1_12 (by omega) ba_9 (by omega) rfl) | (exact NXB_n j1_12 (by omega) ba_9 (by omega))) (by omega)
        · skip
          have dc9 := pm_neI c9
          refine Exists.intro _ (And.intro (cw_o6 hI.1) ?_)
          refine Exists.intro _ (And.intro (cw_ro_o hI.1 ho1) ?_)
          refine Exists.intro _ (Exists.intro _ (And.intro (Or.inl (cw_ro_3 hI.1 ho1)) (And.intro (by omega) ?_)))
          have w11 := cw_ahd hI ho1 (z2_12).toInt.toNat
          refine Exists.intro _ (Exists.intro _ (And.intro (cw_a22 hI.1) (And.intro (by omega) ?_)))
          rw [cw_s22 hI.1]
          obtain ⟨f12, ef12⟩ : ∃ z9, z9 = va_up f3 22 (upd (f3 22) ((e (o1 + 3) (z2_12).toInt.toNat)).toInt.toNat z2_12) := ⟨_, rfl⟩
          rw [← ef12]
          have hs12 : cw_S v3 f12 := by rw [ef12]; exact cw_S_fr hs3 _ _ (by decide) (by decide)
          have pf_41 := ef12
          refine hC.1 2 42 _ _ rfl _ _ _ _ _ ?_
          have k1 : (1 : Int32).toInt = 1 := rfl
          intro m13 em_42
          try have e13 : m13.toInt = (z2_12).toInt + (1) := by rw [em_42]; exact pm_addc _ _ (1) rfl (by omega) (by omega)
          exact ih5 m13 v3 f12 hs12 (by omega) (by rw [show m13.toInt = z2_12.toInt + 1 by omega]; first | (rw [pf_41, va_us]; exact NXB_y j1_12 (by omega) ba_9 (by omega) rfl) | (exact NXB_n j1_12 (by omega) ba_9 (by omega))) (by omega)
  exact lp4 (200 - (0 : Int32).toInt).toNat.succ (0 : Int32) v f2 hs2 (by omega) (by intro j9 h9; have h8 : f2 22 j9 = (160 : Int32) := (by rw [pf_7, va_us, if_pos h9]); rw [h8, k0]; exact (nx_0 _ _).symm) (by omega)

set_option maxRecDepth 100000 in
set_option maxHeartbeats 2000000 in
theorem F_X8_goesRather (hI : cw_I K nn dn q w e) (hs : cw_S v f) (x1 : Int32) (x2 : Int32) (x3 : Int32) (p0 : 0 ≤ x1.toInt ∧ x1.toInt ≤ 23) (p1 : 0 ≤ x2.toInt ∧ x2.toInt ≤ 23) : pm_Mt l g 125 0 0 0 [.ref (q 6), .int x1, .int x2, .int x3] (cw A0 g K nn dn q w e v f) (md_Qp (cw A0 g K nn dn q w e v f) (fun r => (r = 1 ∧ ((x3.toInt = 0 ∧ (f 23 x1.toInt.toNat).toInt < (f 23 x2.toInt.toNat).toInt) ∨ (¬ x3.toInt = 0 ∧ (f 24 x2.toInt.toNat).toInt < (f 24 x1.toInt.toNat).toInt))) ∨ (r = 0 ∧ (¬ ((x3.toInt = 0 ∧ (f 23 x1.toInt.toNat).toInt < (f 23 x2.toInt.toNat).toInt) ∨ (¬ x3.toInt = 0 ∧ (f 24 x2.toInt.toNat).toInt < (f 24 x1.toInt.toNat).toInt)))))) := by
  refine mt_X8_goesRather rfl (fun J hC => ?_)
  have ro_nn : cw_ro K nn := hI.2.1.2.1
  have ro_dn : cw_ro K dn := hI.2.1.2.2.1
  have hu1 := hI.2.1
  unfold cw_W at hu1
  have rg_x1 := pm_rng x1
  have rg_x2 := pm_rng x2
  have rg_x3 := pm_rng x3
  refine hC.1 0 0 _ _ rfl _ _ _ _ _ ?_
  refine And.intro (fun c2 => ?_) (fun c2 => ?_)
  · skip
    have dc2 := pm_neI c2
    have k0 : (0 : Int32).toInt = 0 := rfl
    refine hC.1 3 25 _ _ rfl _ _ _ _ _ ?_
    refine Exists.intro _ (And.intro (cw_o6 hI.1) ?_)
    refine Exists.intro _ (Exists.intro _ (And.intro (Or.inl (cw_a24 hI.1)) (And.intro (by omega) ?_)))
    refine Exists.intro _ (And.intro (cw_o6 hI.1) ?_)
    refine Exists.intro _ (Exists.intro _ (And.intro (Or.inl (cw_a24 hI.1)) (And.intro (by omega) ?_)))
    refine And.intro (fun c3 => ?_) (fun c3 => ?_)
    · skip
      refine hC.1 4 44 _ _ rfl _ _ _ _ _ ?_
      refine hC.1 5 45 _ _ rfl _ _ _ _ _ ?_
      exact ⟨rfl, fun _ => (by decide), rfl, (0 : Int32), rfl, rfl, Or.inr ⟨rfl, by first | omega | (dsimp only; omega) | trivial⟩⟩
    · skip
      have k1 : (1 : Int32).toInt = 1 := rfl
      refine hC.1 5 45 _ _ rfl _ _ _ _ _ ?_
      exact ⟨rfl, fun _ => (by decide), rfl, (1 : Int32), rfl, rfl, Or.inl ⟨rfl, by first | omega | (dsimp only; omega) | trivial⟩⟩
  · skip
    have dc2 : (x3).toInt = (0 : Int32).toInt := congrArg Int32.toInt c2
    have k0 : (0 : Int32).toInt = 0 := rfl
    refine Exists.intro _ (And.intro (cw_o6 hI.1) ?_)
    refine Exists.intro _ (Exists.intro _ (And.intro (Or.inl (cw_a23 hI.1)) (And.intro (by omega) ?_)))
    refine Exists.intro _ (And.intro (cw_o6 hI.1) ?_)
    refine Exists.intro _ (Exists.intro _ (And.intro (Or.inl (cw_a23 hI.1)) (And.intro (by omega) ?_)))
    refine And.intro (fun c4 => ?_) (fun c4 => ?_)
    · skip
      refine hC.1 1 23 _ _ rfl _ _ _ _ _ ?_
      refine hC.1 2 24 _ _ rfl _ _ _ _ _ ?_
      exact ⟨rfl, fun _ => (by decide), rfl, (0 : Int32), rfl, rfl, Or.inr ⟨rfl, by first | omega | (dsimp only; omega) | trivial⟩⟩
    · skip
      have k1 : (1 : Int32).toInt = 1 := rfl
      refine hC.1 2 24 _ _ rfl _ _ _ _ _ ?_
      exact ⟨rfl, fun _ => (by decide), rfl, (1 : Int32), rfl, rfl, Or.inl ⟨rfl, by first | omega | (dsimp only; omega) | trivial⟩⟩

set_option maxRecDepth 100000 in
set_option maxHeartbeats 2000000 in
theorem F_X8_oneToGo (hI : cw_I K nn dn q w e) (hs : cw_S v f) (x1 : Int32) (p0 : EXB (v 12)) : pm_Mt l g 124 1 0 0 [.ref (q 6), .int x1] (cw A0 g K nn dn q w e v f) (md_Qp (cw A0 g K nn dn q w e v f) (fun r => (0 ≤ r.toInt ∧ r.toInt ≤ 23) ∧ GOR (rk (f 23) (f 24) x1.toInt) (v 12) r)) := by
  refine mt_X8_oneToGo rfl (fun J hC => ?_)
  have ro_nn : cw_ro K nn := hI.2.1.2.1
  have ro_dn : cw_ro K dn := hI.2.1.2.2.1
  have hu1 := hI.2.1
  unfold cw_W at hu1
  have rg_x1 := pm_rng x1
  refine hC.1 0 0 _ _ rfl _ _ _ _ _ ?_
  have km1 : (-1 : Int32).toInt = -1 := rfl
  have k0 : (0 : Int32).toInt = 0 := rfl
  have lp3 : ∀ (n : Nat) (z2_4 : Int32) (z3_4 : Int32), (0 ≤ z3_4.toInt ∧ z3_4.toInt ≤ 24) → (-1 ≤ z2_4.toInt ∧ z2_4.toInt ≤ 23) → (GC (rk (f 23) (f 24) x1.toInt) (v 12) z3_4.toInt z2_4.toInt) → 200 - z3_4.toInt < (n : Int) → J 4 [some (.ref (q 6)), some (.int x1), some (.int z2_4), some (.int z3_4)] [] (cw A0 g K nn dn q w e v f) 0 0 := by
    intro n
    induction n with
    | zero =>
      intro z2_4 z3_4 j0_4 j1_4 j2_4 j3_4
      omega
    | succ n ih4 =>
      intro z2_4 z3_4 j0_4 j1_4 j2_4 j3_4
      refine hC.1 1 4 _ _ rfl _ _ _ _ _ ?_
      have k24 : (24 : Int32).toInt = 24 := rfl
      refine And.intro (fun c5 => ?_) (fun c5 => ?_)
      · skip
        refine hC.1 4 44 _ _ rfl _ _ _ _ _ ?_
        refine Exists.intro _ (Exists.intro _ (Exists.intro _ (Exists.intro _ (And.intro (c_J9_max_7cf53 (cw A0 g K nn dn q w e v f) z2_4 (0 : Int32) ) (And.intro rfl (fun r9 A9 h9 => ?_))))))
        obtain ⟨y6, rfl, rfl, by6⟩ := h9
        exact ⟨rfl, fun e9 => absurd e9 (by decide), rfl, y6, rfl, rfl, by exact GC_e2 j2_4 (by omega) p0 (by omega)⟩
      · skip
        refine Exists.intro _ (And.intro (cw_o6 hI.1) ?_)
        have k1 : (1 : Int32).toInt = 1 := rfl
        refine And.intro (fun c8 => ?_) (fun c8 => ?_)
        · skip
          have dc8 : (((v 12) &&& ((1 : Int32) <<< (z3_4 &&& 31)))).toInt = (0 : Int32).toInt := congrArg Int32.toInt c8
          refine hC.1 3 38 _ _ rfl _ _ _ _ _ ?_
          intro m9 em_38
          try have e9 : m9.toInt = (z3_4).toInt + (1) := by rw [em_38]; exact pm_addc _ _ (1) rfl (by omega) (by omega)
          exact ih4 z2_4 m9 (by omega) (by omega) (by rw [show m9.toInt = z3_4.toInt + 1 by omega]; first | (exact GC_n (by omega) j2_4 ((an_1 (by omega)).mp (by assumption))) | (exact GC_y (by omega) j2_4 (an_t (by omega) (by assumption)) (Or.inr (rk_y yr_9))) | (exact GC_o (by omega) j2_4 ⟨by omega, rk_n yr_9⟩) | (exact GC_y (by omega) j2_4 (an_t (by omega) (by assumption)) (Or.inl (by omega)))) (by omega)
        · skip
          have dc8 := pm_neI c8
          refine And.intro (fun c10 => ?_) (fun c10 => ?_)
          · skip
            have dc10 : (z2_4).toInt = ((-1 : Int32) : Int32).toInt := congrArg Int32.toInt c10
            refine hC.1 2 36 _ _ rfl _ _ _ _ _ ?_
            refine hC.1 3 38 _ _ rfl _ _ _ _ _ ?_
            intro m11 em_38
            try have e11 : m11.toInt = (z3_4).toInt + (1) := by rw [em_38]; exact pm_addc _ _ (1) rfl (by omega) (by omega)
            exact ih4 z3_4 m11 (by omega) (by omega) (by rw [show m11.toInt = z3_4.toInt + 1 by omega]; first | (exact GC_n (by omega) j2_4 ((an_1 (by omega)).mp (by assumption))) | (exact GC_y (by omega) j2_4 (an_t (by omega) (by assumption)) (Or.inr (rk_y yr_9))) | (exact GC_o (by omega) j2_4 ⟨by omega, rk_n yr_9⟩) | (exact GC_y (by omega) j2_4 (an_t (by omega) (by assumption)) (Or.inl (by omega)))) (by omega)
          · skip
            have dc10 := pm_neI c10
            refine And.intro (Exists.intro _ (cw_o6 hI.1)) (Exists.intro _ (Exists.intro _ (Exists.intro _ (Exists.intro _ (And.intro (F_X8_goesRather hI hs z3_4 z2_4 x1 (by omega) (by omega)) (And.intro rfl (fun r9 A9 h9 => ?_)))))))
            rcases h9 with ⟨y12, rfl, rfl, ⟨rfl, by12⟩ | ⟨rfl, by12⟩⟩
            · skip
              have yr_9 := by12
              refine And.intro (fun c9 => absurd c9 (by decide)) (fun _ => ?_)
              refine hC.1 2 36 _ _ rfl _ _ _ _ _ ?_
              refine hC.1 3 38 _ _ rfl _ _ _ _ _ ?_
              intro m14 em_38
              try have e14 : m14.toInt = (z3_4).toInt + (1) := by rw [em_38]; exact pm_addc _ _ (1) rfl (by omega) (by omega)
              exact ih4 z3_4 m14 (by omega) (by omega) (by rw [show m14.toInt = z3_4.toInt + 1 by omega]; first | (exact GC_n (by omega) j2_4 ((an_1 (by omega)).mp (by assumption))) | (exact GC_y (by omega) j2_4 (an_t (by omega) (by assumption)) (Or.inr (rk_y yr_9))) | (exact GC_o (by omega) j2_4 ⟨by omega, rk_n yr_9⟩) | (exact GC_y (by omega) j2_4 (an_t (by omega) (by assumption)) (Or.inl (by omega)))) (by omega)
            · skip
              have yr_9 := by12
              refine And.intro (fun _ => ?_) (fun c9 => absurd c9 (by decide))
              refine hC.1 3 38 _ _ rfl _ _ _ _ _ ?_
              intro m15 em_38
              try have e15 : m15.toInt = (z3_4).toInt + (1) := by rw [em_38]; exact pm_addc _ _ (1) rfl (by omega) (by omega)
              exact ih4 z2_4 m15 (by omega) (by omega) (by rw [show m15.toInt = z3_4.toInt + 1 by omega]; first | (exact GC_n (by omega) j2_4 ((an_1 (by omega)).mp (by assumption))) | (exact GC_y (by omega) j2_4 (an_t (by omega) (by assumption)) (Or.inr (rk_y yr_9))) | (exact GC_o (by omega) j2_4 ⟨by omega, rk_n yr_9⟩) | (exact GC_y (by omega) j2_4 (an_t (by omega) (by assumption)) (Or.inl (by omega)))) (by omega)
  exact lp3 (200 - (0 : Int32).toInt).toNat.succ (-1 : Int32) (0 : Int32) (by omega) (by omega) (by rw [k0, km1]; exact GC_0 _ _) (by omega)

end
end
section
section
variable {l : Launch} {g : pm_G} {A0 : pm_H} {K nn dn : Nat} {q : Nat → Nat} {w : Nat → Int32} {e : Nat → Nat → Int32} {v : Nat → Int32} {f : Nat → Nat → Int32}
set_option maxRecDepth 100000 in
set_option maxHeartbeats 2000000 in
theorem F_X8_goThrough (hI : cw_I K nn dn q w e) (hs : cw_S v f) {o1 : Nat} (ho1 : cw_ro K o1) (x2 : Int32) (x3 : Int32) (x4 : Int32) (p0 : -1 ≤ x2.toInt ∧ x2.toInt < (w o1).toInt) (p1 : 1 ≤ x3.toInt ∧ x3.toInt ≤ 24) (p2 : bd (w o1) (e (o1 + 1)) (e (o1 + 3))) : pm_Mt l g 122 2 0 0 [.ref (q 6), .ref (q o1), .int x2, .int x3, .int x4] (cw A0 g K nn dn q w e v f) (cw_Qs A0 g K nn dn q w e (fun r v2 f2 => r = none ∧ ((True) ∧ (SHL (e (o1 + 1)) (w o1).toInt x3.toInt x4.toInt (x2.toInt + 1).toNat (v2 12) (v2 11).toInt)))) := by
  refine mt_X8_goThrough rfl (fun J hC => ?_)
  have ro_nn : cw_ro K nn := hI.2.1.2.1
  have ro_dn : cw_ro K dn := hI.2.1.2.2.1
  have hu1 := hI.2.1
  unfold cw_W at hu1
  have rg_x2 := pm_rng x2
  have rg_x3 := pm_rng x3
  have rg_x4 := pm_rng x4
  have zz0 := cw_sz hI ho1
  refine hC.1 0 0 _ _ rfl _ _ _ _ _ ?_
  refine And.intro (Exists.intro _ (cw_o6 hI.1)) (Exists.intro _ (Exists.intro _ (Exists.intro _ (Exists.intro _ (And.intro (F_X8_findNextAlike hI hs ho1 (by exact p2)) (And.intro rfl (fun r9 A9 h9 => ?_)))))))
  rcases h9 with ⟨v3, f3, rfl, hs3, rfl, by2⟩
  have yx_9 := by2.2
  have k0 : (0 : Int32).toInt = 0 := rfl
  refine Exists.intro _ (And.intro (cw_o6 hI.1) (And.intro rfl ?_))
  rw [cw_p_missed hI.1]
  obtain ⟨v4, ev4⟩ : ∃ z9, z9 = upd v3 11 (0 : Int32) := ⟨_, rfl⟩
  rw [← ev4]
  have hs4 : cw_S v4 f3 := by rw [ev4]; exact cw_S_v hs3 11 _ (by decide)
  have ev4_0 : (v4 0).toInt = (v3 0).toInt := by rw [ev4]; rfl
  have pv_7 := ev4
  refine Exists.intro _ (And.intro (cw_o6 hI.1) (And.intro rfl ?_))
  rw [cw_p_sbits hI.1]
  obtain ⟨v5, ev5⟩ : ∃ z9, z9 = upd v4 12 (0 : Int32) := ⟨_, rfl⟩
  rw [← ev5]
  have hs5 : cw_S v5 f3 := by rw [ev5]; exact cw_S_v hs4 12 _ (by decide)
  have ev5_0 : (v5 0).toInt = (v4 0).toInt := by rw [ev5]; rfl
  have pv_12 := ev5
  have lp7 : ∀ (n : Nat) (z5_18 : Int32) (v6 : Nat → Int32) (f6 : Nat → Nat → Int32), cw_S v6 f6 → (0 ≤ z5_18.toInt ∧ z5_18.toInt ≤ x2.toInt + 1) → (SHL (e (o1 + 1)) (w o1).toInt x3.toInt x4.toInt z5_18.toInt.toNat (v6 12) (v6 11).toInt) → (SHA (f6 23) (f6 24) (e (o1 + 1)) (w o1).toInt z5_18.toInt.toNat) → (NXB (f6 22) (e (o1 + 1)) (w o1).toInt) → 200 - z5_18.toInt < (n : Int) → J 18 [some (.ref (q 6)), some (.ref (q o1)), some (.int x2), some (.int x3), some (.int x4), some (.int z5_18), none] [] (cw A0 g K nn dn q w e v6 f6) 0 0 := by
    intro n
    induction n with
    | zero =>
      intro z5_18 v6 f6 hs6 j0_18 j1_18 j2_18 j3_18 j4_18
      omega
    | succ n ih8 =>
      intro z5_18 v6 f6 hs6 j0_18 j1_18 j2_18 j3_18 j4_18
      have yI_9 := SHL_I (fun j9 => cw_col hI ho1 j9) (by omega) _ j1_18
      obtain ⟨ys_9, ye_9⟩ : ∃ z9, z9 = v6 12 := ⟨_, rfl⟩
      obtain ⟨yt_9, yf_9⟩ : ∃ z9, z9 = (v6 11).toInt := ⟨_, rfl⟩
      rw [← ye_9, ← yf_9] at j1_18 yI_9
      have yn_9 := yI_9.2.2.2
      have yn_8 := yI_9.2.2.1
      have yw_9 := cw_col hI ho1 z5_18.toInt.toNat
      refine hC.1 1 18 _ _ rfl _ _ _ _ _ ?_
      refine And.intro (fun c9 => ?_) (fun c9 => ?_)
      · skip
        refine hC.1 4 136 _ _ rfl _ _ _ _ _ ?_
        exact ⟨rfl, rfl, v6, f6, rfl, hs6, rfl, by exact True.intro, by first | (exfalso; omega) | (rw [← ye_9, ← yf_9, show (x2.toInt + 1).toNat = z5_18.toInt.toNat by omega]; exact j1_18)⟩
      · skip
        refine And.intro (Exists.intro _ (cw_ro_o hI.1 ho1)) (Exists.intro _ (Exists.intro _ (Exists.intro _ (Exists.intro _ (And.intro (c_X7_has hI hs6 ho1 z5_18 ) (And.intro rfl (fun r9 A9 h9 => ?_)))))))
        rcases h9 with ⟨y10, rfl, rfl, ⟨rfl, by10⟩ | ⟨rfl, by10⟩⟩
        · skip
          have k1 : (1 : Int32).toInt = 1 := rfl
          refine And.intro (fun c9 => absurd c9 (by decide)) (fun _ => ?_)
          refine Exists.intro _ (And.intro (cw_ro_o hI.1 ho1) ?_)
          refine Exists.intro _ (Exists.intro _ (And.intro (Or.inl (cw_ro_1 hI.1 ho1)) (And.intro (by omega) ?_)))
          have w12 := cw_col hI ho1 (z5_18).toInt.toNat
          refine Exists.intro _ (And.intro (cw_o6 hI.1) ?_)
          refine And.intro (fun c13 => ?_) (fun c13 => ?_)
          · skip
            have dc13 := pm_neI c13
            refine hC.1 3 107 _ _ rfl _ _ _ _ _ ?_
            try have yb_8 : bt ys_9 ((e (o1 + 1)) z5_18.toInt.toNat).toInt.toNat = true := (by rw [ye_9]; exact an_t (by omega) (by assumption))
            refine Exists.intro _ (And.intro (cw_o6 hI.1) ?_)
            refine Exists.intro _ (Exists.intro _ (And.intro (cw_a23 hI.1) (And.intro (by omega) ?_)))
            rw [cw_s23 hI.1]
            obtain ⟨f14, ef14⟩ : ∃ z9, z9 = va_up f6 23 (upd (f6 23) ((e (o1 + 1) (z5_18).toInt.toNat)).toInt.toNat z5_18) := ⟨_, rfl⟩
            rw [← ef14]
            have hs14 : cw_S v6 f14 := by rw [ef14]; exact cw_S_fr hs6 _ _ (by decide) (by decide)
            have pf_115 := ef14
            refine Exists.intro _ (And.intro (cw_o6 hI.1) ?_)
            refine Exists.intro _ (And.intro (cw_o6 hI.1) ?_)
            refine Exists.intro _ (Exists.intro _ (And.intro (Or.inl (cw_a22 hI.1)) (And.intro (by omega) ?_)))
            refine Exists.intro _ (Exists.intro _ (And.intro (cw_a24 hI.1) (And.intro (by omega) ?_)))
            rw [cw_s24 hI.1]
            obtain ⟨f15, ef15⟩ : ∃ z9, z9 = va_up f14 24 (upd (f14 24) ((e (o1 + 1) (z5_18).toInt.toNat)).toInt.toNat (f14 22 (z5_18).toInt.toNat)) := ⟨_, rfl⟩
            rw [← ef15]
            have hs15 : cw_S v6 f15 := by rw [ef15]; exact cw_S_fr hs14 _ _ (by decide) (by decide)
            have pf_129 := ef15
            intro m16 em_130
            try have e16 : m16.toInt = (z5_18).toInt + (1) := by rw [em_130]; exact pm_addc _ _ (1) rfl (by omega) (by omega)
            exact hC.2 [false, false, false, false, false, false, true] _ _ _ _ _ _ (ih8 m16 v6 f15 hs15 (by omega) (by rw [show m16.toInt.toNat = z5_18.toInt.toNat + 1 by omega]; first | (rw [← ye_9, ← yf_9]; exact SHL_y j1_18 yb_8) | (exact SHL_r j1_18 yb_9 (by omega) yg_8 rfl (by rw [pv_104, pk_us, pv_91, pk_us, pv_61, pk_un (by decide), ← ye_9]) (by rw [pv_104, pk_un (by decide), pv_91, pk_un (by decide), pv_61, pk_us]; omega)) | (exact SHL_a j1_18 yb_9 (by omega) (by rw [pv_104, pk_us, pv_61, pk_un (by decide), ← ye_9]) (by rw [pv_104, pk_un (by decide), pv_61, pk_us]; omega))) (by rw [show m16.toInt.toNat = z5_18.toInt.toNat + 1 by omega]; exact SHA_s (z := z5_18) (fun j9 => cw_col hI ho1 j9) j2_18 j3_18 (by omega) (by rw [pf_129, va_un (by decide), pf_115, va_us]) (by omega) (by rw [pf_129, va_us, pf_115, va_un (by decide), va_un (by decide)])) (by rw [pf_129, va_un (by decide), pf_115, va_un (by decide)]; exact j3_18) (by omega))
          · skip
            have dc13 : (((v6 12) &&& ((1 : Int32) <<< ((e (o1 + 1) (z5_18).toInt.toNat) &&& 31)))).toInt = (0 : Int32).toInt := congrArg Int32.toInt c13
            have yb_9 : bt ys_9 ((e (o1 + 1)) z5_18.toInt.toNat).toInt.toNat = false := (by rw [ye_9]; exact (an_1 (by omega)).mp (by assumption))
            refine Exists.intro _ (And.intro (cw_o6 hI.1) ?_)
            intro m17 em_60
            try have e17 : m17.toInt = ((v6 11)).toInt + (1) := by rw [em_60]; exact pm_addc _ _ (1) rfl (by omega) (by omega)
            refine Exists.intro _ (And.intro (cw_o6 hI.1) (And.intro rfl ?_))
            rw [cw_p_missed hI.1]
            obtain ⟨v18, ev18⟩ : ∃ z9, z9 = upd v6 11 m17 := ⟨_, rfl⟩
            rw [← ev18]
            have hs18 : cw_S v18 f6 := by rw [ev18]; exact cw_S_v hs6 11 _ (by decide)
            have ev18_0 : (v18 0).toInt = (v6 0).toInt := by rw [ev18]; rfl
            have pv_61 := ev18
            refine Exists.intro _ (And.intro (cw_o6 hI.1) ?_)
            refine Exists.intro _ (Exists.intro _ (Exists.intro _ (Exists.intro _ (And.intro (F_J6_bitCount_0f7a4 (cw A0 g K nn dn q w e v18 f6) (v18 12) ) (And.intro rfl (fun r9 A9 h9 => ?_))))))
            obtain ⟨y19, rfl, rfl, by19⟩ := h9
            have yc_9 := by19
            rw [pv_61, pk_un (by decide), ← ye_9] at yc_9
            refine And.intro (fun c21 => ?_) (fun c21 => ?_)
            · skip
              refine hC.1 2 94 _ _ rfl _ _ _ _ _ ?_
              refine Exists.intro _ (And.intro (cw_o6 hI.1) ?_)
              refine Exists.intro _ (And.intro (cw_o6 hI.1) (And.intro rfl ?_))
              rw [cw_p_sbits hI.1]
              obtain ⟨v22, ev22⟩ : ∃ z9, z9 = upd v18 12 ((v18 12) ||| ((1 : Int32) <<< ((e (o1 + 1) (z5_18).toInt.toNat) &&& 31))) := ⟨_, rfl⟩
              rw [← ev22]
              have hs22 : cw_S v22 f6 := by rw [ev22]; exact cw_S_v hs18 12 _ (by decide)
              have ev22_0 : (v22 0).toInt = (v18 0).toInt := by rw [ev22]; rfl
              have pv_104 := ev22
              refine hC.1 3 107 _ _ rfl _ _ _ _ _ ?_
              try have yb_8 : bt ys_9 ((e (o1 + 1)) z5_18.toInt.toNat).toInt.toNat = true := (by rw [ye_9]; exact an_t (by omega) (by assumption))
              refine Exists.intro _ (And.intro (cw_o6 hI.1) ?_)
              refine Exists.intro _ (Exists.intro _ (And.intro (cw_a23 hI.1) (And.intro (by omega) ?_)))
              rw [cw_s23 hI.1]
              obtain ⟨f23, ef23⟩ : ∃ z9, z9 = va_up f6 23 (upd (f6 23) ((e (o1 + 1) (z5_18).toInt.toNat)).toInt.toNat z5_18) := ⟨_, rfl⟩
              rw [← ef23]
              have hs23 : cw_S v22 f23 := by rw [ef23]; exact cw_S_fr hs22 _ _ (by decide) (by decide)
              have pf_115 := ef23
              refine Exists.intro _ (And.intro (cw_o6 hI.1) ?_)
              refine Exists.intro _ (And.intro (cw_o6 hI.1) ?_)
              refine Exists.intro _ (Exists.intro _ (And.intro (Or.inl (cw_a22 hI.1)) (And.intro (by omega) ?_)))
              refine Exists.intro _ (Exists.intro _ (And.intro (cw_a24 hI.1) (And.intro (by omega) ?_)))
              rw [cw_s24 hI.1]
              obtain ⟨f24, ef24⟩ : ∃ z9, z9 = va_up f23 24 (upd (f23 24) ((e (o1 + 1) (z5_18).toInt.toNat)).toInt.toNat (f23 22 (z5_18).toInt.toNat)) := ⟨_, rfl⟩
              rw [← ef24]
              have hs24 : cw_S v22 f24 := by rw [ef24]; exact cw_S_fr hs23 _ _ (by decide) (by decide)
              have pf_129 := ef24
              intro m25 em_130
              try have e25 : m25.toInt = (z5_18).toInt + (1) := by rw [em_130]; exact pm_addc _ _ (1) rfl (by omega) (by omega)
              exact hC.2 [false, false, false, false, false, false, true] _ _ _ _ _ _ (ih8 m25 v22 f24 hs24 (by omega) (by rw [show m25.toInt.toNat = z5_18.toInt.toNat + 1 by omega]; first | (rw [← ye_9, ← yf_9]; exact SHL_y j1_18 yb_8) | (exact SHL_r j1_18 yb_9 (by omega) yg_8 rfl (by rw [pv_104, pk_us, pv_91, pk_us, pv_61, pk_un (by decide), ← ye_9]) (by rw [pv_104, pk_un (by decide), pv_91, pk_un (by decide), pv_61, pk_us]; omega)) | (exact SHL_a j1_18 yb_9 (by omega) (by rw [pv_104, pk_us, pv_61, pk_un (by decide), ← ye_9]) (by rw [pv_104, pk_un (by decide), pv_61, pk_us]; omega))) (by rw [show m25.toInt.toNat = z5_18.toInt.toNat + 1 by omega]; exact SHA_s (z := z5_18) (fun j9 => cw_col hI ho1 j9) j2_18 j3_18 (by omega) (by rw [pf_129, va_un (by decide), pf_115, va_us]) (by omega) (by rw [pf_129, va_us, pf_115, va_un (by decide), va_un (by decide)])) (by rw [pf_129, va_un (by decide), pf_115, va_un (by decide)]; exact j3_18) (by omega))
            · skip
              refine Exists.intro _ (And.intro (cw_o6 hI.1) ?_)
              refine And.intro (Exists.intro _ (cw_o6 hI.1)) (Exists.intro _ (Exists.intro _ (Exists.intro _ (Exists.intro _ (And.intro (F_X8_oneToGo hI hs18 x4 (by rw [pv_61, pk_un (by decide), ← ye_9]; exact SHI_ex yI_9 (by omega) (by omega))) (And.intro rfl (fun r9 A9 h9 => ?_)))))))
              obtain ⟨y26, rfl, rfl, by26⟩ := h9
              have yg_9 := by26.2
              rw [pv_61, pk_un (by decide), ← ye_9] at yg_9
              have yg_8 := GOR_k (m := yt_9) (k := x3.toInt) (fun j9 => cw_col hI ho1 j9) yg_9 j2_18 yI_9 (by omega) yb_9
              have km1 : (-1 : Int32).toInt = -1 := rfl
              refine Exists.intro _ (And.intro (cw_o6 hI.1) (And.intro rfl ?_))
              rw [cw_p_sbits hI.1]
              obtain ⟨v28, ev28⟩ : ∃ z9, z9 = upd v18 12 ((v18 12) &&& (((1 : Int32) <<< (y26 &&& 31)) ^^^ (-1 : Int32))) := ⟨_, rfl⟩
              rw [← ev28]
              have hs28 : cw_S v28 f6 := by rw [ev28]; exact cw_S_v hs18 12 _ (by decide)
              have ev28_0 : (v28 0).toInt = (v18 0).toInt := by rw [ev28]; rfl
              have pv_91 := ev28
              refine hC.1 2 94 _ _ rfl _ _ _ _ _ ?_
              refine Exists.intro _ (And.intro (cw_o6 hI.1) ?_)
              refine Exists.intro _ (And.intro (cw_o6 hI.1) (And.intro rfl ?_))
              rw [cw_p_sbits hI.1]
              obtain ⟨v29, ev29⟩ : ∃ z9, z9 = upd v28 12 ((v28 12) ||| ((1 : Int32) <<< ((e (o1 + 1) (z5_18).toInt.toNat) &&& 31))) := ⟨_, rfl⟩
              rw [← ev29]
              have hs29 : cw_S v29 f6 := by rw [ev29]; exact cw_S_v hs28 12 _ (by decide)
              have ev29_0 : (v29 0).toInt = (v28 0).toInt := by rw [ev29]; rfl
              have pv_104 := ev29
              refine hC.1 3 107 _ _ rfl _ _ _ _ _ ?_
              try have yb_8 : bt ys_9 ((e (o1 + 1)) z5_18.toInt.toNat).toInt.toNat = true := (by rw [ye_9]; exact an_t (by omega) (by assumption))
              refine Exists.intro _ (And.intro (cw_o6 hI.1) ?_)
              refine Exists.intro _ (Exists.intro _ (And.intro (cw_a23 hI.1) (And.intro (by omega) ?_)))
              rw [cw_s23 hI.1]
              obtain ⟨f30, ef30⟩ : ∃ z9, z9 = va_up f6 23 (upd (f6 23) ((e (o1 + 1) (z5_18).toInt.toNat)).toInt.toNat z5_18) := ⟨_, rfl⟩
              rw [← ef30]
              have hs30 : cw_S v29 f30 := by rw [ef30]; exact cw_S_fr hs29 _ _ (by decide) (by decide)
              have pf_115 := ef30
              refine Exists.intro _ (And.intro (cw_o6 hI.1) ?_)
              refine Exists.intro _ (And.intro (cw_o6 hI.1) ?_)
              refine Exists.intro _ (Exists.intro _ (And.intro (Or.inl (cw_a22 hI.1)) (And.intro (by omega) ?_)))
              refine Exists.intro _ (Exists.intro _ (And.intro (cw_a24 hI.1) (And.intro (by omega) ?_)))
              rw [cw_s24 hI.1]
              obtain ⟨f31, ef31⟩ : ∃ z9, z9 = va_up f30 24 (upd (f30 24) ((e (o1 + 1) (z5_18).toInt.toNat)).toInt.toNat (f30 22 (z5_18).toInt.toNat)) := ⟨_, rfl⟩
              rw [← ef31]
              have hs31 : cw_S v29 f31 := by rw [ef31]; exact cw_S_fr hs30 _ _ (by decide) (by decide)
              have pf_129 := ef31
              intro m32 em_130
              try have e32 : m32.toInt = (z5_18).toInt + (1) := by rw [em_130]; exact pm_addc _ _ (1) rfl (by omega) (by omega)
              exact hC.2 [false, false, false, false, false, false, true] _ _ _ _ _ _ (ih8 m32 v29 f31 hs31 (by omega) (by rw [show m32.toInt.toNat = z5_18.toInt.toNat + 1 by omega]; first | (rw [← ye_9, ← yf_9]; exact SHL_y j1_18 yb_8) | (exact SHL_r j1_18 yb_9 (by omega) yg_8 rfl (by rw [pv_104, pk_us, pv_91, pk_us, pv_61, pk_un (by decide), ← ye_9]) (by rw [pv_104, pk_un (by decide), pv_91, pk_un (by decide), pv_61, pk_us]; omega)) | (exact SHL_a j1_18 yb_9 (by omega) (by rw [pv_104, pk_us, pv_61, pk_un (by decide), ← ye_9]) (by rw [pv_104, pk_un (by decide), pv_61, pk_us]; omega))) (by rw [show m32.toInt.toNat = z5_18.toInt.toNat + 1 by omega]; exact SHA_s (z := z5_18) (fun j9 => cw_col hI ho1 j9) j2_18 j3_18 (by omega) (by rw [pf_129, va_un (by decide), pf_115, va_us]) (by omega) (by rw [pf_129, va_us, pf_115, va_un (by decide), va_un (by decide)])) (by rw [pf_129, va_un (by decide), pf_115, va_un (by decide)]; exact j3_18) (by omega))
        · skip
          refine And.intro (fun _ => ?_) (fun c9 => absurd c9 (by decide))
          refine hC.1 4 136 _ _ rfl _ _ _ _ _ ?_
          exact ⟨rfl, rfl, v6, f6, rfl, hs6, rfl, by exact True.intro, by first | (exfalso; omega) | (rw [← ye_9, ← yf_9, show (x2.toInt + 1).toNat = z5_18.toInt.toNat by omega]; exact j1_18)⟩
  exact lp7 (200 - (0 : Int32).toInt).toNat.succ (0 : Int32) v5 f3 hs5 (by omega) (by rw [pv_12, pk_us, pk_un (by decide), pv_7, pk_us, k0]; exact ⟨rfl, rfl⟩) (by exact SHA_0 rfl) (by exact yx_9) (by omega)

set_option maxRecDepth 100000 in
set_option maxHeartbeats 2000000 in
theorem F_X10_suffices (hI : cw_I K nn dn q w e) (hs : cw_S v f) (x1 : Int32) (x2 : Int32) (p0 : bd (w nn) (e (nn + 1)) (e (nn + 3))) : pm_Mt l g 127 3 0 0 [.ref (q 0), .int x1, .int x2] (cw A0 g K nn dn q w e v f) (cw_Qs A0 g K nn dn q w e (fun r v2 f2 => ∃ x : Int32, r = some (.int x) ∧ ((True) ∧ (SUF (e (nn + 1)) (w nn).toInt x1.toInt x2.toInt x.toInt)))) := by
  refine mt_X10_suffices rfl (fun J hC => ?_)
  have ro_nn : cw_ro K nn := hI.2.1.2.1
  have ro_dn : cw_ro K dn := hI.2.1.2.2.1
  have hu1 := hI.2.1
  unfold cw_W at hu1
  have rg_x1 := pm_rng x1
  have rg_x2 := pm_rng x2
  have zz0 := cw_sz hI ro_nn
  refine hC.1 0 0 _ _ rfl _ _ _ _ _ ?_
  refine And.intro (fun c2 => ?_) (fun c2 => ?_)
  · skip
    refine hC.1 1 6 _ _ rfl _ _ _ _ _ ?_
    have k1 : (1 : Int32).toInt = 1 := rfl
    have lp4 : ∀ (n : Nat) (z3_8 : Int32) (v3 : Nat → Int32) (f3 : Nat → Nat → Int32), cw_S v3 f3 → (1 ≤ z3_8.toInt ∧ z3_8.toInt ≤ 25) → (z3_8.toInt = 1 ∨ (0 ≤ x2.toInt ∧ x2.toInt ≤ 1)) → (SFA (e (nn + 1)) (w nn).toInt x1.toInt x2.toInt z3_8.toInt) → 200 - z3_8.toInt < (n : Int) → J 8 [some (.ref (q 0)), some (.int x1), some (.int x2), some (.int z3_8)] [] (cw A0 g K nn dn q w e v3 f3) 0 0 := by
      intro n
      induction n with
      | zero =>
        intro z3_8 v3 f3 hs3 j0_8 j1_8 j2_8 j3_8
        omega
      | succ n ih5 =>
        intro z3_8 v3 f3 hs3 j0_8 j1_8 j2_8 j3_8
        refine hC.1 2 8 _ _ rfl _ _ _ _ _ ?_
        have k24 : (24 : Int32).toInt = 24 := rfl
        refine And.intro (fun c6 => ?_) (fun c6 => ?_)
        · skip
          refine hC.1 4 69 _ _ rfl _ _ _ _ _ ?_
          have km1 : (-1 : Int32).toInt = -1 := rfl
          exact ⟨rfl, fun e9 => absurd e9 (by decide), rfl, v3, f3, rfl, hs3, (-1 : Int32), rfl, by exact True.intro, by first | (exact Or.inl ⟨by omega, rfl⟩) | (refine Or.inr ⟨by omega, Or.inr ⟨rfl, ?_⟩⟩; rw [show (25 : Int) = z3_8.toInt by omega]; exact j2_8)⟩
        · skip
          refine Exists.intro _ (Exists.intro _ (Exists.intro _ (Exists.intro _ (And.intro (F_X8_canBe (cw A0 g K nn dn q w e v3 f3) z3_8 x2 ) (And.intro rfl (fun r9 A9 h9 => ?_))))))
          rcases h9 with ⟨y7, rfl, rfl, ⟨rfl, by7⟩ | ⟨rfl, by7⟩⟩
          · skip
            refine And.intro (fun c9 => absurd c9 (by decide)) (fun _ => ?_)
            refine Exists.intro _ (And.intro (cw_o0 hI.1) ?_)
            refine Exists.intro _ (And.intro (cw_o0 hI.1) ?_)
            refine Exists.intro _ (And.intro (cw_o1 hI.1) ?_)
            refine Exists.intro _ (And.intro (cw_o0 hI.1) ?_)
            refine Exists.intro _ (And.intro (cw_o1 hI.1) ?_)
            refine Exists.intro _ (And.intro (cw_ro_o hI.1 ro_nn) ?_)
            have z9 := cw_sz hI ro_nn
            intro m10 em_44
            try have e10 : m10.toInt = ((w nn)).toInt - (1) := by rw [em_44]; exact pm_subc _ _ (1) rfl (by omega) (by omega)
            have yi_9 : ((m10).toInt + 1).toNat = (w nn).toInt.toNat := (by omega)
            refine And.intro (Exists.intro _ (cw_o6 hI.1)) (Exists.intro _ (Exists.intro _ (Exists.intro _ (Exists.intro _ (And.intro (F_X8_goThrough hI hs3 ro_nn m10 z3_8 x2 (by omega) (by omega) (by exact p0)) (And.intro rfl (fun r9 A9 h9 => ?_)))))))
            rcases h9 with ⟨v12, f12, rfl, hs12, rfl, by11⟩
            have yf_9 := by11.2
            rw [yi_9] at yf_9
            refine Exists.intro _ (And.intro (cw_o0 hI.1) ?_)
            refine Exists.intro _ (And.intro (cw_o6 hI.1) ?_)
            refine And.intro (fun c13 => ?_) (fun c13 => ?_)
            · skip
              refine hC.1 3 63 _ _ rfl _ _ _ _ _ ?_
              intro m14 em_63
              try have e14 : m14.toInt = (z3_8).toInt + (1) := by rw [em_63]; exact pm_addc _ _ (1) rfl (by omega) (by omega)
              exact ih5 m14 v12 f12 hs12 (by omega) (by omega) (by rw [show m14.toInt = z3_8.toInt + 1 by omega]; exact SFA_s j2_8 yf_9 (by omega)) (by omega)
            · skip
              exact ⟨rfl, fun e9 => absurd e9 (by decide), rfl, v12, f12, rfl, hs12, z3_8, rfl, by exact True.intro, by exact Or.inr ⟨by omega, Or.inl ⟨by omega, j2_8, _, _, yf_9, by omega⟩⟩⟩
          · skip
            have k0 : (0 : Int32).toInt = 0 := rfl
            refine And.intro (fun _ => ?_) (fun c9 => absurd c9 (by decide))
            refine hC.1 4 69 _ _ rfl _ _ _ _ _ ?_
            have km1 : (-1 : Int32).toInt = -1 := rfl
            exact ⟨rfl, fun e9 => absurd e9 (by decide), rfl, v3, f3, rfl, hs3, (-1 : Int32), rfl, by exact True.intro, by first | (exact Or.inl ⟨by omega, rfl⟩) | (refine Or.inr ⟨by omega, Or.inr ⟨rfl, ?_⟩⟩; rw [show (25 : Int) = z3_8.toInt by omega]; exact j2_8)⟩
    exact lp4 (200 - (1 : Int32).toInt).toNat.succ (1 : Int32) v f hs (by omega) (by omega) (by intro j9 h9 h8; omega) (by omega)
  · skip
    have km1 : (-1 : Int32).toInt = -1 := rfl
    exact ⟨rfl, fun e9 => absurd e9 (by decide), rfl, v, f, rfl, hs, (-1 : Int32), rfl, by exact True.intro, by exact Or.inl ⟨by omega, rfl⟩⟩

end
end
section
section
variable {l : Launch} {g : pm_G} {A0 : pm_H} {h : Nat} {q : Nat → Nat}
set_option maxRecDepth 100000 in
set_option maxHeartbeats 2000000 in
theorem F_X11_lastAhead (D : md_D h q) (v : Nat → Int32) (f : Nat → Nat → Int32) (hv : md_V v) (hf : md_F f) (x1 : Int32) (x2 : Int32) (p0 : ∃ k9 : Nat, (k9 : Int) < x2.toInt ∧ f 0 k9 = x1) (p1 : x2.toInt ≤ 160) : pm_Mt l g 261 0 0 0 [.ref h, .int x1, .int x2] (md A0 g h q v f) (md_Qp (md A0 g h q v f) (fun r => r.toInt = lastEq (f 0) x1 x2.toInt.toNat)) := by
  refine mt_X11_lastAhead rfl (fun J hC => ?_)
  have hv9 := hv
  unfold md_V at hv9
  have rg_x1 := pm_rng x1
  have rg_x2 := pm_rng x2
  obtain ⟨k8, hk8, he8⟩ := p0
  refine hC.1 0 0 _ _ rfl _ _ _ _ _ ?_
  have k1 : (1 : Int32).toInt = 1 := rfl
  intro m1 em_2
  try have e1 : m1.toInt = (x2).toInt - (1) := by rw [em_2]; exact pm_subc _ _ (1) rfl (by omega) (by omega)
  have lp2 : ∀ (n : Nat) (z3_4 : Int32), (z3_4.toInt < x2.toInt) → (∃ k9 : Nat, (k9 : Int) ≤ z3_4.toInt ∧ f 0 k9 = x1) → (lastEq (f 0) x1 x2.toInt.toNat = lastEq (f 0) x1 (z3_4.toInt + 1).toNat) → z3_4.toInt + 1 < (n : Int) → J 4 [some (.ref h), some (.int x1), some (.int x2), some (.int z3_4)] [] (md A0 g h q v f) 0 0 := by
    intro n
    induction n with
    | zero =>
      intro z3_4 j0_4 j1_4 j2_4 j3_4
      obtain ⟨k7, hk7, he7⟩ := j1_4; omega
    | succ n ih3 =>
      intro z3_4 j0_4 j1_4 j2_4 j3_4
      obtain ⟨k7, hk7, he7⟩ := j1_4
      refine hC.1 1 4 _ _ rfl _ _ _ _ _ ?_
      refine Exists.intro _ (And.intro md_o ?_)
      refine Exists.intro _ (Exists.intro _ (And.intro (Or.inl (md_a_colours D)) (And.intro (by omega) ?_)))
      have w4 : (0 : Int) ≤ (f 0 (z3_4).toInt.toNat).toInt ∧ (f 0 (z3_4).toInt.toNat).toInt ≤ (23 : Int) := hf 0 _
      refine And.intro (fun c5 => ?_) (fun c5 => ?_)
      · skip
        have dc5 : ((f 0 (z3_4).toInt.toNat)).toInt = (x1 : Int32).toInt := congrArg Int32.toInt c5
        refine hC.1 2 20 _ _ rfl _ _ _ _ _ ?_
        exact ⟨rfl, fun e9 => absurd e9 (by decide), rfl, z3_4, rfl, rfl, by rw [j2_4, lastEq_s (by omega), if_pos (by assumption)]⟩
      · skip
        have dc5 := pm_neI c5
        have km1 : (-1 : Int32).toInt = -1 := rfl
        intro m6 em_14
        try have e6 : m6.toInt = (z3_4).toInt + (-1) := by rw [em_14]; exact pm_addc _ _ (-1) rfl (by omega) (by omega)
        exact ih3 m6 (by omega) (by have h9 : k7 ≠ z3_4.toInt.toNat := fun e9 => absurd he7 (by rw [e9]; assumption); exact ⟨k7, by omega, he7⟩) (by rw [j2_4, lastEq_s (by omega), if_neg (by assumption), show (m6.toInt + 1).toNat = z3_4.toInt.toNat by omega]) (by omega)
  exact lp2 (m1.toInt + 1).toNat.succ m1 (by omega) (by exact ⟨k8, by omega, he8⟩) (by rw [show x2.toInt.toNat = (m1.toInt + 1).toNat by omega]) (by omega)

set_option maxRecDepth 100000 in
set_option maxHeartbeats 2000000 in
theorem F_X11_goner (D : md_D h q) (v : Nat → Int32) (f : Nat → Nat → Int32) (hv : md_V v) (hf : md_F f) (x1 : Int32) (x2 : Int32) (p0 : 0 ≤ x1.toInt ∧ x1.toInt < (v 0).toInt) (p1 : goB (v 7) (f 0) x1.toInt) (p2 : EXB (v 7)) : pm_Mt l g 260 1 0 0 [.ref h, .int x1, .int x2] (md A0 g h q v f) (md_Qp (md A0 g h q v f) (fun r => GOR (sk (f 0) (v 0).toInt x2.toInt x1.toInt.toNat) (v 7) r)) := by
  refine mt_X11_goner rfl (fun J hC => ?_)
  have hv9 := hv
  unfold md_V at hv9
  have rg_x1 := pm_rng x1
  have rg_x2 := pm_rng x2
  refine hC.1 0 0 _ _ rfl _ _ _ _ _ ?_
  have km1 : (-1 : Int32).toInt = -1 := rfl
  have k0 : (0 : Int32).toInt = 0 := rfl
  have lp1 : ∀ (n : Nat) (z3_8 : Int32) (z4_8 : Int32) (z5_8 : Int32), (0 ≤ z5_8.toInt ∧ z5_8.toInt ≤ 24) → (GC (sk (f 0) (v 0).toInt x2.toInt x1.toInt.toNat) (v 7) z5_8.toInt z3_8.toInt) → ((z3_8.toInt = -1 ∧ z4_8.toInt = -1) ∨ (0 ≤ z3_8.toInt ∧ z4_8.toInt = (sk (f 0) (v 0).toInt x2.toInt x1.toInt.toNat) z3_8.toInt.toNat)) → 200 - z5_8.toInt < (n : Int) → J 8 [some (.ref h), some (.int x1), some (.int x2), some (.int z3_8), some (.int z4_8), some (.int z5_8), none] [] (md A0 g h q v f) 0 0 := by
    intro n
    induction n with
    | zero =>
      intro z3_8 z4_8 z5_8 j0_8 j1_8 j2_8 j3_8
      omega
    | succ n ih2 =>
      intro z3_8 z4_8 z5_8 j0_8 j1_8 j2_8 j3_8
      refine hC.1 1 8 _ _ rfl _ _ _ _ _ ?_
      have k24 : (24 : Int32).toInt = 24 := rfl
      refine And.intro (fun c3 => ?_) (fun c3 => ?_)
      · skip
        refine hC.1 7 78 _ _ rfl _ _ _ _ _ ?_
        exact ⟨rfl, fun e9 => absurd e9 (by decide), rfl, z3_8, rfl, rfl, by have h9 : z5_8.toInt = 24 := (by omega); rw [h9] at j1_8; exact GC_e j1_8 p2⟩
      · skip
        refine Exists.intro _ (And.intro md_o ?_)
        have k1 : (1 : Int32).toInt = 1 := rfl
        refine And.intro (fun c4 => ?_) (fun c4 => ?_)
        · skip
          have dc4 := pm_neI c4
          refine hC.1 2 30 _ _ rfl _ _ _ _ _ ?_
          refine And.intro (fun c5 => ?_) (fun c5 => ?_)
          · skip
            have dc5 := pm_neI c5
            refine hC.1 3 46 _ _ rfl _ _ _ _ _ ?_
            refine And.intro (Exists.intro _ md_o) (Exists.intro _ (Exists.intro _ (Exists.intro _ (Exists.intro _ (And.intro (F_X11_nextBehind D v f hv hf z5_8 x1 (by omega)) (And.intro rfl (fun r9 A9 h9 => ?_)))))))
            obtain ⟨y6, rfl, rfl, by6⟩ := h9
            have yb_9 : (nf (f 0) (v 0).toInt z5_8 x1.toInt.toNat = -1 ∧ y6.toInt = 268435456) ∨ (0 ≤ nf (f 0) (v 0).toInt z5_8 x1.toInt.toNat ∧ y6.toInt = nf (f 0) (v 0).toInt z5_8 x1.toInt.toNat) := (by unfold nf; rw [show x1.toInt.toNat + 1 = (x1.toInt + 1).toNat by omega, show (((x1.toInt.toNat : Nat) : Int) + 1) = x1.toInt + 1 by omega]; exact by6)
            refine hC.1 4 53 _ _ rfl _ _ _ _ _ ?_
            have yk_9 : (y6).toInt = (sk (f 0) (v 0).toInt x2.toInt x1.toInt.toNat) z5_8.toInt.toNat := (by first | (rw [sk_l (by omega) (by omega)]; omega) | (rcases yb_9 with h9 | h9; (rw [sk_f (by omega) (by omega) (by omega)]; omega); (rw [sk_n (by omega) (by omega) (by omega)]; omega)))
            have yz_9 := sk_0 (f 0) (v 0).toInt x2.toInt x1.toInt.toNat z5_8.toInt.toNat
            refine And.intro (fun c7 => ?_) (fun c7 => ?_)
            · skip
              refine hC.1 5 65 _ _ rfl _ _ _ _ _ ?_
              refine hC.1 6 72 _ _ rfl _ _ _ _ _ ?_
              intro m8 em_72
              try have e8 : m8.toInt = (z5_8).toInt + (1) := by rw [em_72]; exact pm_addc _ _ (1) rfl (by omega) (by omega)
              exact hC.2 [false, false, false, false, false, false, true] _ _ _ _ _ _ (ih2 z5_8 y6 m8 (by omega) (by rw [show m8.toInt = z5_8.toInt + 1 by omega]; first | (exact GC_n (by omega) j1_8 (b_z (by omega) (by assumption))) | (exact GC_y (by omega) j1_8 (b_y (by omega) (by assumption)) (by omega)) | (exact GC_o (by omega) j1_8 (by omega))) (by first | (exact j2_8) | omega) (by omega))
            · skip
              refine hC.1 6 72 _ _ rfl _ _ _ _ _ ?_
              intro m9 em_72
              try have e9 : m9.toInt = (z5_8).toInt + (1) := by rw [em_72]; exact pm_addc _ _ (1) rfl (by omega) (by omega)
              exact hC.2 [false, false, false, false, false, false, true] _ _ _ _ _ _ (ih2 z3_8 z4_8 m9 (by omega) (by rw [show m9.toInt = z5_8.toInt + 1 by omega]; first | (exact GC_n (by omega) j1_8 (b_z (by omega) (by assumption))) | (exact GC_y (by omega) j1_8 (b_y (by omega) (by assumption)) (by omega)) | (exact GC_o (by omega) j1_8 (by omega))) (by first | (exact j2_8) | omega) (by omega))
          · skip
            have dc5 : (x2).toInt = (0 : Int32).toInt := congrArg Int32.toInt c5
            refine And.intro (Exists.intro _ md_o) (Exists.intro _ (Exists.intro _ (Exists.intro _ (Exists.intro _ (And.intro (F_X11_lastAhead D v f hv hf z5_8 x1 (by exact p1 _ (by omega) (by assumption)) (by omega)) (And.intro rfl (fun r9 A9 h9 => ?_)))))))
            obtain ⟨y10, rfl, rfl, by10⟩ := h9
            have ya_9 := by10
            have lt_9 := lastEq_lt (f 0) z5_8 x1.toInt.toNat
            intro m11 em_42
            try have e11 : m11.toInt = (x1).toInt - (y10).toInt := by rw [em_42]; exact pm_sub _ _ (by omega) (by omega)
            refine hC.1 4 53 _ _ rfl _ _ _ _ _ ?_
            have yk_9 : (m11).toInt = (sk (f 0) (v 0).toInt x2.toInt x1.toInt.toNat) z5_8.toInt.toNat := (by first | (rw [sk_l (by omega) (by omega)]; omega) | (rcases yb_9 with h9 | h9; (rw [sk_f (by omega) (by omega) (by omega)]; omega); (rw [sk_n (by omega) (by omega) (by omega)]; omega)))
            have yz_9 := sk_0 (f 0) (v 0).toInt x2.toInt x1.toInt.toNat z5_8.toInt.toNat
            refine And.intro (fun c12 => ?_) (fun c12 => ?_)
            · skip
              refine hC.1 5 65 _ _ rfl _ _ _ _ _ ?_
              refine hC.1 6 72 _ _ rfl _ _ _ _ _ ?_
              intro m13 em_72
              try have e13 : m13.toInt = (z5_8).toInt + (1) := by rw [em_72]; exact pm_addc _ _ (1) rfl (by omega) (by omega)
              exact hC.2 [false, false, false, false, false, false, true] _ _ _ _ _ _ (ih2 z5_8 m11 m13 (by omega) (by rw [show m13.toInt = z5_8.toInt + 1 by omega]; first | (exact GC_n (by omega) j1_8 (b_z (by omega) (by assumption))) | (exact GC_y (by omega) j1_8 (b_y (by omega) (by assumption)) (by omega)) | (exact GC_o (by omega) j1_8 (by omega))) (by first | (exact j2_8) | omega) (by omega))
            · skip
              refine hC.1 6 72 _ _ rfl _ _ _ _ _ ?_
              intro m14 em_72
              try have e14 : m14.toInt = (z5_8).toInt + (1) := by rw [em_72]; exact pm_addc _ _ (1) rfl (by omega) (by omega)
              exact hC.2 [false, false, false, false, false, false, true] _ _ _ _ _ _ (ih2 z3_8 z4_8 m14 (by omega) (by rw [show m14.toInt = z5_8.toInt + 1 by omega]; first | (exact GC_n (by omega) j1_8 (b_z (by omega) (by assumption))) | (exact GC_y (by omega) j1_8 (b_y (by omega) (by assumption)) (by omega)) | (exact GC_o (by omega) j1_8 (by omega))) (by first | (exact j2_8) | omega) (by omega))
        · skip
          have dc4 : ((((v 7) >>> (z5_8 &&& 31)) &&& (1 : Int32))).toInt = (0 : Int32).toInt := congrArg Int32.toInt c4
          refine hC.1 6 72 _ _ rfl _ _ _ _ _ ?_
          intro m15 em_72
          try have e15 : m15.toInt = (z5_8).toInt + (1) := by rw [em_72]; exact pm_addc _ _ (1) rfl (by omega) (by omega)
          exact ih2 z3_8 z4_8 m15 (by omega) (by rw [show m15.toInt = z5_8.toInt + 1 by omega]; first | (exact GC_n (by omega) j1_8 (b_z (by omega) (by assumption))) | (exact GC_y (by omega) j1_8 (b_y (by omega) (by assumption)) (by omega)) | (exact GC_o (by omega) j1_8 (by omega))) (by first | (exact j2_8) | omega) (by omega)
  exact lp1 (200 - (0 : Int32).toInt).toNat.succ (-1 : Int32) (-1 : Int32) (0 : Int32) (by omega) (by rw [k0, km1]; exact GC_0 _ _) (by exact Or.inl ⟨by omega, by omega⟩) (by omega)

set_option maxRecDepth 100000 in
set_option maxHeartbeats 2000000 in
theorem G_X11_goOver (D : md_D h q) (v : Nat → Int32) (f : Nat → Nat → Int32) (hv : md_V v) (hf : md_F f) (x1 : Int32) (x2 : Int32) (x3 : Int32) (p0 : -1 ≤ x1.toInt ∧ x1.toInt < (v 0).toInt) (p1 : 1 ≤ x2.toInt ∧ x2.toInt ≤ 24) : pm_Mt l g 259 2 0 0 [.ref h, .int x1, .int x2, .int x3] (md A0 g h q v f) (md_Qw A0 g h q f (fun r v2 f2 => f2 0 = f 0 ∧ f2 1 = f 1 ∧ ((v2 0).toInt = (v 0).toInt ∧ (v2 1).toInt = (v 1).toInt ∧ (v2 2).toInt = (v 2).toInt ∧ (v2 3).toInt = (v 3).toInt ∧ (v2 4).toInt = (v 4).toInt ∧ (v2 6).toInt = (v 6).toInt) ∧ (SHL (f 0) (v 0).toInt x2.toInt x3.toInt (x1.toInt + 1).toNat (v2 7) r.toInt ∧ (0 ≤ r.toInt)))) := by
  refine mt_X11_goOver rfl (fun J hC => ?_)
  have hv9 := hv
  unfold md_V at hv9
  have rg_x1 := pm_rng x1
  have rg_x2 := pm_rng x2
  have rg_x3 := pm_rng x3
  refine hC.1 0 0 _ _ rfl _ _ _ _ _ ?_
  have k0 : (0 : Int32).toInt = 0 := rfl
  refine Exists.intro _ (And.intro md_o (And.intro rfl ?_))
  rw [md_p_shelfSet D]
  obtain ⟨v1, ev1⟩ : ∃ z9, z9 = upd v 7 (0 : Int32) := ⟨_, rfl⟩
  rw [← ev1]
  have ev1_0 : (v1 0).toInt = (v 0).toInt := by rw [ev1]; rfl
  have ev1_1 : (v1 1).toInt = (v 1).toInt := by rw [ev1]; rfl
  have ev1_2 : (v1 2).toInt = (v 2).toInt := by rw [ev1]; rfl
  have ev1_3 : (v1 3).toInt = (v 3).toInt := by rw [ev1]; rfl
  have ev1_4 : (v1 4).toInt = (v 4).toInt := by rw [ev1]; rfl
  have ev1_5 : (v1 5).toInt = (v 5).toInt := by rw [ev1]; rfl
  have ev1_6 : (v1 6).toInt = (v 6).toInt := by rw [ev1]; rfl
  have ev1_7 : (v1 7).toInt = ((0 : Int32)).toInt := by rw [ev1]; rfl
  have pn_5 : v1 7 = (0 : Int32) := by rw [ev1]; rfl
  have lp3 : ∀ (n : Nat) (z4_11 : Int32) (z5_11 : Int32) (v2 : Nat → Int32) (f2 : Nat → Nat → Int32), md_V v2 → md_F f2 → f2 2 = f 2 → f2 0 = f 0 → f2 1 = f 1 → (0 ≤ z5_11.toInt ∧ z5_11.toInt ≤ x1.toInt + 1) → (goB (v2 7) (f2 0) z5_11.toInt) → (SHL (f 0) (v 0).toInt x2.toInt x3.toInt z5_11.toInt.toNat (v2 7) z4_11.toInt) → (v2 0).toInt = (v 0).toInt → (v2 1).toInt = (v 1).toInt → (v2 2).toInt = (v 2).toInt → (v2 3).toInt = (v 3).toInt → (v2 4).toInt = (v 4).toInt → (v2 6).toInt = (v 6).toInt → 200 - z5_11.toInt < (n : Int) → J 11 [some (.ref h), some (.int x1), some (.int x2), some (.int x3), some (.int z4_11), some (.int z5_11)] [] (md A0 g h q v2 f2) 0 0 := by
    intro n
    induction n with
    | zero =>
      intro z4_11 z5_11 v2 f2 hv2 hf2 hw2 hr2_0 hr2_1 j0_11 j1_11 j2_11 j3_11 j4_11 j5_11 j6_11 j7_11 j8_11 j9_11
      clear ev1_0 ev1_1 ev1_2 ev1_3 ev1_4 ev1_5 ev1_6 ev1_7
      omega
    | succ n ih4 =>
      intro z4_11 z5_11 v2 f2 hv2 hf2 hw2 hr2_0 hr2_1 j0_11 j1_11 j2_11 j3_11 j4_11 j5_11 j6_11 j7_11 j8_11 j9_11
      clear ev1_0 ev1_1 ev1_2 ev1_3 ev1_4 ev1_5 ev1_6 ev1_7
      have yI_9 := SHL_I (fun j9 => hf 0 j9) (by omega) _ j2_11
      have yn_9 := yI_9.2.2.2
      have yn_8 := yI_9.2.2.1
      have yx_9 : f2 0 z5_11.toInt.toNat = f 0 z5_11.toInt.toNat := (by rw [hr2_0])
      have yo_9 : (0 : Int) ≤ (f 0 z5_11.toInt.toNat).toInt ∧ (f 0 z5_11.toInt.toNat).toInt ≤ (23 : Int) := hf 0 _
      refine hC.1 1 11 _ _ rfl _ _ _ _ _ ?_
      refine And.intro (fun c6 => ?_) (fun c6 => ?_)
      · skip
        refine hC.1 5 96 _ _ rfl _ _ _ _ _ ?_
        exact ⟨rfl, fun e9 => absurd e9 (by decide), rfl, z4_11, v2, f2, rfl, rfl, hv2, hf2, hw2, hr2_0, hr2_1, by first | omega | (dsimp only; omega) | trivial, by rw [show (x1.toInt + 1).toNat = z5_11.toInt.toNat by omega]; exact ⟨j2_11, by omega⟩⟩
      · skip
        refine Exists.intro _ (And.intro md_o ?_)
        refine Exists.intro _ (And.intro md_o ?_)
        refine Exists.intro _ (Exists.intro _ (And.intro (Or.inl (md_a_colours D)) (And.intro (by omega) ?_)))
        have w7 : (0 : Int) ≤ (f2 0 (z5_11).toInt.toNat).toInt ∧ (f2 0 (z5_11).toInt.toNat).toInt ≤ (23 : Int) := hf2 0 _
        have k1 : (1 : Int32).toInt = 1 := rfl
        refine And.intro (fun c8 => ?_) (fun c8 => ?_)
        · skip
          have dc8 := pm_neI c8
          refine hC.1 2 38 _ _ rfl _ _ _ _ _ ?_
          intro m9 em_38
          try have e9 : m9.toInt = (z4_11).toInt + (1) := by rw [em_38]; exact pm_addc _ _ (1) rfl (by omega) (by omega)
          refine Exists.intro _ (And.intro md_o ?_)
          refine Exists.intro _ (Exists.intro _ (Exists.intro _ (Exists.intro _ (And.intro (F_X11_bits (md A0 g h q v2 f2) (v2 7) ) (And.intro rfl (fun r9 A9 h9 => ?_))))))
          obtain ⟨y10, rfl, rfl, by10⟩ := h9
          have yc_9 := by10
          refine And.intro (fun c11 => ?_) (fun c11 => ?_)
          · skip
            have dc11 := pm_neI c11
            refine hC.1 3 72 _ _ rfl _ _ _ _ _ ?_
            refine Exists.intro _ (And.intro md_o ?_)
            refine Exists.intro _ (And.intro md_o ?_)
            refine Exists.intro _ (Exists.intro _ (And.intro (Or.inl (md_a_colours D)) (And.intro (by omega) ?_)))
            have w12 : (0 : Int) ≤ (f2 0 (z5_11).toInt.toNat).toInt ∧ (f2 0 (z5_11).toInt.toNat).toInt ≤ (23 : Int) := hf2 0 _
            refine Exists.intro _ (And.intro md_o (And.intro rfl ?_))
            rw [md_p_shelfSet D]
            obtain ⟨v13, ev13⟩ : ∃ z9, z9 = upd v2 7 ((v2 7) ||| ((1 : Int32) <<< ((f2 0 (z5_11).toInt.toNat) &&& 31))) := ⟨_, rfl⟩
            rw [← ev13]
            have ev13_0 : (v13 0).toInt = (v2 0).toInt := by rw [ev13]; rfl
            have ev13_1 : (v13 1).toInt = (v2 1).toInt := by rw [ev13]; rfl
            have ev13_2 : (v13 2).toInt = (v2 2).toInt := by rw [ev13]; rfl
            have ev13_3 : (v13 3).toInt = (v2 3).toInt := by rw [ev13]; rfl
            have ev13_4 : (v13 4).toInt = (v2 4).toInt := by rw [ev13]; rfl
            have ev13_5 : (v13 5).toInt = (v2 5).toInt := by rw [ev13]; rfl
            have ev13_6 : (v13 6).toInt = (v2 6).toInt := by rw [ev13]; rfl
            have ev13_7 : (v13 7).toInt = (((v2 7) ||| ((1 : Int32) <<< ((f2 0 (z5_11).toInt.toNat) &&& 31)))).toInt := by rw [ev13]; rfl
            have pn_87 : v13 7 = ((v2 7) ||| ((1 : Int32) <<< ((f2 0 (z5_11).toInt.toNat) &&& 31))) := by rw [ev13]; rfl
            refine hC.1 4 90 _ _ rfl _ _ _ _ _ ?_
            intro m14 em_90
            try have e14 : m14.toInt = (z5_11).toInt + (1) := by rw [em_90]; exact pm_addc _ _ (1) rfl (by omega) (by omega)
            have hv15 : md_V v13 := by unfold md_V; omega
            exact ih4 m9 m14 v13 f2 hv15 hf2 hw2 hr2_0 hr2_1 (by omega) (by first | exact go_mono j1_11 (by omega) | (rw [pn_87, pn_69]; exact go_or (go_and j1_11) (by omega) (by omega) rfl (by omega)) | (rw [pn_87]; exact go_or j1_11 (by omega) (by omega) rfl (by omega))) (by rw [show m14.toInt.toNat = z5_11.toInt.toNat + 1 by omega]; first | (exact SHL_y j2_11 (by rw [← yx_9]; exact b_y1 (by rw [yx_9]; omega) (by assumption))) | (exact SHL_r j2_11 (by rw [← yx_9]; exact b_n (by rw [yx_9]; omega) (by assumption)) (by omega) yg_9 pn_69 (by rw [pn_87, yx_9]) (by omega)) | (exact SHL_a j2_11 (by rw [← yx_9]; exact b_n (by rw [yx_9]; omega) (by assumption)) (by omega) (by rw [pn_87, yx_9]) (by omega))) (by omega) (by omega) (by omega) (by omega) (by omega) (by omega) (by omega)
          · skip
            have dc11 : (y10).toInt = (x2 : Int32).toInt := congrArg Int32.toInt c11
            refine Exists.intro _ (And.intro md_o ?_)
            refine And.intro (Exists.intro _ md_o) (Exists.intro _ (Exists.intro _ (Exists.intro _ (Exists.intro _ (And.intro (F_X11_goner D v2 f2 hv2 hf2 z5_11 x3 (by omega) (by exact j1_11) (by exact SHI_ex yI_9 (by omega) (by omega))) (And.intro rfl (fun r9 A9 h9 => ?_)))))))
            obtain ⟨y16, rfl, rfl, by16⟩ := h9
            have yg_9 := by16
            rw [hr2_0, show (v2 0).toInt = (v 0).toInt by omega] at yg_9
            have km1 : (-1 : Int32).toInt = -1 := rfl
            refine Exists.intro _ (And.intro md_o (And.intro rfl ?_))
            rw [md_p_shelfSet D]
            obtain ⟨v17, ev17⟩ : ∃ z9, z9 = upd v2 7 ((v2 7) &&& (((1 : Int32) <<< (y16 &&& 31)) ^^^ (-1 : Int32))) := ⟨_, rfl⟩
            rw [← ev17]
            have ev17_0 : (v17 0).toInt = (v2 0).toInt := by rw [ev17]; rfl
            have ev17_1 : (v17 1).toInt = (v2 1).toInt := by rw [ev17]; rfl
            have ev17_2 : (v17 2).toInt = (v2 2).toInt := by rw [ev17]; rfl
            have ev17_3 : (v17 3).toInt = (v2 3).toInt := by rw [ev17]; rfl
            have ev17_4 : (v17 4).toInt = (v2 4).toInt := by rw [ev17]; rfl
            have ev17_5 : (v17 5).toInt = (v2 5).toInt := by rw [ev17]; rfl
            have ev17_6 : (v17 6).toInt = (v2 6).toInt := by rw [ev17]; rfl
            have ev17_7 : (v17 7).toInt = (((v2 7) &&& (((1 : Int32) <<< (y16 &&& 31)) ^^^ (-1 : Int32)))).toInt := by rw [ev17]; rfl
            have pn_69 : v17 7 = ((v2 7) &&& (((1 : Int32) <<< (y16 &&& 31)) ^^^ (-1 : Int32))) := by rw [ev17]; rfl
            refine hC.1 3 72 _ _ rfl _ _ _ _ _ ?_
            refine Exists.intro _ (And.intro md_o ?_)
            refine Exists.intro _ (And.intro md_o ?_)
            refine Exists.intro _ (Exists.intro _ (And.intro (Or.inl (md_a_colours D)) (And.intro (by omega) ?_)))
            have w18 : (0 : Int) ≤ (f2 0 (z5_11).toInt.toNat).toInt ∧ (f2 0 (z5_11).toInt.toNat).toInt ≤ (23 : Int) := hf2 0 _
            refine Exists.intro _ (And.intro md_o (And.intro rfl ?_))
            rw [md_p_shelfSet D]
            obtain ⟨v19, ev19⟩ : ∃ z9, z9 = upd v17 7 ((v17 7) ||| ((1 : Int32) <<< ((f2 0 (z5_11).toInt.toNat) &&& 31))) := ⟨_, rfl⟩
            rw [← ev19]
            have ev19_0 : (v19 0).toInt = (v17 0).toInt := by rw [ev19]; rfl
            have ev19_1 : (v19 1).toInt = (v17 1).toInt := by rw [ev19]; rfl
            have ev19_2 : (v19 2).toInt = (v17 2).toInt := by rw [ev19]; rfl
            have ev19_3 : (v19 3).toInt = (v17 3).toInt := by rw [ev19]; rfl
            have ev19_4 : (v19 4).toInt = (v17 4).toInt := by rw [ev19]; rfl
            have ev19_5 : (v19 5).toInt = (v17 5).toInt := by rw [ev19]; rfl
            have ev19_6 : (v19 6).toInt = (v17 6).toInt := by rw [ev19]; rfl
            have ev19_7 : (v19 7).toInt = (((v17 7) ||| ((1 : Int32) <<< ((f2 0 (z5_11).toInt.toNat) &&& 31)))).toInt := by rw [ev19]; rfl
            have pn_87 : v19 7 = ((v17 7) ||| ((1 : Int32) <<< ((f2 0 (z5_11).toInt.toNat) &&& 31))) := by rw [ev19]; rfl
            refine hC.1 4 90 _ _ rfl _ _ _ _ _ ?_
            intro m20 em_90
            try have e20 : m20.toInt = (z5_11).toInt + (1) := by rw [em_90]; exact pm_addc _ _ (1) rfl (by omega) (by omega)
            have hv21 : md_V v19 := by unfold md_V; omega
            exact ih4 m9 m20 v19 f2 hv21 hf2 hw2 hr2_0 hr2_1 (by omega) (by first | exact go_mono j1_11 (by omega) | (rw [pn_87, pn_69]; exact go_or (go_and j1_11) (by omega) (by omega) rfl (by omega)) | (rw [pn_87]; exact go_or j1_11 (by omega) (by omega) rfl (by omega))) (by rw [show m20.toInt.toNat = z5_11.toInt.toNat + 1 by omega]; first | (exact SHL_y j2_11 (by rw [← yx_9]; exact b_y1 (by rw [yx_9]; omega) (by assumption))) | (exact SHL_r j2_11 (by rw [← yx_9]; exact b_n (by rw [yx_9]; omega) (by assumption)) (by omega) yg_9 pn_69 (by rw [pn_87, yx_9]) (by omega)) | (exact SHL_a j2_11 (by rw [← yx_9]; exact b_n (by rw [yx_9]; omega) (by assumption)) (by omega) (by rw [pn_87, yx_9]) (by omega))) (by omega) (by omega) (by omega) (by omega) (by omega) (by omega) (by omega)
        · skip
          have dc8 : ((((v2 7) >>> ((f2 0 (z5_11).toInt.toNat) &&& 31)) &&& (1 : Int32))).toInt = ((1 : Int32) : Int32).toInt := congrArg Int32.toInt c8
          refine hC.1 4 90 _ _ rfl _ _ _ _ _ ?_
          intro m22 em_90
          try have e22 : m22.toInt = (z5_11).toInt + (1) := by rw [em_90]; exact pm_addc _ _ (1) rfl (by omega) (by omega)
          exact ih4 z4_11 m22 v2 f2 hv2 hf2 hw2 hr2_0 hr2_1 (by omega) (by first | exact go_mono j1_11 (by omega) | (rw [pn_87, pn_69]; exact go_or (go_and j1_11) (by omega) (by omega) rfl (by omega)) | (rw [pn_87]; exact go_or j1_11 (by omega) (by omega) rfl (by omega))) (by rw [show m22.toInt.toNat = z5_11.toInt.toNat + 1 by omega]; first | (exact SHL_y j2_11 (by rw [← yx_9]; exact b_y1 (by rw [yx_9]; omega) (by assumption))) | (exact SHL_r j2_11 (by rw [← yx_9]; exact b_n (by rw [yx_9]; omega) (by assumption)) (by omega) yg_9 pn_69 (by rw [pn_87, yx_9]) (by omega)) | (exact SHL_a j2_11 (by rw [← yx_9]; exact b_n (by rw [yx_9]; omega) (by assumption)) (by omega) (by rw [pn_87, yx_9]) (by omega))) (by omega) (by omega) (by omega) (by omega) (by omega) (by omega) (by omega)
  have hv23 : md_V v1 := by unfold md_V; omega
  exact lp3 (200 - (0 : Int32).toInt).toNat.succ (0 : Int32) (0 : Int32) v1 f hv23 hf rfl rfl rfl (by omega) (by rw [pn_5]; exact go_0 _ _) (by rw [pn_5, k0]; exact ⟨rfl, rfl⟩) (by omega) (by omega) (by omega) (by omega) (by omega) (by omega) (by omega)

end
end
section
section
variable {l : Launch} {g : pm_G} {A0 : pm_H} {h : Nat} {q : Nat → Nat}
set_option maxRecDepth 100000 in
set_option maxHeartbeats 2000000 in
theorem G_X11_suffices (D : md_D h q) (v : Nat → Int32) (f : Nat → Nat → Int32) (hv : md_V v) (hf : md_F f) (x1 : Int32) (x2 : Int32)  : pm_Mt l g 263 3 0 0 [.ref h, .int x1, .int x2] (md A0 g h q v f) (md_Qw A0 g h q f (fun r v2 f2 => f2 0 = f 0 ∧ f2 1 = f 1 ∧ ((v2 0).toInt = (v 0).toInt ∧ (v2 1).toInt = (v 1).toInt ∧ (v2 2).toInt = (v 2).toInt ∧ (v2 3).toInt = (v 3).toInt ∧ (v2 4).toInt = (v 4).toInt ∧ (v2 6).toInt = (v 6).toInt) ∧ (SUF (f 0) (v 0).toInt x1.toInt x2.toInt r.toInt))) := by
  refine mt_X11_suffices rfl (fun J hC => ?_)
  have hv9 := hv
  unfold md_V at hv9
  have rg_x1 := pm_rng x1
  have rg_x2 := pm_rng x2
  refine hC.1 0 0 _ _ rfl _ _ _ _ _ ?_
  refine And.intro (fun c1 => ?_) (fun c1 => ?_)
  · skip
    refine hC.1 1 13 _ _ rfl _ _ _ _ _ ?_
    have km1 : (-1 : Int32).toInt = -1 := rfl
    exact ⟨rfl, fun e9 => absurd e9 (by decide), rfl, (-1 : Int32), v, f, rfl, rfl, hv, hf, rfl, rfl, rfl, by first | omega | (dsimp only; omega) | trivial, by exact Or.inl ⟨by omega, rfl⟩⟩
  · skip
    have k0 : (0 : Int32).toInt = 0 := rfl
    have k1 : (1 : Int32).toInt = 1 := rfl
    refine Exists.intro _ (Exists.intro _ (Exists.intro _ (Exists.intro _ (And.intro (c_X11_isIn (md A0 g h q v f) x2 (0 : Int32) (1 : Int32) ) (And.intro rfl (fun r9 A9 h9 => ?_))))))
    rcases h9 with ⟨y2, rfl, rfl, ⟨rfl, by2⟩ | ⟨rfl, by2⟩⟩
    · skip
      refine And.intro (fun _ => ?_) (fun c9 => absurd c9 (by decide))
      refine hC.1 2 15 _ _ rfl _ _ _ _ _ ?_
      have lp4 : ∀ (n : Nat) (z3_17 : Int32) (v3 : Nat → Int32) (f3 : Nat → Nat → Int32), md_V v3 → md_F f3 → f3 2 = f 2 → f3 0 = f 0 → f3 1 = f 1 → (1 ≤ z3_17.toInt ∧ z3_17.toInt ≤ 25) → (SFA (f 0) (v 0).toInt x1.toInt x2.toInt z3_17.toInt) → (v3 0).toInt = (v 0).toInt → (v3 1).toInt = (v 1).toInt → (v3 2).toInt = (v 2).toInt → (v3 3).toInt = (v 3).toInt → (v3 4).toInt = (v 4).toInt → (v3 6).toInt = (v 6).toInt → 200 - z3_17.toInt < (n : Int) → J 17 [some (.ref h), some (.int x1), some (.int x2), some (.int z3_17)] [] (md A0 g h q v3 f3) 0 0 := by
        intro n
        induction n with
        | zero =>
          intro z3_17 v3 f3 hv3 hf3 hw3 hr3_0 hr3_1 j0_17 j1_17 j2_17 j3_17 j4_17 j5_17 j6_17 j7_17 j8_17
          omega
        | succ n ih5 =>
          intro z3_17 v3 f3 hv3 hf3 hw3 hr3_0 hr3_1 j0_17 j1_17 j2_17 j3_17 j4_17 j5_17 j6_17 j7_17 j8_17
          refine hC.1 3 17 _ _ rfl _ _ _ _ _ ?_
          have k24 : (24 : Int32).toInt = 24 := rfl
          refine And.intro (fun c7 => ?_) (fun c7 => ?_)
          · skip
            refine hC.1 5 47 _ _ rfl _ _ _ _ _ ?_
            have km1 : (-1 : Int32).toInt = -1 := rfl
            exact ⟨rfl, fun e9 => absurd e9 (by decide), rfl, (-1 : Int32), v3, f3, rfl, rfl, hv3, hf3, hw3, hr3_0, hr3_1, by first | omega | (dsimp only; omega) | trivial, by refine Or.inr ⟨by omega, Or.inr ⟨rfl, ?_⟩⟩; rw [show (25 : Int) = z3_17.toInt by omega]; exact j1_17⟩
          · skip
            refine Exists.intro _ (And.intro md_o ?_)
            intro m8 em_29
            try have e8 : m8.toInt = ((v3 0)).toInt - (1) := by rw [em_29]; exact pm_subc _ _ (1) rfl (by omega) (by omega)
            have yi_9 : ((m8).toInt + 1).toNat = (v 0).toInt.toNat := (by omega)
            have yh_9 := hr3_0
            have yv_9 : (v3 0).toInt = (v 0).toInt := (by omega)
            refine And.intro (Exists.intro _ md_o) (Exists.intro _ (Exists.intro _ (Exists.intro _ (Exists.intro _ (And.intro (G_X11_goOver D v3 f3 hv3 hf3 m8 z3_17 x2 (by omega) (by omega)) (And.intro rfl (fun r9 A9 h9 => ?_)))))))
            obtain ⟨y9, v10, f10, rfl, rfl, hv10, hf10, hx10, hg10_0, hg10_1, by9⟩ := h9
            have hw10 : f10 2 = f 2 := hx10.trans hw3
            have hr10_0 : f10 0 = f 0 := hg10_0.trans hr3_0
            have hr10_1 : f10 1 = f 1 := hg10_1.trans hr3_1
            have yf_9 := by9.2.1
            rw [yh_9, yv_9, yi_9] at yf_9
            refine And.intro (fun c12 => ?_) (fun c12 => ?_)
            · skip
              refine hC.1 4 41 _ _ rfl _ _ _ _ _ ?_
              intro m13 em_41
              try have e13 : m13.toInt = (z3_17).toInt + (1) := by rw [em_41]; exact pm_addc _ _ (1) rfl (by omega) (by omega)
              exact ih5 m13 v10 f10 hv10 hf10 hw10 hr10_0 hr10_1 (by omega) (by rw [show m13.toInt = z3_17.toInt + 1 by omega]; exact SFA_s j1_17 yf_9 (by omega)) (by omega) (by omega) (by omega) (by omega) (by omega) (by omega) (by omega)
            · skip
              exact ⟨rfl, fun e9 => absurd e9 (by decide), rfl, z3_17, v10, f10, rfl, rfl, hv10, hf10, hw10, hr10_0, hr10_1, by first | omega | (dsimp only; omega) | trivial, by exact Or.inr ⟨by omega, Or.inl ⟨by omega, j1_17, _, _, yf_9, by omega⟩⟩⟩
      exact lp4 (200 - (1 : Int32).toInt).toNat.succ (1 : Int32) v f hv hf rfl rfl rfl (by omega) (by intro j9 h9 h8; omega) (by omega) (by omega) (by omega) (by omega) (by omega) (by omega) (by omega)
    · skip
      refine And.intro (fun c9 => absurd c9 (by decide)) (fun _ => ?_)
      refine hC.1 1 13 _ _ rfl _ _ _ _ _ ?_
      have km1 : (-1 : Int32).toInt = -1 := rfl
      exact ⟨rfl, fun e9 => absurd e9 (by decide), rfl, (-1 : Int32), v, f, rfl, rfl, hv, hf, rfl, rfl, rfl, by first | omega | (dsimp only; omega) | trivial, by exact Or.inl ⟨by omega, rfl⟩⟩

end
end
section
/-! changed: how many names are otherwise now than behind an edit -/
noncomputable def qn (k : Nat → Int32) (n : Int) (x : Int32) : Int := nextEq k x 0 n.toNat
end
section
/-! report: the k-th by its bond, those without ahead of all -/
noncomputable def la (c : Nat → Int32) (i : Nat) : Int := lastEq c (c i) i
noncomputable def kR (c : Nat → Int32) (i : Nat) : Int := if la c i < 0 then (i : Int) - 160 else la c i
end
section
/-! the questions: an answer by its row, all of them, one more -/
noncomputable def cro (i : Int) : Nat := (40 + 4 * (i % 41)).toNat
noncomputable def cC (e : Nat → Nat → Int32) (i : Int) : Nat → Int32 := e (cro i + 1)
noncomputable def cM (e : Nat → Nat → Int32) (i : Int) : Nat → Int32 := e (cro i + 2)
end
section
/-! the law's world with the two rows held together -/
noncomputable def LX (g : pm_G) (xo h E : Nat) (A : pm_H) : Prop := ∃ (A00 : pm_H) (K nn dn : Nat) (q : Nat → Nat) (w : Nat → Int32) (e : Nat → Nat → Int32) (v : Nat → Int32) (f : Nat → Nat → Int32) (mq : Nat → Nat) (mv : Nat → Int32) (mf : Nat → Nat → Int32) (M : List pl_P), A = cw (md A00 g h mq mv mf) g K nn dn q w e v f ∧ q 0 = xo ∧ cw_I K nn dn q w e ∧ cw_S v f ∧ md_D h mq ∧ md_V mv ∧ md_F mf ∧ (∀ i, i < 40 + 4 * K → q i ≠ h ∧ ∀ j, j < 20 → q i ≠ mq j) ∧ (∀ j, j < 24 → e 15 j = mf 2 j) ∧ (w 0).toInt ≤ E ∧ (mv 4).toInt ≤ E ∧ rp (w nn) (e (nn + 1)) (e (nn + 2)) M ∧ rp (mv 0) (mf 0) (mf 1) M ∧ w 1 = mv 3 ∧ (w 0).toInt = (mv 4).toInt ∧ (nn : Int) = 40 + 4 * ((w 0).toInt % 41) ∧ nm0 M ∧ bd (w nn) (e (nn + 1)) (e (nn + 3))
theorem LX_mono {g : pm_G} {xo h E E' : Nat} {A : pm_H} (hE : E ≤ E') (hA : LX g xo h E A) : LX g xo h E' A := by
  obtain ⟨A00, K, nn, dn, q, w, e, v, f, mq, mv, mf, M, rfl, rfl, hI, hS, D, hv, hf, dj, hw, hE1, hE2, r⟩ := hA
  exact ⟨A00, K, nn, dn, q, w, e, v, f, mq, mv, mf, M, rfl, rfl, hI, hS, D, hv, hf, dj, hw, by omega, by omega, r⟩
theorem lx_n {n n2 : Int32} {c m c2 m2 : Nat → Int32} {M : List pl_P} (h1 : rp n c m M) (h2 : rp n2 c2 m2 M) : n.toInt = n2.toInt := h1.1.trans h2.1.symm
theorem lx_c {n n2 : Int32} {c m c2 m2 : Nat → Int32} {M : List pl_P} (h1 : rp n c m M) (h2 : rp n2 c2 m2 M) : ∀ j : Nat, (j : Int) < n.toInt → c j = c2 j := fun j hj => by
  have hl := h1.1
  rw [(h1.2 j (by omega)).1, (h2.2 j (by omega)).1]
noncomputable def wq (x1 x2 : Int32) (c : Nat → Int32) : Nat → Int32 := if 0 ≤ x1.toInt ∧ x1.toInt ≤ 23 ∧ 0 ≤ x2.toInt ∧ x2.toInt ≤ 999 then upd c x1.toInt.toNat x2 else c
theorem lx_wc {A0 : pm_H} {g : pm_G} {K nn dn : Nat} {q : Nat → Nat} {w : Nat → Int32} {e : Nat → Nat → Int32} {v : Nat → Int32} {f : Nat → Nat → Int32} (hI : cw_I K nn dn q w e) {x1 x2 : Int32} {r : Option Value} {A9 : pm_H} (h : ((0 ≤ x1.toInt ∧ x1.toInt ≤ 23 ∧ 0 ≤ x2.toInt ∧ x2.toInt ≤ 999) ∧ r = some (.int (e 15 x1.toInt.toNat)) ∧ A9 = cw A0 g K nn dn q w (va_up e 15 (upd (e 15) x1.toInt.toNat x2)) v f) ∨ (¬ (0 ≤ x1.toInt ∧ x1.toInt ≤ 23 ∧ 0 ≤ x2.toInt ∧ x2.toInt ≤ 999) ∧ r = some (.int (-1)) ∧ A9 = cw A0 g K nn dn q w e v f)) : ∃ (e2 : Nat → Nat → Int32) (y : Int32), r = some (.int y) ∧ A9 = cw A0 g K nn dn q w e2 v f ∧ cw_I K nn dn q w e2 ∧ (∀ i, 40 ≤ i → e2 i = e i) ∧ e2 15 = wq x1 x2 (e 15) := by
  rcases h with ⟨hr, h1, h2⟩ | ⟨hr, h1, h2⟩
  · exact ⟨_, _, h1, h2, ⟨hI.1, hI.2.1, hI.2.2.1, cw_E_up hI.2.2.2 _ _ (fun h9 _ => absurd h9 (by decide)) (fun h9 _ => absurd h9 (by decide))⟩, fun i hi => va_un (by omega), by rw [va_us, wq, if_pos hr]⟩
  · exact ⟨e, _, h1, h2, hI, fun _ _ => rfl, by rw [wq, if_neg hr]⟩
theorem lx_wm {B : pm_H} {g : pm_G} {h : Nat} {mq : Nat → Nat} {mv : Nat → Int32} {mf : Nat → Nat → Int32} (_ : md_D h mq) (hf : md_F mf) {x1 x2 : Int32} {r : Option Value} {A9 : pm_H} (h9 : ((0 ≤ x1.toInt ∧ x1.toInt ≤ 23 ∧ 0 ≤ x2.toInt ∧ x2.toInt ≤ 999) ∧ r = some (.int (mf 2 x1.toInt.toNat)) ∧ A9 = md B g h mq mv (va_up mf 2 (upd (mf 2) x1.toInt.toNat x2))) ∨ (¬ (0 ≤ x1.toInt ∧ x1.toInt ≤ 23 ∧ 0 ≤ x2.toInt ∧ x2.toInt ≤ 999) ∧ r = some (.int (-1)) ∧ A9 = md B g h mq mv mf)) : ∃ (mf2 : Nat → Nat → Int32) (y : Int32), r = some (.int y) ∧ A9 = md B g h mq mv mf2 ∧ md_F mf2 ∧ (mf2 0 = mf 0 ∧ mf2 1 = mf 1) ∧ mf2 2 = wq x1 x2 (mf 2) := by
  rcases h9 with ⟨hr, h1, h2⟩ | ⟨hr, h1, h2⟩
  · exact ⟨_, _, h1, h2, md_F_st hf 2 _ _ (md_rng _ _ (by decide)), ⟨va_un (by decide), va_un (by decide)⟩, by rw [va_us, wq, if_pos hr]⟩
  · exact ⟨mf, _, h1, h2, hf, ⟨rfl, rfl⟩, by rw [wq, if_neg hr]⟩
theorem lx_ww {e e2 mf mf2 : Nat → Nat → Int32} {x1 x2 : Int32} (hw : ∀ j, j < 24 → e 15 j = mf 2 j) (hc : e2 15 = wq x1 x2 (e 15)) (hm : mf2 2 = wq x1 x2 (mf 2)) : ∀ j, j < 24 → e2 15 j = mf2 2 j := fun j hj => by
  rw [hc, hm]
  unfold wq
  split
  · by_cases e1 : j = x1.toInt.toNat
    · rw [e1, pk_us, pk_us]
    · rw [pk_un e1, pk_un e1]; exact hw j hj
  · exact hw j hj
end
section
section
variable {l : Launch} {g : pm_G} {b L : Nat} {xs : Nat → Int32} {J : pm_J} {xo h : Nat}
set_option maxRecDepth 100000 in
set_option maxHeartbeats 2000000 in
theorem lx_b2 (hC : pm_Cl l g (lw_ro b L xs) 7 600000 7302250 lw_Rt bk_L_law J) {i : Int32} (hi : 0 ≤ i.toInt ∧ i.toInt + 6 ≤ L) (hL : L ≤ 3072) {E : Nat} (hE : E < 1000) {A : pm_H} {c s : Nat} (hA : LX g xo h E A) (hc : c + 4 ≤ 600000) (hs0 : s + 485 ≤ 7302250) (cont : ∀ (A' : pm_H) (c' s' : Nat), LX g xo h (E + 1) A' → c' ≤ c + 4 → s' ≤ s + 485 → J 2563 [some (.ref b), some (.ref xo), some (.ref h), some (.int i)] [] A' c' s') : J 308 [some (.ref b), some (.ref xo), some (.ref h), some (.int i)] [] A c s := by
  obtain ⟨A00, K, nn, dn, q, w, e, v, f, mq, mv, mf, M, rfl, rfl, hI, hS, D, hv, hf, dj, hw, hE1, hE2, hR1, hR2, hg, he0, hN, hM, hB⟩ := hA
  have hu9 := hI.2.1
  unfold cw_W at hu9
  have hro : lw_ro b L xs b = some (L, xs) := if_pos rfl
  refine hC.1 2 308 _ _ rfl _ _ _ _ _ ?_
  refine pq_aload_n1 (pq_aload_n0 (pq_iload_n3 (pq_iconst (pq_iadd ?_))))
  intro m1 em1
  have e1 : m1.toInt = i.toInt + 1 := lx_ad1 hi hL em1
  refine pq_iaload ?_
  refine Exists.intro _ (Exists.intro _ (And.intro (Or.inr hro) (And.intro (lx_bn1 hi e1) ?_)))
  obtain ⟨a1, ha1⟩ : ∃ z9, z9 = xs m1.toInt.toNat := ⟨_, rfl⟩
  have m_a1 := em1
  rw [← ha1]
  refine pq_aload_n0 (pq_iload_n3 (pq_iconst (pq_iadd ?_)))
  intro m2 em2
  have e2 : m2.toInt = i.toInt + 2 := lx_ad2 hi hL em2
  refine pq_iaload ?_
  refine Exists.intro _ (Exists.intro _ (And.intro (Or.inr hro) (And.intro (lx_bn2 hi e2) ?_)))
  obtain ⟨a2, ha2⟩ : ∃ z9, z9 = xs m2.toInt.toNat := ⟨_, rfl⟩
  have m_a2 := em2
  rw [← ha2]
  refine pq_iv2_10 ?_
  refine And.intro (Exists.intro _ (cw_o0 hI.1)) (Exists.intro _ (Exists.intro _ (Exists.intro _ (Exists.intro _ (And.intro (H_X10_put hI hS a1 a2 (by omega)) (And.intro (lw_bnd rfl (lx_c1 hc (by decide)) (lx_c1 hs0 (by decide)) rfl) (fun r9 A9 h9 => ?_)))))))
  obtain ⟨K319, nn319, dn319, q319, w319, e319, v319, f319, rfl, hI319, hS319, hX319, hy319, y319, rfl, by319⟩ := h9
  have dj319 := lw_dj D dj hX319
  have fc9 := by319.2 M hR1 hN
  refine pq_id1 (pq_pop (pq_aload_n2 (pq_aload_n0 (pq_iload_n3 (pq_iconst (pq_iadd ?_))))))
  intro m3 em3
  have e3 : m3.toInt = i.toInt + 1 := lx_ad1 hi hL em3
  refine pq_iaload ?_
  refine Exists.intro _ (Exists.intro _ (And.intro (Or.inr hro) (And.intro (lx_bn1 hi e3) ?_)))
  have ha1_3 : a1 = xs m3.toInt.toNat := by rw [ha1, em3, ← m_a1]
  rw [← ha1_3]
  refine pq_aload_n0 (pq_iload_n3 (pq_iconst (pq_iadd ?_)))
  intro m4 em4
  have e4 : m4.toInt = i.toInt + 2 := lx_ad2 hi hL em4
  refine pq_iaload ?_
  refine Exists.intro _ (Exists.intro _ (And.intro (Or.inr hro) (And.intro (lx_bn2 hi e4) ?_)))
  have ha2_4 : a2 = xs m4.toInt.toNat := by rw [ha2, em4, ← m_a2]
  rw [← ha2_4]
  refine pq_iv2_11 ?_
  rw [cw_md D dj319]
  refine And.intro (Exists.intro _ (md_o)) (Exists.intro _ (Exists.intro _ (Exists.intro _ (Exists.intro _ (And.intro (F_X11_put D mv mf hv hf a1 a2 (by omega)) (And.intro (lw_bnd rfl (lx_c2 hc (by decide)) (lx_c2 hs0 (by decide)) rfl) (fun r9 A9 h9 => ?_)))))))
  obtain ⟨y334, mv334, mf334, rfl, rfl, hv334, hf334, hx334, by334⟩ := h9
  have fm9 := by334.2 M hR2
  refine pq_id1 (pq_pop (pq_goto ?_))
  exact cont _ _ _ ⟨A00, K319, nn319, dn319, q319, w319, e319, v319, f319, mq, mv334, mf334, _, (cw_md D dj319).symm, (hX319.2.1 0 (by omega)), hI319, hS319, D, hv334, hf334, dj319, fun j hj => by rw [hy319, hx334]; exact hw j hj, by omega, by omega, fc9.1, fm9.1, (pm_eqI (by rw [fc9.2.2.1, fm9.2.2, hg])), (by rw [fc9.2.1, fm9.2.1, he0]), fc9.2.2.2.1, (nm_paint hM), (fc9.2.2.2.2 hB)⟩ (by omega) (by omega)

set_option maxRecDepth 100000 in
set_option maxHeartbeats 2000000 in
theorem lx_b3 (hC : pm_Cl l g (lw_ro b L xs) 7 600000 7302250 lw_Rt bk_L_law J) {i : Int32} (hi : 0 ≤ i.toInt ∧ i.toInt + 6 ≤ L) (hL : L ≤ 3072) {E : Nat} (hE : E < 1000) {A : pm_H} {c s : Nat} (hA : LX g xo h E A) (hc : c + 4 ≤ 600000) (hs0 : s + 485 ≤ 7302250) (cont : ∀ (A' : pm_H) (c' s' : Nat), LX g xo h (E + 1) A' → c' ≤ c + 4 → s' ≤ s + 485 → J 2563 [some (.ref b), some (.ref xo), some (.ref h), some (.int i)] [] A' c' s') : J 341 [some (.ref b), some (.ref xo), some (.ref h), some (.int i)] [] A c s := by
  obtain ⟨A00, K, nn, dn, q, w, e, v, f, mq, mv, mf, M, rfl, rfl, hI, hS, D, hv, hf, dj, hw, hE1, hE2, hR1, hR2, hg, he0, hN, hM, hB⟩ := hA
  have hu9 := hI.2.1
  unfold cw_W at hu9
  have hro : lw_ro b L xs b = some (L, xs) := if_pos rfl
  refine hC.1 3 341 _ _ rfl _ _ _ _ _ ?_
  refine pq_aload_n1 (pq_aload_n0 (pq_iload_n3 (pq_iconst (pq_iadd ?_))))
  intro m1 em1
  have e1 : m1.toInt = i.toInt + 1 := lx_ad1 hi hL em1
  refine pq_iaload ?_
  refine Exists.intro _ (Exists.intro _ (And.intro (Or.inr hro) (And.intro (lx_bn1 hi e1) ?_)))
  obtain ⟨a1, ha1⟩ : ∃ z9, z9 = xs m1.toInt.toNat := ⟨_, rfl⟩
  have m_a1 := em1
  rw [← ha1]
  refine pq_aload_n0 (pq_iload_n3 (pq_iconst (pq_iadd ?_)))
  intro m2 em2
  have e2 : m2.toInt = i.toInt + 2 := lx_ad2 hi hL em2
  refine pq_iaload ?_
  refine Exists.intro _ (Exists.intro _ (And.intro (Or.inr hro) (And.intro (lx_bn2 hi e2) ?_)))
  obtain ⟨a2, ha2⟩ : ∃ z9, z9 = xs m2.toInt.toNat := ⟨_, rfl⟩
  have m_a2 := em2
  rw [← ha2]
  refine pq_iv2_10 ?_
  refine And.intro (Exists.intro _ (cw_o0 hI.1)) (Exists.intro _ (Exists.intro _ (Exists.intro _ (Exists.intro _ (And.intro (H_X10_insert hI hS a1 a2 (by omega)) (And.intro (lw_bnd rfl (lx_c1 hc (by decide)) (lx_c1 hs0 (by decide)) rfl) (fun r9 A9 h9 => ?_)))))))
  obtain ⟨K352, nn352, dn352, q352, w352, e352, v352, f352, rfl, hI352, hS352, hX352, hy352, y352, rfl, by352⟩ := h9
  have dj352 := lw_dj D dj hX352
  have fc9 := by352.2 M hR1 hN
  refine pq_id1 (pq_pop (pq_aload_n2 (pq_aload_n0 (pq_iload_n3 (pq_iconst (pq_iadd ?_))))))
  intro m3 em3
  have e3 : m3.toInt = i.toInt + 1 := lx_ad1 hi hL em3
  refine pq_iaload ?_
  refine Exists.intro _ (Exists.intro _ (And.intro (Or.inr hro) (And.intro (lx_bn1 hi e3) ?_)))
  have ha1_3 : a1 = xs m3.toInt.toNat := by rw [ha1, em3, ← m_a1]
  rw [← ha1_3]
  refine pq_aload_n0 (pq_iload_n3 (pq_iconst (pq_iadd ?_)))
  intro m4 em4
  have e4 : m4.toInt = i.toInt + 2 := lx_ad2 hi hL em4
  refine pq_iaload ?_
  refine Exists.intro _ (Exists.intro _ (And.intro (Or.inr hro) (And.intro (lx_bn2 hi e4) ?_)))
  have ha2_4 : a2 = xs m4.toInt.toNat := by rw [ha2, em4, ← m_a2]
  rw [← ha2_4]
  refine pq_iv2_11 ?_
  rw [cw_md D dj352]
  refine And.intro (Exists.intro _ (md_o)) (Exists.intro _ (Exists.intro _ (Exists.intro _ (Exists.intro _ (And.intro (F_X11_insert D mv mf hv hf a1 a2 (by omega)) (And.intro (lw_bnd rfl (lx_c2 hc (by decide)) (lx_c2 hs0 (by decide)) rfl) (fun r9 A9 h9 => ?_)))))))
  obtain ⟨y367, mv367, mf367, rfl, rfl, hv367, hf367, hx367, by367⟩ := h9
  have fm9 := by367.2 M hR2
  rw [← hg] at fm9
  refine pq_id1 (pq_pop (pq_goto ?_))
  exact cont _ _ _ ⟨A00, K352, nn352, dn352, q352, w352, e352, v352, f352, mq, mv367, mf367, _, (cw_md D dj352).symm, (hX352.2.1 0 (by omega)), hI352, hS352, D, hv367, hf367, dj352, fun j hj => by rw [hy352, hx367]; exact hw j hj, by omega, by omega, fc9.1, fm9.1, (pm_eqI (by rw [fc9.2.2.1, fm9.2.2, hg])), (by rw [fc9.2.1, fm9.2.1, he0]), fc9.2.2.2.1, (nm_insert hM (by omega)), (fc9.2.2.2.2 hB)⟩ (by omega) (by omega)

set_option maxRecDepth 100000 in
set_option maxHeartbeats 2000000 in
theorem lx_b4 (hC : pm_Cl l g (lw_ro b L xs) 7 600000 7302250 lw_Rt bk_L_law J) {i : Int32} (hi : 0 ≤ i.toInt ∧ i.toInt + 6 ≤ L) (hL : L ≤ 3072) {E : Nat} (hE : E < 1000) {A : pm_H} {c s : Nat} (hA : LX g xo h E A) (hc : c + 4 ≤ 600000) (hs0 : s + 485 ≤ 7302250) (cont : ∀ (A' : pm_H) (c' s' : Nat), LX g xo h (E + 1) A' → c' ≤ c + 4 → s' ≤ s + 485 → J 2563 [some (.ref b), some (.ref xo), some (.ref h), some (.int i)] [] A' c' s') : J 374 [some (.ref b), some (.ref xo), some (.ref h), some (.int i)] [] A c s := by
  obtain ⟨A00, K, nn, dn, q, w, e, v, f, mq, mv, mf, M, rfl, rfl, hI, hS, D, hv, hf, dj, hw, hE1, hE2, hR1, hR2, hg, he0, hN, hM, hB⟩ := hA
  have hu9 := hI.2.1
  unfold cw_W at hu9
  have hro : lw_ro b L xs b = some (L, xs) := if_pos rfl
  refine hC.1 4 374 _ _ rfl _ _ _ _ _ ?_
  refine pq_aload_n1 (pq_aload_n0 (pq_iload_n3 (pq_iconst (pq_iadd ?_))))
  intro m1 em1
  have e1 : m1.toInt = i.toInt + 1 := lx_ad1 hi hL em1
  refine pq_iaload ?_
  refine Exists.intro _ (Exists.intro _ (And.intro (Or.inr hro) (And.intro (lx_bn1 hi e1) ?_)))
  obtain ⟨a1, ha1⟩ : ∃ z9, z9 = xs m1.toInt.toNat := ⟨_, rfl⟩
  have m_a1 := em1
  rw [← ha1]
  refine pq_aload_n0 (pq_iload_n3 (pq_iconst (pq_iadd ?_)))
  intro m2 em2
  have e2 : m2.toInt = i.toInt + 2 := lx_ad2 hi hL em2
  refine pq_iaload ?_
  refine Exists.intro _ (Exists.intro _ (And.intro (Or.inr hro) (And.intro (lx_bn2 hi e2) ?_)))
  obtain ⟨a2, ha2⟩ : ∃ z9, z9 = xs m2.toInt.toNat := ⟨_, rfl⟩
  have m_a2 := em2
  rw [← ha2]
  refine pq_iv2_10 ?_
  refine And.intro (Exists.intro _ (cw_o0 hI.1)) (Exists.intro _ (Exists.intro _ (Exists.intro _ (Exists.intro _ (And.intro (H_X10_cut hI hS a1 a2 (by omega)) (And.intro (lw_bnd rfl (lx_c1 hc (by decide)) (lx_c1 hs0 (by decide)) rfl) (fun r9 A9 h9 => ?_)))))))
  obtain ⟨K385, nn385, dn385, q385, w385, e385, v385, f385, rfl, hI385, hS385, hX385, hy385, y385, rfl, by385⟩ := h9
  have dj385 := lw_dj D dj hX385
  have fc9 := by385.2 M hR1 hN
  refine pq_id1 (pq_pop (pq_aload_n2 (pq_aload_n0 (pq_iload_n3 (pq_iconst (pq_iadd ?_))))))
  intro m3 em3
  have e3 : m3.toInt = i.toInt + 1 := lx_ad1 hi hL em3
  refine pq_iaload ?_
  refine Exists.intro _ (Exists.intro _ (And.intro (Or.inr hro) (And.intro (lx_bn1 hi e3) ?_)))
  have ha1_3 : a1 = xs m3.toInt.toNat := by rw [ha1, em3, ← m_a1]
  rw [← ha1_3]
  refine pq_aload_n0 (pq_iload_n3 (pq_iconst (pq_iadd ?_)))
  intro m4 em4
  have e4 : m4.toInt = i.toInt + 2 := lx_ad2 hi hL em4
  refine pq_iaload ?_
  refine Exists.intro _ (Exists.intro _ (And.intro (Or.inr hro) (And.intro (lx_bn2 hi e4) ?_)))
  have ha2_4 : a2 = xs m4.toInt.toNat := by rw [ha2, em4, ← m_a2]
  rw [← ha2_4]
  refine pq_iv2_11 ?_
  rw [cw_md D dj385]
  refine And.intro (Exists.intro _ (md_o)) (Exists.intro _ (Exists.intro _ (Exists.intro _ (Exists.intro _ (And.intro (F_X11_cut D mv mf hv hf a1 a2 (by omega)) (And.intro (lw_bnd rfl (lx_c2 hc (by decide)) (lx_c2 hs0 (by decide)) rfl) (fun r9 A9 h9 => ?_)))))))
  obtain ⟨y400, mv400, mf400, rfl, rfl, hv400, hf400, hx400, by400⟩ := h9
  have fm9 := by400.2 M hR2
  refine pq_id1 (pq_pop (pq_goto ?_))
  exact cont _ _ _ ⟨A00, K385, nn385, dn385, q385, w385, e385, v385, f385, mq, mv400, mf400, _, (cw_md D dj385).symm, (hX385.2.1 0 (by omega)), hI385, hS385, D, hv400, hf400, dj385, fun j hj => by rw [hy385, hx400]; exact hw j hj, by omega, by omega, fc9.1, fm9.1, (pm_eqI (by rw [fc9.2.2.1, fm9.2.2, hg])), (by rw [fc9.2.1, fm9.2.1, he0]), fc9.2.2.2.1, (nm_cut hM), (fc9.2.2.2.2 hB)⟩ (by omega) (by omega)

set_option maxRecDepth 100000 in
set_option maxHeartbeats 2000000 in
theorem lx_b5 (hC : pm_Cl l g (lw_ro b L xs) 7 600000 7302250 lw_Rt bk_L_law J) {i : Int32} (hi : 0 ≤ i.toInt ∧ i.toInt + 6 ≤ L) (hL : L ≤ 3072) {E : Nat} (hE : E < 1000) {A : pm_H} {c s : Nat} (hA : LX g xo h E A) (hc : c + 4 ≤ 600000) (hs0 : s + 485 ≤ 7302250) (cont : ∀ (A' : pm_H) (c' s' : Nat), LX g xo h (E + 1) A' → c' ≤ c + 4 → s' ≤ s + 485 → J 2563 [some (.ref b), some (.ref xo), some (.ref h), some (.int i)] [] A' c' s') : J 407 [some (.ref b), some (.ref xo), some (.ref h), some (.int i)] [] A c s := by
  obtain ⟨A00, K, nn, dn, q, w, e, v, f, mq, mv, mf, M, rfl, rfl, hI, hS, D, hv, hf, dj, hw, hE1, hE2, hR1, hR2, hg, he0, hN, hM, hB⟩ := hA
  have hu9 := hI.2.1
  unfold cw_W at hu9
  have hro : lw_ro b L xs b = some (L, xs) := if_pos rfl
  refine hC.1 5 407 _ _ rfl _ _ _ _ _ ?_
  refine pq_aload_n1 (pq_aload_n0 (pq_iload_n3 (pq_iconst (pq_iadd ?_))))
  intro m1 em1
  have e1 : m1.toInt = i.toInt + 1 := lx_ad1 hi hL em1
  refine pq_iaload ?_
  refine Exists.intro _ (Exists.intro _ (And.intro (Or.inr hro) (And.intro (lx_bn1 hi e1) ?_)))
  obtain ⟨a1, ha1⟩ : ∃ z9, z9 = xs m1.toInt.toNat := ⟨_, rfl⟩
  have m_a1 := em1
  rw [← ha1]
  refine pq_aload_n0 (pq_iload_n3 (pq_iconst (pq_iadd ?_)))
  intro m2 em2
  have e2 : m2.toInt = i.toInt + 2 := lx_ad2 hi hL em2
  refine pq_iaload ?_
  refine Exists.intro _ (Exists.intro _ (And.intro (Or.inr hro) (And.intro (lx_bn2 hi e2) ?_)))
  obtain ⟨a2, ha2⟩ : ∃ z9, z9 = xs m2.toInt.toNat := ⟨_, rfl⟩
  have m_a2 := em2
  rw [← ha2]
  refine pq_aload_n0 (pq_iload_n3 (pq_iconst (pq_iadd ?_)))
  intro m3 em3
  have e3 : m3.toInt = i.toInt + 3 := lx_ad3 hi hL em3
  refine pq_iaload ?_
  refine Exists.intro _ (Exists.intro _ (And.intro (Or.inr hro) (And.intro (lx_bn3 hi e3) ?_)))
  obtain ⟨a3, ha3⟩ : ∃ z9, z9 = xs m3.toInt.toNat := ⟨_, rfl⟩
  have m_a3 := em3
  rw [← ha3]
  refine pq_iv3_10 ?_
  refine And.intro (Exists.intro _ (cw_o0 hI.1)) (Exists.intro _ (Exists.intro _ (Exists.intro _ (Exists.intro _ (And.intro (H_X10_paint hI hS a1 a2 a3 (by omega)) (And.intro (lw_bnd rfl (lx_c1 hc (by decide)) (lx_c1 hs0 (by decide)) rfl) (fun r9 A9 h9 => ?_)))))))
  obtain ⟨K423, nn423, dn423, q423, w423, e423, v423, f423, rfl, hI423, hS423, hX423, hy423, y423, rfl, by423⟩ := h9
  have dj423 := lw_dj D dj hX423
  have fc9 := by423.2 M hR1 hN
  refine pq_id1 (pq_pop (pq_aload_n2 (pq_aload_n0 (pq_iload_n3 (pq_iconst (pq_iadd ?_))))))
  intro m4 em4
  have e4 : m4.toInt = i.toInt + 1 := lx_ad1 hi hL em4
  refine pq_iaload ?_
  refine Exists.intro _ (Exists.intro _ (And.intro (Or.inr hro) (And.intro (lx_bn1 hi e4) ?_)))
  have ha1_4 : a1 = xs m4.toInt.toNat := by rw [ha1, em4, ← m_a1]
  rw [← ha1_4]
  refine pq_aload_n0 (pq_iload_n3 (pq_iconst (pq_iadd ?_)))
  intro m5 em5
  have e5 : m5.toInt = i.toInt + 2 := lx_ad2 hi hL em5
  refine pq_iaload ?_
  refine Exists.intro _ (Exists.intro _ (And.intro (Or.inr hro) (And.intro (lx_bn2 hi e5) ?_)))
  have ha2_5 : a2 = xs m5.toInt.toNat := by rw [ha2, em5, ← m_a2]
  rw [← ha2_5]
  refine pq_aload_n0 (pq_iload_n3 (pq_iconst (pq_iadd ?_)))
  intro m6 em6
  have e6 : m6.toInt = i.toInt + 3 := lx_ad3 hi hL em6
  refine pq_iaload ?_
  refine Exists.intro _ (Exists.intro _ (And.intro (Or.inr hro) (And.intro (lx_bn3 hi e6) ?_)))
  have ha3_6 : a3 = xs m6.toInt.toNat := by rw [ha3, em6, ← m_a3]
  rw [← ha3_6]
  refine pq_iv3_11 ?_
  rw [cw_md D dj423]
  refine And.intro (Exists.intro _ (md_o)) (Exists.intro _ (Exists.intro _ (Exists.intro _ (Exists.intro _ (And.intro (F_X11_paint D mv mf hv hf a1 a2 a3 (by omega)) (And.intro (lw_bnd rfl (lx_c2 hc (by decide)) (lx_c2 hs0 (by decide)) rfl) (fun r9 A9 h9 => ?_)))))))
  obtain ⟨y443, mv443, mf443, rfl, rfl, hv443, hf443, hx443, by443⟩ := h9
  have fm9 := by443.2 M hR2
  refine pq_id1 (pq_pop (pq_goto ?_))
  exact cont _ _ _ ⟨A00, K423, nn423, dn423, q423, w423, e423, v423, f423, mq, mv443, mf443, _, (cw_md D dj423).symm, (hX423.2.1 0 (by omega)), hI423, hS423, D, hv443, hf443, dj423, fun j hj => by rw [hy423, hx443]; exact hw j hj, by omega, by omega, fc9.1, fm9.1, (pm_eqI (by rw [fc9.2.2.1, fm9.2.2, hg])), (by rw [fc9.2.1, fm9.2.1, he0]), fc9.2.2.2.1, (nm_paint hM), (fc9.2.2.2.2 hB)⟩ (by omega) (by omega)

set_option maxRecDepth 100000 in
set_option maxHeartbeats 2000000 in
theorem lx_b6 (hC : pm_Cl l g (lw_ro b L xs) 7 600000 7302250 lw_Rt bk_L_law J) {i : Int32} (hi : 0 ≤ i.toInt ∧ i.toInt + 6 ≤ L) (hL : L ≤ 3072) {E : Nat} (hE : E < 1000) {A : pm_H} {c s : Nat} (hA : LX g xo h E A) (hc : c + 4 ≤ 600000) (hs0 : s + 485 ≤ 7302250) (cont : ∀ (A' : pm_H) (c' s' : Nat), LX g xo h (E + 1) A' → c' ≤ c + 4 → s' ≤ s + 485 → J 2563 [some (.ref b), some (.ref xo), some (.ref h), some (.int i)] [] A' c' s') : J 450 [some (.ref b), some (.ref xo), some (.ref h), some (.int i)] [] A c s := by
  obtain ⟨A00, K, nn, dn, q, w, e, v, f, mq, mv, mf, M, rfl, rfl, hI, hS, D, hv, hf, dj, hw, hE1, hE2, hR1, hR2, hg, he0, hN, hM, hB⟩ := hA
  have hu9 := hI.2.1
  unfold cw_W at hu9
  have hro : lw_ro b L xs b = some (L, xs) := if_pos rfl
  refine hC.1 6 450 _ _ rfl _ _ _ _ _ ?_
  refine pq_aload_n1 (pq_aload_n0 (pq_iload_n3 (pq_iconst (pq_iadd ?_))))
  intro m1 em1
  have e1 : m1.toInt = i.toInt + 1 := lx_ad1 hi hL em1
  refine pq_iaload ?_
  refine Exists.intro _ (Exists.intro _ (And.intro (Or.inr hro) (And.intro (lx_bn1 hi e1) ?_)))
  obtain ⟨a1, ha1⟩ : ∃ z9, z9 = xs m1.toInt.toNat := ⟨_, rfl⟩
  have m_a1 := em1
  rw [← ha1]
  refine pq_aload_n0 (pq_iload_n3 (pq_iconst (pq_iadd ?_)))
  intro m2 em2
  have e2 : m2.toInt = i.toInt + 2 := lx_ad2 hi hL em2
  refine pq_iaload ?_
  refine Exists.intro _ (Exists.intro _ (And.intro (Or.inr hro) (And.intro (lx_bn2 hi e2) ?_)))
  obtain ⟨a2, ha2⟩ : ∃ z9, z9 = xs m2.toInt.toNat := ⟨_, rfl⟩
  have m_a2 := em2
  rw [← ha2]
  refine pq_iv2_10 ?_
  refine And.intro (Exists.intro _ (cw_o0 hI.1)) (Exists.intro _ (Exists.intro _ (Exists.intro _ (Exists.intro _ (And.intro (H_X10_turn hI hS a1 a2 (by omega)) (And.intro (lw_bnd rfl (lx_c1 hc (by decide)) (lx_c1 hs0 (by decide)) rfl) (fun r9 A9 h9 => ?_)))))))
  obtain ⟨K461, nn461, dn461, q461, w461, e461, v461, f461, rfl, hI461, hS461, hX461, hy461, y461, rfl, by461⟩ := h9
  have dj461 := lw_dj D dj hX461
  have fc9 := by461.2 M hR1 hN
  refine pq_id1 (pq_pop (pq_aload_n2 (pq_aload_n0 (pq_iload_n3 (pq_iconst (pq_iadd ?_))))))
  intro m3 em3
  have e3 : m3.toInt = i.toInt + 1 := lx_ad1 hi hL em3
  refine pq_iaload ?_
  refine Exists.intro _ (Exists.intro _ (And.intro (Or.inr hro) (And.intro (lx_bn1 hi e3) ?_)))
  have ha1_3 : a1 = xs m3.toInt.toNat := by rw [ha1, em3, ← m_a1]
  rw [← ha1_3]
  refine pq_aload_n0 (pq_iload_n3 (pq_iconst (pq_iadd ?_)))
  intro m4 em4
  have e4 : m4.toInt = i.toInt + 2 := lx_ad2 hi hL em4
  refine pq_iaload ?_
  refine Exists.intro _ (Exists.intro _ (And.intro (Or.inr hro) (And.intro (lx_bn2 hi e4) ?_)))
  have ha2_4 : a2 = xs m4.toInt.toNat := by rw [ha2, em4, ← m_a2]
  rw [← ha2_4]
  refine pq_iv2_11 ?_
  rw [cw_md D dj461]
  refine And.intro (Exists.intro _ (md_o)) (Exists.intro _ (Exists.intro _ (Exists.intro _ (Exists.intro _ (And.intro (F_X11_turn D mv mf hv hf a1 a2 (by omega)) (And.intro (lw_bnd rfl (lx_c2 hc (by decide)) (lx_c2 hs0 (by decide)) rfl) (fun r9 A9 h9 => ?_)))))))
  obtain ⟨y476, mv476, mf476, rfl, rfl, hv476, hf476, hx476, by476⟩ := h9
  have fm9 := by476.2 M hR2
  refine pq_id1 (pq_pop (pq_goto ?_))
  exact cont _ _ _ ⟨A00, K461, nn461, dn461, q461, w461, e461, v461, f461, mq, mv476, mf476, _, (cw_md D dj461).symm, (hX461.2.1 0 (by omega)), hI461, hS461, D, hv476, hf476, dj461, fun j hj => by rw [hy461, hx476]; exact hw j hj, by omega, by omega, fc9.1, fm9.1, (pm_eqI (by rw [fc9.2.2.1, fm9.2.2, hg])), (by rw [fc9.2.1, fm9.2.1, he0]), fc9.2.2.2.1, (nm_turn hM), (fc9.2.2.2.2 hB)⟩ (by omega) (by omega)

set_option maxRecDepth 100000 in
set_option maxHeartbeats 2000000 in
theorem lx_b7 (hC : pm_Cl l g (lw_ro b L xs) 7 600000 7302250 lw_Rt bk_L_law J) {i : Int32} (hi : 0 ≤ i.toInt ∧ i.toInt + 6 ≤ L) (hL : L ≤ 3072) {E : Nat} (hE : E < 1000) {A : pm_H} {c s : Nat} (hA : LX g xo h E A) (hc : c + 4 ≤ 600000) (hs0 : s + 485 ≤ 7302250) (cont : ∀ (A' : pm_H) (c' s' : Nat), LX g xo h (E + 1) A' → c' ≤ c + 4 → s' ≤ s + 485 → J 2563 [some (.ref b), some (.ref xo), some (.ref h), some (.int i)] [] A' c' s') : J 483 [some (.ref b), some (.ref xo), some (.ref h), some (.int i)] [] A c s := by
  obtain ⟨A00, K, nn, dn, q, w, e, v, f, mq, mv, mf, M, rfl, rfl, hI, hS, D, hv, hf, dj, hw, hE1, hE2, hR1, hR2, hg, he0, hN, hM, hB⟩ := hA
  have hu9 := hI.2.1
  unfold cw_W at hu9
  have hro : lw_ro b L xs b = some (L, xs) := if_pos rfl
  refine hC.1 7 483 _ _ rfl _ _ _ _ _ ?_
  refine pq_aload_n1 (pq_aload_n0 (pq_iload_n3 (pq_iconst (pq_iadd ?_))))
  intro m1 em1
  have e1 : m1.toInt = i.toInt + 1 := lx_ad1 hi hL em1
  refine pq_iaload ?_
  refine Exists.intro _ (Exists.intro _ (And.intro (Or.inr hro) (And.intro (lx_bn1 hi e1) ?_)))
  obtain ⟨a1, ha1⟩ : ∃ z9, z9 = xs m1.toInt.toNat := ⟨_, rfl⟩
  have m_a1 := em1
  rw [← ha1]
  refine pq_aload_n0 (pq_iload_n3 (pq_iconst (pq_iadd ?_)))
  intro m2 em2
  have e2 : m2.toInt = i.toInt + 2 := lx_ad2 hi hL em2
  refine pq_iaload ?_
  refine Exists.intro _ (Exists.intro _ (And.intro (Or.inr hro) (And.intro (lx_bn2 hi e2) ?_)))
  obtain ⟨a2, ha2⟩ : ∃ z9, z9 = xs m2.toInt.toNat := ⟨_, rfl⟩
  have m_a2 := em2
  rw [← ha2]
  refine pq_aload_n0 (pq_iload_n3 (pq_iconst (pq_iadd ?_)))
  intro m3 em3
  have e3 : m3.toInt = i.toInt + 3 := lx_ad3 hi hL em3
  refine pq_iaload ?_
  refine Exists.intro _ (Exists.intro _ (And.intro (Or.inr hro) (And.intro (lx_bn3 hi e3) ?_)))
  obtain ⟨a3, ha3⟩ : ∃ z9, z9 = xs m3.toInt.toNat := ⟨_, rfl⟩
  have m_a3 := em3
  rw [← ha3]
  refine pq_iv3_10 ?_
  refine And.intro (Exists.intro _ (cw_o0 hI.1)) (Exists.intro _ (Exists.intro _ (Exists.intro _ (Exists.intro _ (And.intro (H_X10_shift hI hS a1 a2 a3 (by omega)) (And.intro (lw_bnd rfl (lx_c1 hc (by decide)) (lx_c1 hs0 (by decide)) rfl) (fun r9 A9 h9 => ?_)))))))
  obtain ⟨K499, nn499, dn499, q499, w499, e499, v499, f499, rfl, hI499, hS499, hX499, hy499, y499, rfl, by499⟩ := h9
  have dj499 := lw_dj D dj hX499
  have fc9 := by499.2 M hR1 hN
  refine pq_id1 (pq_pop (pq_aload_n2 (pq_aload_n0 (pq_iload_n3 (pq_iconst (pq_iadd ?_))))))
  intro m4 em4
  have e4 : m4.toInt = i.toInt + 1 := lx_ad1 hi hL em4
  refine pq_iaload ?_
  refine Exists.intro _ (Exists.intro _ (And.intro (Or.inr hro) (And.intro (lx_bn1 hi e4) ?_)))
  have ha1_4 : a1 = xs m4.toInt.toNat := by rw [ha1, em4, ← m_a1]
  rw [← ha1_4]
  refine pq_aload_n0 (pq_iload_n3 (pq_iconst (pq_iadd ?_)))
  intro m5 em5
  have e5 : m5.toInt = i.toInt + 2 := lx_ad2 hi hL em5
  refine pq_iaload ?_
  refine Exists.intro _ (Exists.intro _ (And.intro (Or.inr hro) (And.intro (lx_bn2 hi e5) ?_)))
  have ha2_5 : a2 = xs m5.toInt.toNat := by rw [ha2, em5, ← m_a2]
  rw [← ha2_5]
  refine pq_aload_n0 (pq_iload_n3 (pq_iconst (pq_iadd ?_)))
  intro m6 em6
  have e6 : m6.toInt = i.toInt + 3 := lx_ad3 hi hL em6
  refine pq_iaload ?_
  refine Exists.intro _ (Exists.intro _ (And.intro (Or.inr hro) (And.intro (lx_bn3 hi e6) ?_)))
  have ha3_6 : a3 = xs m6.toInt.toNat := by rw [ha3, em6, ← m_a3]
  rw [← ha3_6]
  refine pq_iv3_11 ?_
  rw [cw_md D dj499]
  refine And.intro (Exists.intro _ (md_o)) (Exists.intro _ (Exists.intro _ (Exists.intro _ (Exists.intro _ (And.intro (F_X11_shift D mv mf hv hf a1 a2 a3 (by omega)) (And.intro (lw_bnd rfl (lx_c2 hc (by decide)) (lx_c2 hs0 (by decide)) rfl) (fun r9 A9 h9 => ?_)))))))
  obtain ⟨y519, mv519, mf519, rfl, rfl, hv519, hf519, hx519, by519⟩ := h9
  have fm9 := by519.2 M hR2
  refine pq_id1 (pq_pop (pq_goto ?_))
  exact cont _ _ _ ⟨A00, K499, nn499, dn499, q499, w499, e499, v499, f499, mq, mv519, mf519, _, (cw_md D dj499).symm, (hX499.2.1 0 (by omega)), hI499, hS499, D, hv519, hf519, dj499, fun j hj => by rw [hy499, hx519]; exact hw j hj, by omega, by omega, fc9.1, fm9.1, (pm_eqI (by rw [fc9.2.2.1, fm9.2.2, hg])), (by rw [fc9.2.1, fm9.2.1, he0]), fc9.2.2.2.1, (nm_shift hM), (fc9.2.2.2.2 hB)⟩ (by omega) (by omega)

set_option maxRecDepth 100000 in
set_option maxHeartbeats 2000000 in
theorem lx_b8 (hC : pm_Cl l g (lw_ro b L xs) 7 600000 7302250 lw_Rt bk_L_law J) {i : Int32} (hi : 0 ≤ i.toInt ∧ i.toInt + 6 ≤ L) (hL : L ≤ 3072) {E : Nat} (hE : E < 1000) {A : pm_H} {c s : Nat} (hA : LX g xo h E A) (hc : c + 4 ≤ 600000) (hs0 : s + 485 ≤ 7302250) (cont : ∀ (A' : pm_H) (c' s' : Nat), LX g xo h (E + 1) A' → c' ≤ c + 4 → s' ≤ s + 485 → J 2563 [some (.ref b), some (.ref xo), some (.ref h), some (.int i)] [] A' c' s') : J 526 [some (.ref b), some (.ref xo), some (.ref h), some (.int i)] [] A c s := by
  obtain ⟨A00, K, nn, dn, q, w, e, v, f, mq, mv, mf, M, rfl, rfl, hI, hS, D, hv, hf, dj, hw, hE1, hE2, hR1, hR2, hg, he0, hN, hM, hB⟩ := hA
  have hu9 := hI.2.1
  unfold cw_W at hu9
  have hro : lw_ro b L xs b = some (L, xs) := if_pos rfl
  refine hC.1 8 526 _ _ rfl _ _ _ _ _ ?_
  refine pq_aload_n1 (pq_aload_n0 (pq_iload_n3 (pq_iconst (pq_iadd ?_))))
  intro m1 em1
  have e1 : m1.toInt = i.toInt + 1 := lx_ad1 hi hL em1
  refine pq_iaload ?_
  refine Exists.intro _ (Exists.intro _ (And.intro (Or.inr hro) (And.intro (lx_bn1 hi e1) ?_)))
  obtain ⟨a1, ha1⟩ : ∃ z9, z9 = xs m1.toInt.toNat := ⟨_, rfl⟩
  have m_a1 := em1
  rw [← ha1]
  refine pq_aload_n0 (pq_iload_n3 (pq_iconst (pq_iadd ?_)))
  intro m2 em2
  have e2 : m2.toInt = i.toInt + 2 := lx_ad2 hi hL em2
  refine pq_iaload ?_
  refine Exists.intro _ (Exists.intro _ (And.intro (Or.inr hro) (And.intro (lx_bn2 hi e2) ?_)))
  obtain ⟨a2, ha2⟩ : ∃ z9, z9 = xs m2.toInt.toNat := ⟨_, rfl⟩
  have m_a2 := em2
  rw [← ha2]
  refine pq_iv2_10 ?_
  refine And.intro (Exists.intro _ (cw_o0 hI.1)) (Exists.intro _ (Exists.intro _ (Exists.intro _ (Exists.intro _ (And.intro (H_X10_sort hI hS a1 a2 (by omega)) (And.intro (lw_bnd rfl (lx_c1 hc (by decide)) (lx_c1 hs0 (by decide)) rfl) (fun r9 A9 h9 => ?_)))))))
  obtain ⟨K537, nn537, dn537, q537, w537, e537, v537, f537, rfl, hI537, hS537, hX537, hy537, y537, rfl, by537⟩ := h9
  have dj537 := lw_dj D dj hX537
  have fc9 := by537.2 M hR1 hN
  refine pq_id1 (pq_pop (pq_aload_n2 (pq_aload_n0 (pq_iload_n3 (pq_iconst (pq_iadd ?_))))))
  intro m3 em3
  have e3 : m3.toInt = i.toInt + 1 := lx_ad1 hi hL em3
  refine pq_iaload ?_
  refine Exists.intro _ (Exists.intro _ (And.intro (Or.inr hro) (And.intro (lx_bn1 hi e3) ?_)))
  have ha1_3 : a1 = xs m3.toInt.toNat := by rw [ha1, em3, ← m_a1]
  rw [← ha1_3]
  refine pq_aload_n0 (pq_iload_n3 (pq_iconst (pq_iadd ?_)))
  intro m4 em4
  have e4 : m4.toInt = i.toInt + 2 := lx_ad2 hi hL em4
  refine pq_iaload ?_
  refine Exists.intro _ (Exists.intro _ (And.intro (Or.inr hro) (And.intro (lx_bn2 hi e4) ?_)))
  have ha2_4 : a2 = xs m4.toInt.toNat := by rw [ha2, em4, ← m_a2]
  rw [← ha2_4]
  refine pq_iv2_11 ?_
  rw [cw_md D dj537]
  refine And.intro (Exists.intro _ (md_o)) (Exists.intro _ (Exists.intro _ (Exists.intro _ (Exists.intro _ (And.intro (F_X11_sort D mv mf hv hf a1 a2 (by omega)) (And.intro (lw_bnd rfl (lx_c2 hc (by decide)) (lx_c2 hs0 (by decide)) rfl) (fun r9 A9 h9 => ?_)))))))
  obtain ⟨y552, mv552, mf552, rfl, rfl, hv552, hf552, hx552, by552⟩ := h9
  have fm9 := by552.2 M hR2
  refine pq_id1 (pq_pop (pq_goto ?_))
  exact cont _ _ _ ⟨A00, K537, nn537, dn537, q537, w537, e537, v537, f537, mq, mv552, mf552, _, (cw_md D dj537).symm, (hX537.2.1 0 (by omega)), hI537, hS537, D, hv552, hf552, dj537, fun j hj => by rw [hy537, hx552]; exact hw j hj, by omega, by omega, fc9.1, fm9.1, (pm_eqI (by rw [fc9.2.2.1, fm9.2.2, hg])), (by rw [fc9.2.1, fm9.2.1, he0]), fc9.2.2.2.1, (nm_sort hM), (fc9.2.2.2.2 hB)⟩ (by omega) (by omega)

set_option maxRecDepth 100000 in
set_option maxHeartbeats 2000000 in
theorem lx_b9 (hC : pm_Cl l g (lw_ro b L xs) 7 600000 7302250 lw_Rt bk_L_law J) {i : Int32} (hi : 0 ≤ i.toInt ∧ i.toInt + 6 ≤ L) (hL : L ≤ 3072) {E : Nat} (hE : E < 1000) {A : pm_H} {c s : Nat} (hA : LX g xo h E A) (hc : c + 4 ≤ 600000) (hs0 : s + 485 ≤ 7302250) (cont : ∀ (A' : pm_H) (c' s' : Nat), LX g xo h (E + 1) A' → c' ≤ c + 4 → s' ≤ s + 485 → J 2563 [some (.ref b), some (.ref xo), some (.ref h), some (.int i)] [] A' c' s') : J 559 [some (.ref b), some (.ref xo), some (.ref h), some (.int i)] [] A c s := by
  obtain ⟨A00, K, nn, dn, q, w, e, v, f, mq, mv, mf, M, rfl, rfl, hI, hS, D, hv, hf, dj, hw, hE1, hE2, hR1, hR2, hg, he0, hN, hM, hB⟩ := hA
  have hu9 := hI.2.1
  unfold cw_W at hu9
  have hro : lw_ro b L xs b = some (L, xs) := if_pos rfl
  refine hC.1 9 559 _ _ rfl _ _ _ _ _ ?_
  refine pq_aload_n1 (pq_aload_n0 (pq_iload_n3 (pq_iconst (pq_iadd ?_))))
  intro m1 em1
  have e1 : m1.toInt = i.toInt + 1 := lx_ad1 hi hL em1
  refine pq_iaload ?_
  refine Exists.intro _ (Exists.intro _ (And.intro (Or.inr hro) (And.intro (lx_bn1 hi e1) ?_)))
  obtain ⟨a1, ha1⟩ : ∃ z9, z9 = xs m1.toInt.toNat := ⟨_, rfl⟩
  have m_a1 := em1
  rw [← ha1]
  refine pq_aload_n0 (pq_iload_n3 (pq_iconst (pq_iadd ?_)))
  intro m2 em2
  have e2 : m2.toInt = i.toInt + 2 := lx_ad2 hi hL em2
  refine pq_iaload ?_
  refine Exists.intro _ (Exists.intro _ (And.intro (Or.inr hro) (And.intro (lx_bn2 hi e2) ?_)))
  obtain ⟨a2, ha2⟩ : ∃ z9, z9 = xs m2.toInt.toNat := ⟨_, rfl⟩
  have m_a2 := em2
  rw [← ha2]
  refine pq_aload_n0 (pq_iload_n3 (pq_iconst (pq_iadd ?_)))
  intro m3 em3
  have e3 : m3.toInt = i.toInt + 3 := lx_ad3 hi hL em3
  refine pq_iaload ?_
  refine Exists.intro _ (Exists.intro _ (And.intro (Or.inr hro) (And.intro (lx_bn3 hi e3) ?_)))
  obtain ⟨a3, ha3⟩ : ∃ z9, z9 = xs m3.toInt.toNat := ⟨_, rfl⟩
  have m_a3 := em3
  rw [← ha3]
  refine pq_aload_n0 (pq_iload_n3 (pq_iconst (pq_iadd ?_)))
  intro m4 em4
  have e4 : m4.toInt = i.toInt + 4 := lx_ad4 hi hL em4
  refine pq_iaload ?_
  refine Exists.intro _ (Exists.intro _ (And.intro (Or.inr hro) (And.intro (lx_bn4 hi e4) ?_)))
  obtain ⟨a4, ha4⟩ : ∃ z9, z9 = xs m4.toInt.toNat := ⟨_, rfl⟩
  have m_a4 := em4
  rw [← ha4]
  refine pq_iv4_10 ?_
  refine And.intro (Exists.intro _ (cw_o0 hI.1)) (Exists.intro _ (Exists.intro _ (Exists.intro _ (Exists.intro _ (And.intro (H_X10_swap hI hS a1 a2 a3 a4 (by omega)) (And.intro (lw_bnd rfl (lx_c1 hc (by decide)) (lx_c1 hs0 (by decide)) rfl) (fun r9 A9 h9 => ?_)))))))
  obtain ⟨K580, nn580, dn580, q580, w580, e580, v580, f580, rfl, hI580, hS580, hX580, hy580, y580, rfl, by580⟩ := h9
  have dj580 := lw_dj D dj hX580
  have fc9 := by580.2 M hR1 hN
  refine pq_id1 (pq_pop (pq_aload_n2 (pq_aload_n0 (pq_iload_n3 (pq_iconst (pq_iadd ?_))))))
  intro m5 em5
  have e5 : m5.toInt = i.toInt + 1 := lx_ad1 hi hL em5
  refine pq_iaload ?_
  refine Exists.intro _ (Exists.intro _ (And.intro (Or.inr hro) (And.intro (lx_bn1 hi e5) ?_)))
  have ha1_5 : a1 = xs m5.toInt.toNat := by rw [ha1, em5, ← m_a1]
  rw [← ha1_5]
  refine pq_aload_n0 (pq_iload_n3 (pq_iconst (pq_iadd ?_)))
  intro m6 em6
  have e6 : m6.toInt = i.toInt + 2 := lx_ad2 hi hL em6
  refine pq_iaload ?_
  refine Exists.intro _ (Exists.intro _ (And.intro (Or.inr hro) (And.intro (lx_bn2 hi e6) ?_)))
  have ha2_6 : a2 = xs m6.toInt.toNat := by rw [ha2, em6, ← m_a2]
  rw [← ha2_6]
  refine pq_aload_n0 (pq_iload_n3 (pq_iconst (pq_iadd ?_)))
  intro m7 em7
  have e7 : m7.toInt = i.toInt + 3 := lx_ad3 hi hL em7
  refine pq_iaload ?_
  refine Exists.intro _ (Exists.intro _ (And.intro (Or.inr hro) (And.intro (lx_bn3 hi e7) ?_)))
  have ha3_7 : a3 = xs m7.toInt.toNat := by rw [ha3, em7, ← m_a3]
  rw [← ha3_7]
  refine pq_aload_n0 (pq_iload_n3 (pq_iconst (pq_iadd ?_)))
  intro m8 em8
  have e8 : m8.toInt = i.toInt + 4 := lx_ad4 hi hL em8
  refine pq_iaload ?_
  refine Exists.intro _ (Exists.intro _ (And.intro (Or.inr hro) (And.intro (lx_bn4 hi e8) ?_)))
  have ha4_8 : a4 = xs m8.toInt.toNat := by rw [ha4, em8, ← m_a4]
  rw [← ha4_8]
  refine pq_iv4_11 ?_
  rw [cw_md D dj580]
  refine And.intro (Exists.intro _ (md_o)) (Exists.intro _ (Exists.intro _ (Exists.intro _ (Exists.intro _ (And.intro (F_X11_swap D mv mf hv hf a1 a2 a3 a4 (by omega)) (And.intro (lw_bnd rfl (lx_c2 hc (by decide)) (lx_c2 hs0 (by decide)) rfl) (fun r9 A9 h9 => ?_)))))))
  obtain ⟨y605, mv605, mf605, rfl, rfl, hv605, hf605, hx605, by605⟩ := h9
  have fm9 := by605.2 M hR2
  refine pq_id1 (pq_pop (pq_goto ?_))
  exact cont _ _ _ ⟨A00, K580, nn580, dn580, q580, w580, e580, v580, f580, mq, mv605, mf605, _, (cw_md D dj580).symm, (hX580.2.1 0 (by omega)), hI580, hS580, D, hv605, hf605, dj580, fun j hj => by rw [hy580, hx605]; exact hw j hj, by omega, by omega, fc9.1, fm9.1, (pm_eqI (by rw [fc9.2.2.1, fm9.2.2, hg])), (by rw [fc9.2.1, fm9.2.1, he0]), fc9.2.2.2.1, (nm_swap hM), (fc9.2.2.2.2 hB)⟩ (by omega) (by omega)

set_option maxRecDepth 100000 in
set_option maxHeartbeats 2000000 in
theorem lx_b10 (hC : pm_Cl l g (lw_ro b L xs) 7 600000 7302250 lw_Rt bk_L_law J) {i : Int32} (hi : 0 ≤ i.toInt ∧ i.toInt + 6 ≤ L) (hL : L ≤ 3072) {E : Nat} (hE : E < 1000) {A : pm_H} {c s : Nat} (hA : LX g xo h E A) (hc : c + 4 ≤ 600000) (hs0 : s + 485 ≤ 7302250) (cont : ∀ (A' : pm_H) (c' s' : Nat), LX g xo h (E + 1) A' → c' ≤ c + 4 → s' ≤ s + 485 → J 2563 [some (.ref b), some (.ref xo), some (.ref h), some (.int i)] [] A' c' s') : J 612 [some (.ref b), some (.ref xo), some (.ref h), some (.int i)] [] A c s := by
  obtain ⟨A00, K, nn, dn, q, w, e, v, f, mq, mv, mf, M, rfl, rfl, hI, hS, D, hv, hf, dj, hw, hE1, hE2, hR1, hR2, hg, he0, hN, hM, hB⟩ := hA
  have hu9 := hI.2.1
  unfold cw_W at hu9
  have hro : lw_ro b L xs b = some (L, xs) := if_pos rfl
  refine hC.1 10 612 _ _ rfl _ _ _ _ _ ?_
  refine pq_aload_n1 (pq_aload_n0 (pq_iload_n3 (pq_iconst (pq_iadd ?_))))
  intro m1 em1
  have e1 : m1.toInt = i.toInt + 1 := lx_ad1 hi hL em1
  refine pq_iaload ?_
  refine Exists.intro _ (Exists.intro _ (And.intro (Or.inr hro) (And.intro (lx_bn1 hi e1) ?_)))
  obtain ⟨a1, ha1⟩ : ∃ z9, z9 = xs m1.toInt.toNat := ⟨_, rfl⟩
  have m_a1 := em1
  rw [← ha1]
  refine pq_aload_n0 (pq_iload_n3 (pq_iconst (pq_iadd ?_)))
  intro m2 em2
  have e2 : m2.toInt = i.toInt + 2 := lx_ad2 hi hL em2
  refine pq_iaload ?_
  refine Exists.intro _ (Exists.intro _ (And.intro (Or.inr hro) (And.intro (lx_bn2 hi e2) ?_)))
  obtain ⟨a2, ha2⟩ : ∃ z9, z9 = xs m2.toInt.toNat := ⟨_, rfl⟩
  have m_a2 := em2
  rw [← ha2]
  refine pq_aload_n0 (pq_iload_n3 (pq_iconst (pq_iadd ?_)))
  intro m3 em3
  have e3 : m3.toInt = i.toInt + 3 := lx_ad3 hi hL em3
  refine pq_iaload ?_
  refine Exists.intro _ (Exists.intro _ (And.intro (Or.inr hro) (And.intro (lx_bn3 hi e3) ?_)))
  obtain ⟨a3, ha3⟩ : ∃ z9, z9 = xs m3.toInt.toNat := ⟨_, rfl⟩
  have m_a3 := em3
  rw [← ha3]
  refine pq_iv3_10 ?_
  refine And.intro (Exists.intro _ (cw_o0 hI.1)) (Exists.intro _ (Exists.intro _ (Exists.intro _ (Exists.intro _ (And.intro (H_X10_copy hI hS a1 a2 a3 (by omega)) (And.intro (lw_bnd rfl (lx_c1 hc (by decide)) (lx_c1 hs0 (by decide)) rfl) (fun r9 A9 h9 => ?_)))))))
  obtain ⟨K628, nn628, dn628, q628, w628, e628, v628, f628, rfl, hI628, hS628, hX628, hy628, y628, rfl, by628⟩ := h9
  have dj628 := lw_dj D dj hX628
  have fc9 := by628.2 M hR1 hN
  refine pq_id1 (pq_pop (pq_aload_n2 (pq_aload_n0 (pq_iload_n3 (pq_iconst (pq_iadd ?_))))))
  intro m4 em4
  have e4 : m4.toInt = i.toInt + 1 := lx_ad1 hi hL em4
  refine pq_iaload ?_
  refine Exists.intro _ (Exists.intro _ (And.intro (Or.inr hro) (And.intro (lx_bn1 hi e4) ?_)))
  have ha1_4 : a1 = xs m4.toInt.toNat := by rw [ha1, em4, ← m_a1]
  rw [← ha1_4]
  refine pq_aload_n0 (pq_iload_n3 (pq_iconst (pq_iadd ?_)))
  intro m5 em5
  have e5 : m5.toInt = i.toInt + 2 := lx_ad2 hi hL em5
  refine pq_iaload ?_
  refine Exists.intro _ (Exists.intro _ (And.intro (Or.inr hro) (And.intro (lx_bn2 hi e5) ?_)))
  have ha2_5 : a2 = xs m5.toInt.toNat := by rw [ha2, em5, ← m_a2]
  rw [← ha2_5]
  refine pq_aload_n0 (pq_iload_n3 (pq_iconst (pq_iadd ?_)))
  intro m6 em6
  have e6 : m6.toInt = i.toInt + 3 := lx_ad3 hi hL em6
  refine pq_iaload ?_
  refine Exists.intro _ (Exists.intro _ (And.intro (Or.inr hro) (And.intro (lx_bn3 hi e6) ?_)))
  have ha3_6 : a3 = xs m6.toInt.toNat := by rw [ha3, em6, ← m_a3]
  rw [← ha3_6]
  refine pq_iv3_11 ?_
  rw [cw_md D dj628]
  refine And.intro (Exists.intro _ (md_o)) (Exists.intro _ (Exists.intro _ (Exists.intro _ (Exists.intro _ (And.intro (F_X11_copy D mv mf hv hf a1 a2 a3 (by omega)) (And.intro (lw_bnd rfl (lx_c2 hc (by decide)) (lx_c2 hs0 (by decide)) rfl) (fun r9 A9 h9 => ?_)))))))
  obtain ⟨y648, mv648, mf648, rfl, rfl, hv648, hf648, hx648, by648⟩ := h9
  have fm9 := by648.2 M hR2
  rw [← hg] at fm9
  refine pq_id1 (pq_pop (pq_goto ?_))
  exact cont _ _ _ ⟨A00, K628, nn628, dn628, q628, w628, e628, v628, f628, mq, mv648, mf648, _, (cw_md D dj628).symm, (hX628.2.1 0 (by omega)), hI628, hS628, D, hv648, hf648, dj628, fun j hj => by rw [hy628, hx648]; exact hw j hj, by omega, by omega, fc9.1, fm9.1, (pm_eqI (by rw [fc9.2.2.1, fm9.2.2, hg])), (by rw [fc9.2.1, fm9.2.1, he0]), fc9.2.2.2.1, (nm_copy hM (by omega)), (fc9.2.2.2.2 hB)⟩ (by omega) (by omega)

set_option maxRecDepth 100000 in
set_option maxHeartbeats 2000000 in
theorem lx_b11 (hC : pm_Cl l g (lw_ro b L xs) 7 600000 7302250 lw_Rt bk_L_law J) {i : Int32} (hi : 0 ≤ i.toInt ∧ i.toInt + 6 ≤ L) (hL : L ≤ 3072) {E : Nat} (hE : E < 1000) {A : pm_H} {c s : Nat} (hA : LX g xo h E A) (hc : c + 4 ≤ 600000) (hs0 : s + 485 ≤ 7302250) (cont : ∀ (A' : pm_H) (c' s' : Nat), LX g xo h (E + 1) A' → c' ≤ c + 4 → s' ≤ s + 485 → J 2563 [some (.ref b), some (.ref xo), some (.ref h), some (.int i)] [] A' c' s') : J 655 [some (.ref b), some (.ref xo), some (.ref h), some (.int i)] [] A c s := by
  obtain ⟨A00, K, nn, dn, q, w, e, v, f, mq, mv, mf, M, rfl, rfl, hI, hS, D, hv, hf, dj, hw, hE1, hE2, hR1, hR2, hg, he0, hN, hM, hB⟩ := hA
  have hu9 := hI.2.1
  unfold cw_W at hu9
  have hro : lw_ro b L xs b = some (L, xs) := if_pos rfl
  refine hC.1 11 655 _ _ rfl _ _ _ _ _ ?_
  refine pq_aload_n1 (pq_aload_n0 (pq_iload_n3 (pq_iconst (pq_iadd ?_))))
  intro m1 em1
  have e1 : m1.toInt = i.toInt + 1 := lx_ad1 hi hL em1
  refine pq_iaload ?_
  refine Exists.intro _ (Exists.intro _ (And.intro (Or.inr hro) (And.intro (lx_bn1 hi e1) ?_)))
  obtain ⟨a1, ha1⟩ : ∃ z9, z9 = xs m1.toInt.toNat := ⟨_, rfl⟩
  have m_a1 := em1
  rw [← ha1]
  refine pq_aload_n0 (pq_iload_n3 (pq_iconst (pq_iadd ?_)))
  intro m2 em2
  have e2 : m2.toInt = i.toInt + 2 := lx_ad2 hi hL em2
  refine pq_iaload ?_
  refine Exists.intro _ (Exists.intro _ (And.intro (Or.inr hro) (And.intro (lx_bn2 hi e2) ?_)))
  obtain ⟨a2, ha2⟩ : ∃ z9, z9 = xs m2.toInt.toNat := ⟨_, rfl⟩
  have m_a2 := em2
  rw [← ha2]
  refine pq_iv2_10 ?_
  refine And.intro (Exists.intro _ (cw_o0 hI.1)) (Exists.intro _ (Exists.intro _ (Exists.intro _ (Exists.intro _ (And.intro (H_X10_merge hI hS a1 a2 (by omega)) (And.intro (lw_bnd rfl (lx_c1 hc (by decide)) (lx_c1 hs0 (by decide)) rfl) (fun r9 A9 h9 => ?_)))))))
  obtain ⟨K666, nn666, dn666, q666, w666, e666, v666, f666, rfl, hI666, hS666, hX666, hy666, y666, rfl, by666⟩ := h9
  have dj666 := lw_dj D dj hX666
  have fc9 := by666.2 M hR1 hN
  refine pq_id1 (pq_pop (pq_aload_n2 (pq_aload_n0 (pq_iload_n3 (pq_iconst (pq_iadd ?_))))))
  intro m3 em3
  have e3 : m3.toInt = i.toInt + 1 := lx_ad1 hi hL em3
  refine pq_iaload ?_
  refine Exists.intro _ (Exists.intro _ (And.intro (Or.inr hro) (And.intro (lx_bn1 hi e3) ?_)))
  have ha1_3 : a1 = xs m3.toInt.toNat := by rw [ha1, em3, ← m_a1]
  rw [← ha1_3]
  refine pq_aload_n0 (pq_iload_n3 (pq_iconst (pq_iadd ?_)))
  intro m4 em4
  have e4 : m4.toInt = i.toInt + 2 := lx_ad2 hi hL em4
  refine pq_iaload ?_
  refine Exists.intro _ (Exists.intro _ (And.intro (Or.inr hro) (And.intro (lx_bn2 hi e4) ?_)))
  have ha2_4 : a2 = xs m4.toInt.toNat := by rw [ha2, em4, ← m_a2]
  rw [← ha2_4]
  refine pq_iv2_11 ?_
  rw [cw_md D dj666]
  refine And.intro (Exists.intro _ (md_o)) (Exists.intro _ (Exists.intro _ (Exists.intro _ (Exists.intro _ (And.intro (F_X11_merge D mv mf hv hf a1 a2 (by omega)) (And.intro (lw_bnd rfl (lx_c2 hc (by decide)) (lx_c2 hs0 (by decide)) rfl) (fun r9 A9 h9 => ?_)))))))
  obtain ⟨y681, mv681, mf681, rfl, rfl, hv681, hf681, hx681, by681⟩ := h9
  have fm9 := by681.2 M hR2
  refine pq_id1 (pq_pop (pq_goto ?_))
  exact cont _ _ _ ⟨A00, K666, nn666, dn666, q666, w666, e666, v666, f666, mq, mv681, mf681, _, (cw_md D dj666).symm, (hX666.2.1 0 (by omega)), hI666, hS666, D, hv681, hf681, dj666, fun j hj => by rw [hy666, hx681]; exact hw j hj, by omega, by omega, fc9.1, fm9.1, (pm_eqI (by rw [fc9.2.2.1, fm9.2.2, hg])), (by rw [fc9.2.1, fm9.2.1, he0]), fc9.2.2.2.1, (nm_merge hM), (fc9.2.2.2.2 hB)⟩ (by omega) (by omega)

set_option maxRecDepth 100000 in
set_option maxHeartbeats 2000000 in
theorem lx_b12 (hC : pm_Cl l g (lw_ro b L xs) 7 600000 7302250 lw_Rt bk_L_law J) {i : Int32} (hi : 0 ≤ i.toInt ∧ i.toInt + 6 ≤ L) (hL : L ≤ 3072) {E : Nat} (hE : E < 1000) {A : pm_H} {c s : Nat} (hA : LX g xo h E A) (hc : c + 4 ≤ 600000) (hs0 : s + 485 ≤ 7302250) (cont : ∀ (A' : pm_H) (c' s' : Nat), LX g xo h (E + 1) A' → c' ≤ c + 4 → s' ≤ s + 485 → J 2563 [some (.ref b), some (.ref xo), some (.ref h), some (.int i)] [] A' c' s') : J 688 [some (.ref b), some (.ref xo), some (.ref h), some (.int i)] [] A c s := by
  obtain ⟨A00, K, nn, dn, q, w, e, v, f, mq, mv, mf, M, rfl, rfl, hI, hS, D, hv, hf, dj, hw, hE1, hE2, hR1, hR2, hg, he0, hN, hM, hB⟩ := hA
  have hu9 := hI.2.1
  unfold cw_W at hu9
  have hro : lw_ro b L xs b = some (L, xs) := if_pos rfl
  refine hC.1 12 688 _ _ rfl _ _ _ _ _ ?_
  refine pq_aload_n1 (pq_aload_n0 (pq_iload_n3 (pq_iconst (pq_iadd ?_))))
  intro m1 em1
  have e1 : m1.toInt = i.toInt + 1 := lx_ad1 hi hL em1
  refine pq_iaload ?_
  refine Exists.intro _ (Exists.intro _ (And.intro (Or.inr hro) (And.intro (lx_bn1 hi e1) ?_)))
  obtain ⟨a1, ha1⟩ : ∃ z9, z9 = xs m1.toInt.toNat := ⟨_, rfl⟩
  have m_a1 := em1
  rw [← ha1]
  refine pq_aload_n0 (pq_iload_n3 (pq_iconst (pq_iadd ?_)))
  intro m2 em2
  have e2 : m2.toInt = i.toInt + 2 := lx_ad2 hi hL em2
  refine pq_iaload ?_
  refine Exists.intro _ (Exists.intro _ (And.intro (Or.inr hro) (And.intro (lx_bn2 hi e2) ?_)))
  obtain ⟨a2, ha2⟩ : ∃ z9, z9 = xs m2.toInt.toNat := ⟨_, rfl⟩
  have m_a2 := em2
  rw [← ha2]
  refine pq_iv2_10 ?_
  refine And.intro (Exists.intro _ (cw_o0 hI.1)) (Exists.intro _ (Exists.intro _ (Exists.intro _ (Exists.intro _ (And.intro (H_X10_exchange hI hS a1 a2 (by omega)) (And.intro (lw_bnd rfl (lx_c1 hc (by decide)) (lx_c1 hs0 (by decide)) rfl) (fun r9 A9 h9 => ?_)))))))
  obtain ⟨K699, nn699, dn699, q699, w699, e699, v699, f699, rfl, hI699, hS699, hX699, hy699, y699, rfl, by699⟩ := h9
  have dj699 := lw_dj D dj hX699
  have fc9 := by699.2 M hR1 hN
  refine pq_id1 (pq_pop (pq_aload_n2 (pq_aload_n0 (pq_iload_n3 (pq_iconst (pq_iadd ?_))))))
  intro m3 em3
  have e3 : m3.toInt = i.toInt + 1 := lx_ad1 hi hL em3
  refine pq_iaload ?_
  refine Exists.intro _ (Exists.intro _ (And.intro (Or.inr hro) (And.intro (lx_bn1 hi e3) ?_)))
  have ha1_3 : a1 = xs m3.toInt.toNat := by rw [ha1, em3, ← m_a1]
  rw [← ha1_3]
  refine pq_aload_n0 (pq_iload_n3 (pq_iconst (pq_iadd ?_)))
  intro m4 em4
  have e4 : m4.toInt = i.toInt + 2 := lx_ad2 hi hL em4
  refine pq_iaload ?_
  refine Exists.intro _ (Exists.intro _ (And.intro (Or.inr hro) (And.intro (lx_bn2 hi e4) ?_)))
  have ha2_4 : a2 = xs m4.toInt.toNat := by rw [ha2, em4, ← m_a2]
  rw [← ha2_4]
  refine pq_iv2_11 ?_
  rw [cw_md D dj699]
  refine And.intro (Exists.intro _ (md_o)) (Exists.intro _ (Exists.intro _ (Exists.intro _ (Exists.intro _ (And.intro (F_X11_exchange D mv mf hv hf a1 a2 (by omega)) (And.intro (lw_bnd rfl (lx_c2 hc (by decide)) (lx_c2 hs0 (by decide)) rfl) (fun r9 A9 h9 => ?_)))))))
  obtain ⟨y714, mv714, mf714, rfl, rfl, hv714, hf714, hx714, by714⟩ := h9
  have fm9 := by714.2 M hR2
  refine pq_id1 (pq_pop (pq_goto ?_))
  exact cont _ _ _ ⟨A00, K699, nn699, dn699, q699, w699, e699, v699, f699, mq, mv714, mf714, _, (cw_md D dj699).symm, (hX699.2.1 0 (by omega)), hI699, hS699, D, hv714, hf714, dj699, fun j hj => by rw [hy699, hx714]; exact hw j hj, by omega, by omega, fc9.1, fm9.1, (pm_eqI (by rw [fc9.2.2.1, fm9.2.2, hg])), (by rw [fc9.2.1, fm9.2.1, he0]), fc9.2.2.2.1, (nm_exch hM), (fc9.2.2.2.2 hB)⟩ (by omega) (by omega)

set_option maxRecDepth 100000 in
set_option maxHeartbeats 2000000 in
theorem lx_b13 (hC : pm_Cl l g (lw_ro b L xs) 7 600000 7302250 lw_Rt bk_L_law J) {i : Int32} (hi : 0 ≤ i.toInt ∧ i.toInt + 6 ≤ L) (hL : L ≤ 3072) {E : Nat} (hE : E < 1000) {A : pm_H} {c s : Nat} (hA : LX g xo h E A) (hc : c + 4 ≤ 600000) (hs0 : s + 485 ≤ 7302250) (cont : ∀ (A' : pm_H) (c' s' : Nat), LX g xo h (E + 1) A' → c' ≤ c + 4 → s' ≤ s + 485 → J 2563 [some (.ref b), some (.ref xo), some (.ref h), some (.int i)] [] A' c' s') : J 721 [some (.ref b), some (.ref xo), some (.ref h), some (.int i)] [] A c s := by
  obtain ⟨A00, K, nn, dn, q, w, e, v, f, mq, mv, mf, M, rfl, rfl, hI, hS, D, hv, hf, dj, hw, hE1, hE2, hR1, hR2, hg, he0, hN, hM, hB⟩ := hA
  have hu9 := hI.2.1
  unfold cw_W at hu9
  have hro : lw_ro b L xs b = some (L, xs) := if_pos rfl
  refine hC.1 13 721 _ _ rfl _ _ _ _ _ ?_
  refine pq_aload_n1 (pq_aload_n0 (pq_iload_n3 (pq_iconst (pq_iadd ?_))))
  intro m1 em1
  have e1 : m1.toInt = i.toInt + 1 := lx_ad1 hi hL em1
  refine pq_iaload ?_
  refine Exists.intro _ (Exists.intro _ (And.intro (Or.inr hro) (And.intro (lx_bn1 hi e1) ?_)))
  obtain ⟨a1, ha1⟩ : ∃ z9, z9 = xs m1.toInt.toNat := ⟨_, rfl⟩
  have m_a1 := em1
  rw [← ha1]
  refine pq_aload_n0 (pq_iload_n3 (pq_iconst (pq_iadd ?_)))
  intro m2 em2
  have e2 : m2.toInt = i.toInt + 2 := lx_ad2 hi hL em2
  refine pq_iaload ?_
  refine Exists.intro _ (Exists.intro _ (And.intro (Or.inr hro) (And.intro (lx_bn2 hi e2) ?_)))
  obtain ⟨a2, ha2⟩ : ∃ z9, z9 = xs m2.toInt.toNat := ⟨_, rfl⟩
  have m_a2 := em2
  rw [← ha2]
  refine pq_aload_n0 (pq_iload_n3 (pq_iconst (pq_iadd ?_)))
  intro m3 em3
  have e3 : m3.toInt = i.toInt + 3 := lx_ad3 hi hL em3
  refine pq_iaload ?_
  refine Exists.intro _ (Exists.intro _ (And.intro (Or.inr hro) (And.intro (lx_bn3 hi e3) ?_)))
  obtain ⟨a3, ha3⟩ : ∃ z9, z9 = xs m3.toInt.toNat := ⟨_, rfl⟩
  have m_a3 := em3
  rw [← ha3]
  refine pq_iv3_10 ?_
  refine And.intro (Exists.intro _ (cw_o0 hI.1)) (Exists.intro _ (Exists.intro _ (Exists.intro _ (Exists.intro _ (And.intro (H_X10_draw hI hS a1 a2 a3 (by omega)) (And.intro (lw_bnd rfl (lx_c1 hc (by decide)) (lx_c1 hs0 (by decide)) rfl) (fun r9 A9 h9 => ?_)))))))
  obtain ⟨K737, nn737, dn737, q737, w737, e737, v737, f737, rfl, hI737, hS737, hX737, hy737, y737, rfl, by737⟩ := h9
  have dj737 := lw_dj D dj hX737
  have fc9 := by737.2 M hR1 hN
  refine pq_id1 (pq_pop (pq_aload_n2 (pq_aload_n0 (pq_iload_n3 (pq_iconst (pq_iadd ?_))))))
  intro m4 em4
  have e4 : m4.toInt = i.toInt + 1 := lx_ad1 hi hL em4
  refine pq_iaload ?_
  refine Exists.intro _ (Exists.intro _ (And.intro (Or.inr hro) (And.intro (lx_bn1 hi e4) ?_)))
  have ha1_4 : a1 = xs m4.toInt.toNat := by rw [ha1, em4, ← m_a1]
  rw [← ha1_4]
  refine pq_aload_n0 (pq_iload_n3 (pq_iconst (pq_iadd ?_)))
  intro m5 em5
  have e5 : m5.toInt = i.toInt + 2 := lx_ad2 hi hL em5
  refine pq_iaload ?_
  refine Exists.intro _ (Exists.intro _ (And.intro (Or.inr hro) (And.intro (lx_bn2 hi e5) ?_)))
  have ha2_5 : a2 = xs m5.toInt.toNat := by rw [ha2, em5, ← m_a2]
  rw [← ha2_5]
  refine pq_aload_n0 (pq_iload_n3 (pq_iconst (pq_iadd ?_)))
  intro m6 em6
  have e6 : m6.toInt = i.toInt + 3 := lx_ad3 hi hL em6
  refine pq_iaload ?_
  refine Exists.intro _ (Exists.intro _ (And.intro (Or.inr hro) (And.intro (lx_bn3 hi e6) ?_)))
  have ha3_6 : a3 = xs m6.toInt.toNat := by rw [ha3, em6, ← m_a3]
  rw [← ha3_6]
  refine pq_iv3_11 ?_
  rw [cw_md D dj737]
  refine And.intro (Exists.intro _ (md_o)) (Exists.intro _ (Exists.intro _ (Exists.intro _ (Exists.intro _ (And.intro (F_X11_draw D mv mf hv hf a1 a2 a3 (by omega)) (And.intro (lw_bnd rfl (lx_c2 hc (by decide)) (lx_c2 hs0 (by decide)) rfl) (fun r9 A9 h9 => ?_)))))))
  obtain ⟨y757, mv757, mf757, rfl, rfl, hv757, hf757, hx757, by757⟩ := h9
  have fm9 := by757.2 M hR2
  rw [← hg] at fm9
  refine pq_id1 (pq_pop (pq_goto ?_))
  exact cont _ _ _ ⟨A00, K737, nn737, dn737, q737, w737, e737, v737, f737, mq, mv757, mf757, _, (cw_md D dj737).symm, (hX737.2.1 0 (by omega)), hI737, hS737, D, hv757, hf757, dj737, fun j hj => by rw [hy737, hx757]; exact hw j hj, by omega, by omega, fc9.1, fm9.1, (pm_eqI (by rw [fc9.2.2.1, fm9.2.2, hg])), (by rw [fc9.2.1, fm9.2.1, he0]), fc9.2.2.2.1, (nm_draw hM (by omega)), (fc9.2.2.2.2 hB)⟩ (by omega) (by omega)

set_option maxRecDepth 100000 in
set_option maxHeartbeats 2000000 in
theorem lx_b14 (hC : pm_Cl l g (lw_ro b L xs) 7 600000 7302250 lw_Rt bk_L_law J) {i : Int32} (hi : 0 ≤ i.toInt ∧ i.toInt + 6 ≤ L) (hL : L ≤ 3072) {E : Nat} (hE : E < 1000) {A : pm_H} {c s : Nat} (hA : LX g xo h E A) (hc : c + 4 ≤ 600000) (hs0 : s + 485 ≤ 7302250) (cont : ∀ (A' : pm_H) (c' s' : Nat), LX g xo h (E + 1) A' → c' ≤ c + 4 → s' ≤ s + 485 → J 2563 [some (.ref b), some (.ref xo), some (.ref h), some (.int i)] [] A' c' s') : J 764 [some (.ref b), some (.ref xo), some (.ref h), some (.int i)] [] A c s := by
  obtain ⟨A00, K, nn, dn, q, w, e, v, f, mq, mv, mf, M, rfl, rfl, hI, hS, D, hv, hf, dj, hw, hE1, hE2, hR1, hR2, hg, he0, hN, hM, hB⟩ := hA
  have hu9 := hI.2.1
  unfold cw_W at hu9
  have hro : lw_ro b L xs b = some (L, xs) := if_pos rfl
  refine hC.1 14 764 _ _ rfl _ _ _ _ _ ?_
  refine pq_aload_n1 (pq_aload_n0 (pq_iload_n3 (pq_iconst (pq_iadd ?_))))
  intro m1 em1
  have e1 : m1.toInt = i.toInt + 1 := lx_ad1 hi hL em1
  refine pq_iaload ?_
  refine Exists.intro _ (Exists.intro _ (And.intro (Or.inr hro) (And.intro (lx_bn1 hi e1) ?_)))
  obtain ⟨a1, ha1⟩ : ∃ z9, z9 = xs m1.toInt.toNat := ⟨_, rfl⟩
  have m_a1 := em1
  rw [← ha1]
  refine pq_aload_n0 (pq_iload_n3 (pq_iconst (pq_iadd ?_)))
  intro m2 em2
  have e2 : m2.toInt = i.toInt + 2 := lx_ad2 hi hL em2
  refine pq_iaload ?_
  refine Exists.intro _ (Exists.intro _ (And.intro (Or.inr hro) (And.intro (lx_bn2 hi e2) ?_)))
  obtain ⟨a2, ha2⟩ : ∃ z9, z9 = xs m2.toInt.toNat := ⟨_, rfl⟩
  have m_a2 := em2
  rw [← ha2]
  refine pq_iv2_10 ?_
  refine And.intro (Exists.intro _ (cw_o0 hI.1)) (Exists.intro _ (Exists.intro _ (Exists.intro _ (Exists.intro _ (And.intro (c_X10_weigh hI hS a1 a2 ) (And.intro (lw_bnd rfl (lx_c1 hc (by decide)) (lx_c1 hs0 (by decide)) rfl) (fun r9 A9 h9 => ?_)))))))
  obtain ⟨e775, y775, rfl, rfl, hI775, h40_775, hc775⟩ := lx_wc hI h9
  refine pq_id1 (pq_pop (pq_aload_n2 (pq_aload_n0 (pq_iload_n3 (pq_iconst (pq_iadd ?_))))))
  intro m3 em3
  have e3 : m3.toInt = i.toInt + 1 := lx_ad1 hi hL em3
  refine pq_iaload ?_
  refine Exists.intro _ (Exists.intro _ (And.intro (Or.inr hro) (And.intro (lx_bn1 hi e3) ?_)))
  have ha1_3 : a1 = xs m3.toInt.toNat := by rw [ha1, em3, ← m_a1]
  rw [← ha1_3]
  refine pq_aload_n0 (pq_iload_n3 (pq_iconst (pq_iadd ?_)))
  intro m4 em4
  have e4 : m4.toInt = i.toInt + 2 := lx_ad2 hi hL em4
  refine pq_iaload ?_
  refine Exists.intro _ (Exists.intro _ (And.intro (Or.inr hro) (And.intro (lx_bn2 hi e4) ?_)))
  have ha2_4 : a2 = xs m4.toInt.toNat := by rw [ha2, em4, ← m_a2]
  rw [← ha2_4]
  refine pq_iv2_11 ?_
  rw [cw_md D dj]
  refine And.intro (Exists.intro _ (md_o)) (Exists.intro _ (Exists.intro _ (Exists.intro _ (Exists.intro _ (And.intro (c_X11_weigh D mv mf hv hf a1 a2 ) (And.intro (lw_bnd rfl (lx_c2 hc (by decide)) (lx_c2 hs0 (by decide)) rfl) (fun r9 A9 h9 => ?_)))))))
  obtain ⟨mf790, y790, rfl, rfl, hf790, h01_790, hm790⟩ := lx_wm D hf h9
  refine pq_id1 (pq_pop (pq_goto ?_))
  clear hu9
  exact cont _ _ _ ⟨A00, K, nn, dn, q, w, e775, v, f, mq, mv, mf790, M, (cw_md D dj).symm, rfl, hI775, hS, D, hv, hf790, dj, lx_ww hw hc775 hm790, by omega, by omega, (rp_fr hR1 rfl (h40_775 (nn + 1) (by omega)) (h40_775 (nn + 2) (by omega))), (rp_fr hR2 rfl h01_790.1 h01_790.2), hg, (by omega), hN, hM, (bd_fr hB rfl (h40_775 (nn + 1) (by omega)) (h40_775 (nn + 3) (by omega)))⟩ (by omega) (by omega)
end
end
