section
section
variable {l : Launch} {g : pm_G} {A0 : pm_H} {K nn dn : Nat} {q : Nat → Nat} {w : Nat → Int32} {e : Nat → Nat → Int32} {v : Nat → Int32} {f : Nat → Nat → Int32}
set_option maxRecDepth 100000 in
set_option maxHeartbeats 2000000 in
theorem U_X10_exchange (hI : cw_I K nn dn q w e) (hs : cw_S v f) (x1 : Int32) (x2 : Int32) (p0 : (w 0).toInt < 100000) : pm_Mt l g 39 4 4 485 [.ref (q 0), .int x1, .int x2] (cw A0 g K nn dn q w e v f) (cw_Qb A0 g K nn q (fun r K2 nn2 dn2 w2 e2 => e2 15 = e 15 ∧ (∃ x : Int32, r = some (.int x) ∧ (((w2 0).toInt ≤ (w 0).toInt + 1 ∧ (w 0).toInt ≤ (w2 0).toInt ∧ (w2 3).toInt = (w 3).toInt) ∧ ((∀ L, rp (w nn) (e (nn + 1)) (e (nn + 2)) L → (nn : Int) = 40 + 4 * ((w 0).toInt % 41) → rp (w2 nn2) (e2 (nn2 + 1)) (e2 (nn2 + 2)) ((ed_exch L x1 x2).getD L) ∧ (w2 0).toInt = (w 0).toInt + edn (ed_exch L x1 x2) ∧ (w2 1).toInt = (w 1).toInt + edn (ed_exch L x1 x2) * (0) ∧ (nn2 : Int) = 40 + 4 * ((w2 0).toInt % 41) ∧ (bd (w nn) (e (nn + 1)) (e (nn + 3)) → bd (w2 nn2) (e2 (nn2 + 1)) (e2 (nn2 + 3)))) ∧ (HCe K nn w e w2 e2 nn2 x) ∧ (((w2 0).toInt = (w 0).toInt ∧ x.toInt = -1 ∧ w2 2 = w 2) ∨ ((w2 0).toInt = (w 0).toInt + 1 ∧ ((nn : Int) = 40 + 4 * ((w 0).toInt % 41) → UQ (w nn).toInt (e (nn + 2)) → bd (w nn) (e (nn + 1)) (e (nn + 3)) → (∀ i : Nat, (i : Int) < (w nn).toInt → (e (nn + 2) i).toInt < (w 1).toInt) → x.toInt = (tcN (w nn).toInt (e (nn + 1)) (e (nn + 2)) (e2 (nn2 + 1)) (e2 (nn2 + 2)) (w2 nn2).toInt.toNat : Int)) ∧ w2 2 = w 2 + x))))))) := by
  refine mt_X10_exchange rfl (fun J hC => ?_)
  have ro_nn : cw_ro K nn := hI.2.1.2.1
  have ro_dn : cw_ro K dn := hI.2.1.2.2.1
  have hu1 := hI.2.1
  unfold cw_W at hu1
  replace hu1 := And.intro hu1.1 (And.intro (And.intro hu1.2.1.1 hu1.2.1.2.1) (And.intro (And.intro hu1.2.2.1.1 hu1.2.2.1.2.1) (And.intro hu1.2.2.2.1 (And.intro hu1.2.2.2.2.2.1 hu1.2.2.2.2.2.2))))
  have zs2 := cw_sz hI ro_nn
  have zs3 := cw_sz hI ro_dn
  have rg_x1 := pm_rng x1
  have rg_x2 := pm_rng x2
  refine hC.1 0 0 _ _ rfl _ _ _ _ _ ?_
  refine Exists.intro _ (Exists.intro _ (Exists.intro _ (Exists.intro _ (And.intro (F_X10_areUnlikeColours (cw A0 g K nn dn q w e v f) x1 x2 ) (And.intro rfl (fun r9 A9 h9 => ?_))))))
  rcases h9 with ⟨y4, rfl, rfl, ⟨rfl, by4⟩ | ⟨rfl, by4⟩⟩
  · skip
    have k1 : (1 : Int32).toInt = 1 := rfl
    refine And.intro (fun _ => ?_) (fun c9 => absurd c9 (by decide))
    refine hC.1 1 10 _ _ rfl _ _ _ _ _ ?_
    refine Exists.intro _ (And.intro (cw_o0 hI.1) ?_)
    refine Exists.intro _ (And.intro (cw_o1 hI.1) ?_)
    refine Exists.intro _ (And.intro (cw_o0 hI.1) ?_)
    refine And.intro (Exists.intro _ (cw_o1 hI.1)) (Exists.intro _ (Exists.intro _ (Exists.intro _ (Exists.intro _ (And.intro (F_X9_begin hI hs  (by omega)) (And.intro rfl (fun r9 A9 h9 => ?_)))))))
    obtain ⟨K7, dn7, q7, w7, e7, rfl, rfl, hI7, hX7, hk7, hw7, hy7, hdn7, hfm7, hz7⟩ := h9
    have hq7_0 : q 0 = q7 0 := (hX7.2.1 0 (by omega)).symm
    have hq7_nn : q nn = q7 nn := (hX7.2.1 nn (by omega)).symm
    rw [hq7_0, hq7_nn]
    have hw7_0 := congrArg Int32.toInt hw7.1
    have hw7_1 := congrArg Int32.toInt hw7.2.1
    have hw7_3 := congrArg Int32.toInt hw7.2.2.2
    have hw7_2 := congrArg Int32.toInt hw7.2.2.1
    have ro7 : cw_ro K7 dn7 := hI7.2.1.2.2.1
    have rn7 : cw_ro K7 nn := hI7.2.1.2.1
    have hx7 : e7 15 = e 15 := hy7.trans rfl
    have hu8 := hI7.2.1
    unfold cw_W at hu8
    replace hu8 := And.intro hu8.1 (And.intro (And.intro hu8.2.1.1 hu8.2.1.2.1) (And.intro (And.intro hu8.2.2.1.1 hu8.2.2.1.2.1) (And.intro hu8.2.2.2.1 (And.intro hu8.2.2.2.2.2.1 hu8.2.2.2.2.2.2))))
    have zs9 := cw_sz hI7 rn7
    have zs10 := cw_sz hI7 ro7
    have hz9 := hz7
    have hL7 : ∀ L, rp (w nn) (e (nn + 1)) (e (nn + 2)) L → (nn : Int) = 40 + 4 * ((w 0).toInt % 41) → nn ≠ dn7 ∧ rp (w7 nn) (e7 (nn + 1)) (e7 (nn + 2)) L := hL_b ro_nn ro7 hdn7 hfm7
    have hF7 : FRO K w e w7 e7 dn7 := hfm7
    have hT7 : TQ w e nn w7 e7 f dn7 := TQ_b ro_nn ro7 hdn7 hfm7 hw7.2.1 hz7
    have k0 : (0 : Int32).toInt = 0 := rfl
    have lp12 : ∀ (n : Nat) (z4_28 : Int32) (w11 : Nat → Int32) (e11 : Nat → Nat → Int32) (v11 : Nat → Int32) (f11 : Nat → Nat → Int32), cw_I K7 nn dn7 q7 w11 e11 → e11 15 = e 15 → (∀ L, rp (w nn) (e (nn + 1)) (e (nn + 2)) L → (nn : Int) = 40 + 4 * ((w 0).toInt % 41) → nn ≠ dn7 ∧ rp (w11 nn) (e11 (nn + 1)) (e11 (nn + 2)) L) → FRO K w e w11 e11 dn7 → TQ w e nn w11 e11 f11 dn7 → cw_S v11 f11 → (0 ≤ z4_28.toInt ∧ z4_28.toInt ≤ 160) → (∀ L, rp (w nn) (e (nn + 1)) (e (nn + 2)) L → (nn : Int) = 40 + 4 * ((w 0).toInt % 41) → rp (w11 dn7) (e11 (dn7 + 1)) (e11 (dn7 + 2)) ((si L 0 z4_28.toInt).map (fun p => (if p.1 = x1 then x2 else if p.1 = x2 then x1 else p.1, p.2)))) → (∀ L, rp (w nn) (e (nn + 1)) (e (nn + 2)) L → (nn : Int) = 40 + 4 * ((w 0).toInt % 41) → z4_28.toInt ≤ (L.length : Int)) → ((w11 2).toInt = (w 2).toInt) → (w11 0).toInt = (w 0).toInt → (w11 1).toInt = (w 1).toInt → (w11 3).toInt = (w 3).toInt → 200 - z4_28.toInt < (n : Int) → J 28 [some (.ref (q7 0)), some (.int x1), some (.int x2), some (.ref (q7 nn)), some (.int z4_28), none] [] (cw A0 g K7 nn dn7 q7 w11 e11 v11 f11) 4 485 := by
      intro n
      induction n with
      | zero =>
        intro z4_28 w11 e11 v11 f11 hI11 hx11 hL11 hF11 hT11 hs11 j0_28 j1_28 j2_28 j3_28 j4_28 j5_28 j6_28 j7_28
        clear hu8 zs9 zs10
        omega
      | succ n ih13 =>
        intro z4_28 w11 e11 v11 f11 hI11 hx11 hL11 hF11 hT11 hs11 j0_28 j1_28 j2_28 j3_28 j4_28 j5_28 j6_28 j7_28
        clear hu8 zs9 zs10
        have lh9 := hL11
        have hu14 := hI11.2.1
        unfold cw_W at hu14
        replace hu14 := And.intro hu14.1 (And.intro (And.intro hu14.2.1.1 hu14.2.1.2.1) (And.intro (And.intro hu14.2.2.1.1 hu14.2.2.1.2.1) (And.intro hu14.2.2.2.1 (And.intro hu14.2.2.2.2.2.1 hu14.2.2.2.2.2.2))))
        have zs15 := cw_sz hI11 rn7
        have zs16 := cw_sz hI11 ro7
        refine hC.1 2 28 _ _ rfl _ _ _ _ _ ?_
        refine Exists.intro _ (And.intro (cw_ro_o hI11.1 rn7) ?_)
        have z17 := cw_sz hI11 rn7
        refine And.intro (fun c18 => ?_) (fun c18 => ?_)
        · skip
          refine hC.1 6 83 _ _ rfl _ _ _ _ _ ?_
          refine Exists.intro _ (And.intro (cw_o0 hI11.1) ?_)
          have hp_87 := hL11
          refine And.intro (Exists.intro _ (cw_o1 hI11.1)) (Exists.intro _ (Exists.intro _ (Exists.intro _ (Exists.intro _ (And.intro (U_X9_finish hI11 hs11  (by omega) (by omega)) (And.intro rfl (fun r9 A9 h9 => ?_)))))))
          rcases h9 with ⟨w20, e20, v20, f20, rfl, hI20, hs20, hy20, y19, rfl, by19⟩
          have hx20 : e20 15 = e 15 := hy20.trans hx11
          have hu21 := hI20.2.1.2.2.2.1
          have hu22 := hI20.2.1.2.2.2.2.1
          have zs23 := cw_sz hI20 ro7
          have zs24 := cw_sz hI20 ro7
          have hb_87 := by19.2.1
          have ht_87 := by19.2.2.1.1
          have h5_9 := by19.2.2.1.2
          have ha_9 := fun h1 h2 h3 h4 => by19.2.2.2 _ _ _ h2 (hT11 h1 h2 h3 h4).2.2.2.2.2.2
          have hF20 : FRO K w e w20 e20 dn7 := FRO_s hF11 hb_87.1
          have hc_9 : HCn K w e w20 e20 dn7 y19 := ⟨by omega, hF20, ht_87⟩
          have sw20_1 : (w20 1).toInt = (w11 1).toInt := by19.1.1
          have sw20_3 : (w20 3).toInt = (w11 3).toInt := by19.1.2.1
          have sp20 := by19.1.2.2
          clear by19
          exact ⟨rfl, fun e9 => absurd e9 (by decide), rfl, K7, dn7, dn7, q7, w20, e20, v20, f20, rfl, hI20, hs20, hX7, hx20, y19, rfl, by first | omega | (dsimp only; omega) | trivial, by refine ⟨?_, ?_, ?_⟩; (intro L hL hN; have hl := hL.1; rw [ed_exch, if_pos (by omega)]; have t2 := j1_28 L hL hN; have h8 := (lh9 L hL hN).2.1; have h7 := j2_28 L hL hN; rw [show z4_28.toInt = (L.length : Int) by omega, si_all] at t2; exact ⟨hb_87.2.1 _ t2, by show _ = _ + (1 : Int); omega, by show _ = _ + (1 : Int) * _; omega, by omega, fun _ => hb_87.2.2⟩); (first | (exact Or.inr hc_9) | (exact hc_9) | (exact Or.inl ⟨rfl, rfl, fun _ _ => ⟨rfl, rfl⟩⟩)); (first | (exact hq_9) | (exact Or.inr ⟨by omega, ha_9, h5_9.trans (by congr 1; exact pm_eqI (by omega))⟩) | (exact Or.inl ⟨rfl, rfl, rfl⟩))⟩
        · skip
          refine Exists.intro _ (And.intro (cw_ro_o hI11.1 rn7) ?_)
          refine Exists.intro _ (Exists.intro _ (And.intro (Or.inl (cw_ro_1 hI11.1 rn7)) (And.intro (by omega) ?_)))
          have w25 := cw_col hI11 rn7 (z4_28).toInt.toNat
          refine Exists.intro _ (And.intro (cw_o0 hI11.1) ?_)
          refine And.intro (fun c26 => ?_) (fun c26 => ?_)
          · skip
            have dc26 := pm_neI c26
            refine hC.1 3 62 _ _ rfl _ _ _ _ _ ?_
            refine And.intro (fun c27 => ?_) (fun c27 => ?_)
            · skip
              have dc27 := pm_neI c27
              refine hC.1 4 72 _ _ rfl _ _ _ _ _ ?_
              refine hC.1 5 74 _ _ rfl _ _ _ _ _ ?_
              have hp_74 := hL11
              refine And.intro (Exists.intro _ (cw_o1 hI11.1)) (Exists.intro _ (Exists.intro _ (Exists.intro _ (Exists.intro _ (And.intro (U_X9_keepAs hI11 hs11 z4_28 (e11 (nn + 1) (z4_28).toInt.toNat) (by omega)) (And.intro rfl (fun r9 A9 h9 => ?_)))))))
              rcases h9 with ⟨w29, e29, v29, f29, rfl, hI29, hs29, hy29, rfl, by28⟩
              have hx29 : e29 15 = e 15 := hy29.trans hx11
              have zs30 := cw_sz hI29 rn7
              have zs31 := cw_sz hI29 ro7
              have hb_74 := by28.2.1
              have ht_74 := by28.2.2
              have hT29 : TQ w e nn w29 e29 f29 dn7 := TQ_k hT11 rn7 ro7 hb_74.1 (by omega) ht_74
              have hF29 : FRO K w e w29 e29 dn7 := FRO_s hF11 hb_74.1
              have hL29 : ∀ L, rp (w nn) (e (nn + 1)) (e (nn + 2)) L → (nn : Int) = 40 + 4 * ((w 0).toInt % 41) → nn ≠ dn7 ∧ rp (w29 nn) (e29 (nn + 1)) (e29 (nn + 2)) L := hL_k hL11 rn7 ro7 hb_74.1
              have sw29_0 : (w29 0).toInt = (w11 0).toInt := by28.1.1
              have sw29_1 : (w29 1).toInt = (w11 1).toInt := by28.1.2.1
              have sw29_2 : (w29 2).toInt = (w11 2).toInt := by28.1.2.2.1
              have sw29_3 : (w29 3).toInt = (w11 3).toInt := by28.1.2.2.2
              clear by28
              intro m32 em_77
              try have e32 : m32.toInt = (z4_28).toInt + (1) := by rw [em_77]; exact pm_addc _ _ (1) rfl (by omega) (by omega)
              exact hC.2 [false, false, false, false, false, true] _ _ _ _ _ _ (ih13 m32 w29 e29 v29 f29 hI29 hx29 hL29 hF29 hT29 hs29 (by omega) (by intro L hL hN; have hl := hL.1; have q2 := hp_74 L hL hN; have z2 := q2.2.1; have s2 := si_len (L := L) (a := 0) (b := z4_28.toInt) (by omega) (by omega) (by omega); have t2 := hb_74.2 L _ q2.2 q2.1 (by omega) (by omega) (by first | omega | (simp only [List.length_append, List.length_nil, List.length_cons, List.length_map, List.length_reverse, nw_len, dr_len]; omega)) (j1_28 L hL hN); rw [show m32.toInt = z4_28.toInt + 1 by omega, si_s q2.2 (a := 0) (z := z4_28.toInt) (by omega) (by omega) (by omega), List.map_append, List.map_cons, List.map_nil]; first | (rw [if_pos (by assumption)]; exact t2) | (rw [if_neg (by assumption), if_pos (by assumption)]; exact t2) | (rw [if_neg (by assumption), if_neg (by assumption)]; exact t2)) (by intro L hL hN; have h8 := (lh9 L hL hN).2.1; omega) (by omega) (by omega) (by omega) (by omega) (by omega))
            · skip
              have dc27 : ((e11 (nn + 1) (z4_28).toInt.toNat)).toInt = (x2 : Int32).toInt := congrArg Int32.toInt c27
              refine hC.1 5 74 _ _ rfl _ _ _ _ _ ?_
              have hp_74 := hL11
              refine And.intro (Exists.intro _ (cw_o1 hI11.1)) (Exists.intro _ (Exists.intro _ (Exists.intro _ (Exists.intro _ (And.intro (U_X9_keepAs hI11 hs11 z4_28 x1 (by omega)) (And.intro rfl (fun r9 A9 h9 => ?_)))))))
              rcases h9 with ⟨w34, e34, v34, f34, rfl, hI34, hs34, hy34, rfl, by33⟩
              have hx34 : e34 15 = e 15 := hy34.trans hx11
              have zs35 := cw_sz hI34 rn7
              have zs36 := cw_sz hI34 ro7
              have hb_74 := by33.2.1
              have ht_74 := by33.2.2
              have hT34 : TQ w e nn w34 e34 f34 dn7 := TQ_k hT11 rn7 ro7 hb_74.1 (by omega) ht_74
              have hF34 : FRO K w e w34 e34 dn7 := FRO_s hF11 hb_74.1
              have hL34 : ∀ L, rp (w nn) (e (nn + 1)) (e (nn + 2)) L → (nn : Int) = 40 + 4 * ((w 0).toInt % 41) → nn ≠ dn7 ∧ rp (w34 nn) (e34 (nn + 1)) (e34 (nn + 2)) L := hL_k hL11 rn7 ro7 hb_74.1
              have sw34_0 : (w34 0).toInt = (w11 0).toInt := by33.1.1
              have sw34_1 : (w34 1).toInt = (w11 1).toInt := by33.1.2.1
              have sw34_2 : (w34 2).toInt = (w11 2).toInt := by33.1.2.2.1
              have sw34_3 : (w34 3).toInt = (w11 3).toInt := by33.1.2.2.2
              clear by33
              intro m37 em_77
              try have e37 : m37.toInt = (z4_28).toInt + (1) := by rw [em_77]; exact pm_addc _ _ (1) rfl (by omega) (by omega)
              exact hC.2 [false, false, false, false, false, true] _ _ _ _ _ _ (ih13 m37 w34 e34 v34 f34 hI34 hx34 hL34 hF34 hT34 hs34 (by omega) (by intro L hL hN; have hl := hL.1; have q2 := hp_74 L hL hN; have z2 := q2.2.1; have s2 := si_len (L := L) (a := 0) (b := z4_28.toInt) (by omega) (by omega) (by omega); have t2 := hb_74.2 L _ q2.2 q2.1 (by omega) (by omega) (by first | omega | (simp only [List.length_append, List.length_nil, List.length_cons, List.length_map, List.length_reverse, nw_len, dr_len]; omega)) (j1_28 L hL hN); rw [show m37.toInt = z4_28.toInt + 1 by omega, si_s q2.2 (a := 0) (z := z4_28.toInt) (by omega) (by omega) (by omega), List.map_append, List.map_cons, List.map_nil]; first | (rw [if_pos (by assumption)]; exact t2) | (rw [if_neg (by assumption), if_pos (by assumption)]; exact t2) | (rw [if_neg (by assumption), if_neg (by assumption)]; exact t2)) (by intro L hL hN; have h8 := (lh9 L hL hN).2.1; omega) (by omega) (by omega) (by omega) (by omega) (by omega))
          · skip
            have dc26 : ((e11 (nn + 1) (z4_28).toInt.toNat)).toInt = (x1 : Int32).toInt := congrArg Int32.toInt c26
            refine hC.1 5 74 _ _ rfl _ _ _ _ _ ?_
            have hp_74 := hL11
            refine And.intro (Exists.intro _ (cw_o1 hI11.1)) (Exists.intro _ (Exists.intro _ (Exists.intro _ (Exists.intro _ (And.intro (U_X9_keepAs hI11 hs11 z4_28 x2 (by omega)) (And.intro rfl (fun r9 A9 h9 => ?_)))))))
            rcases h9 with ⟨w39, e39, v39, f39, rfl, hI39, hs39, hy39, rfl, by38⟩
            have hx39 : e39 15 = e 15 := hy39.trans hx11
            have zs40 := cw_sz hI39 rn7
            have zs41 := cw_sz hI39 ro7
            have hb_74 := by38.2.1
            have ht_74 := by38.2.2
            have hT39 : TQ w e nn w39 e39 f39 dn7 := TQ_k hT11 rn7 ro7 hb_74.1 (by omega) ht_74
            have hF39 : FRO K w e w39 e39 dn7 := FRO_s hF11 hb_74.1
            have hL39 : ∀ L, rp (w nn) (e (nn + 1)) (e (nn + 2)) L → (nn : Int) = 40 + 4 * ((w 0).toInt % 41) → nn ≠ dn7 ∧ rp (w39 nn) (e39 (nn + 1)) (e39 (nn + 2)) L := hL_k hL11 rn7 ro7 hb_74.1
            have sw39_0 : (w39 0).toInt = (w11 0).toInt := by38.1.1
            have sw39_1 : (w39 1).toInt = (w11 1).toInt := by38.1.2.1
            have sw39_2 : (w39 2).toInt = (w11 2).toInt := by38.1.2.2.1
            have sw39_3 : (w39 3).toInt = (w11 3).toInt := by38.1.2.2.2
            clear by38
            intro m42 em_77
            try have e42 : m42.toInt = (z4_28).toInt + (1) := by rw [em_77]; exact pm_addc _ _ (1) rfl (by omega) (by omega)
            exact hC.2 [false, false, false, false, false, true] _ _ _ _ _ _ (ih13 m42 w39 e39 v39 f39 hI39 hx39 hL39 hF39 hT39 hs39 (by omega) (by intro L hL hN; have hl := hL.1; have q2 := hp_74 L hL hN; have z2 := q2.2.1; have s2 := si_len (L := L) (a := 0) (b := z4_28.toInt) (by omega) (by omega) (by omega); have t2 := hb_74.2 L _ q2.2 q2.1 (by omega) (by omega) (by first | omega | (simp only [List.length_append, List.length_nil, List.length_cons, List.length_map, List.length_reverse, nw_len, dr_len]; omega)) (j1_28 L hL hN); rw [show m42.toInt = z4_28.toInt + 1 by omega, si_s q2.2 (a := 0) (z := z4_28.toInt) (by omega) (by omega) (by omega), List.map_append, List.map_cons, List.map_nil]; first | (rw [if_pos (by assumption)]; exact t2) | (rw [if_neg (by assumption), if_pos (by assumption)]; exact t2) | (rw [if_neg (by assumption), if_neg (by assumption)]; exact t2)) (by intro L hL hN; have h8 := (lh9 L hL hN).2.1; omega) (by omega) (by omega) (by omega) (by omega) (by omega))
    exact lp12 (200 - (0 : Int32).toInt).toNat.succ (0 : Int32) w7 e7 v f hI7 hx7 hL7 hF7 hT7 hs (by omega) (by intro L hL hN; have hl := hL.1; rw [si_n (L := L) (a := 0) (b := (0 : Int32).toInt) (by decide)]; exact rp_0 hz9) (by intro L hL hN; have := hL.1; omega) (by omega) (by omega) (by omega) (by omega) (by omega)
  · skip
    have k0 : (0 : Int32).toInt = 0 := rfl
    refine And.intro (fun c9 => absurd c9 (by decide)) (fun _ => ?_)
    have km1 : (-1 : Int32).toInt = -1 := rfl
    exact ⟨rfl, fun e9 => absurd e9 (by decide), rfl, K, nn, dn, q, w, e, v, f, rfl, hI, hs, cw_X_r, rfl, (-1 : Int32), rfl, by first | omega | (dsimp only; omega) | trivial, by refine ⟨?_, ?_, ?_⟩; (intro L hL hN; have hl := hL.1; rw [ed_exch, if_neg (by omega)]; exact ⟨hL, by show _ = _ + (0 : Int); omega, by show _ = _ + (0 : Int) * _; omega, hN, fun h8 => h8⟩); (first | (exact Or.inr hc_9) | (exact hc_9) | (exact Or.inl ⟨rfl, rfl, fun _ _ => ⟨rfl, rfl⟩⟩)); (first | (exact hq_9) | (exact Or.inr ⟨by omega, ha_9, h5_9.trans (by congr 1; exact pm_eqI (by omega))⟩) | (exact Or.inl ⟨rfl, rfl, rfl⟩))⟩

set_option maxRecDepth 100000 in
set_option maxHeartbeats 2000000 in
theorem U_X10_sort (hI : cw_I K nn dn q w e) (hs : cw_S v f) (x1 : Int32) (x2 : Int32) (p0 : (w 0).toInt < 100000) : pm_Mt l g 32 5 4 485 [.ref (q 0), .int x1, .int x2] (cw A0 g K nn dn q w e v f) (cw_Qb A0 g K nn q (fun r K2 nn2 dn2 w2 e2 => e2 15 = e 15 ∧ (∃ x : Int32, r = some (.int x) ∧ (((w2 0).toInt ≤ (w 0).toInt + 1 ∧ (w 0).toInt ≤ (w2 0).toInt ∧ (w2 3).toInt = (w 3).toInt) ∧ ((∀ L, rp (w nn) (e (nn + 1)) (e (nn + 2)) L → (nn : Int) = 40 + 4 * ((w 0).toInt % 41) → rp (w2 nn2) (e2 (nn2 + 1)) (e2 (nn2 + 2)) ((ed_sort L x1 x2).getD L) ∧ (w2 0).toInt = (w 0).toInt + edn (ed_sort L x1 x2) ∧ (w2 1).toInt = (w 1).toInt + edn (ed_sort L x1 x2) * (0) ∧ (nn2 : Int) = 40 + 4 * ((w2 0).toInt % 41) ∧ (bd (w nn) (e (nn + 1)) (e (nn + 3)) → bd (w2 nn2) (e2 (nn2 + 1)) (e2 (nn2 + 3)))) ∧ (HCe K nn w e w2 e2 nn2 x) ∧ (((w2 0).toInt = (w 0).toInt ∧ x.toInt = -1 ∧ w2 2 = w 2) ∨ ((w2 0).toInt = (w 0).toInt + 1 ∧ ((nn : Int) = 40 + 4 * ((w 0).toInt % 41) → UQ (w nn).toInt (e (nn + 2)) → bd (w nn) (e (nn + 1)) (e (nn + 3)) → (∀ i : Nat, (i : Int) < (w nn).toInt → (e (nn + 2) i).toInt < (w 1).toInt) → x.toInt = (tcN (w nn).toInt (e (nn + 1)) (e (nn + 2)) (e2 (nn2 + 1)) (e2 (nn2 + 2)) (w2 nn2).toInt.toNat : Int)) ∧ w2 2 = w 2 + x))))))) := by
  refine mt_X10_sort rfl (fun J hC => ?_)
  have ro_nn : cw_ro K nn := hI.2.1.2.1
  have ro_dn : cw_ro K dn := hI.2.1.2.2.1
  have hu1 := hI.2.1
  unfold cw_W at hu1
  replace hu1 := And.intro hu1.1 (And.intro (And.intro hu1.2.1.1 hu1.2.1.2.1) (And.intro (And.intro hu1.2.2.1.1 hu1.2.2.1.2.1) (And.intro hu1.2.2.2.1 (And.intro hu1.2.2.2.2.2.1 hu1.2.2.2.2.2.2))))
  have zs2 := cw_sz hI ro_nn
  have zs3 := cw_sz hI ro_dn
  have rg_x1 := pm_rng x1
  have rg_x2 := pm_rng x2
  refine hC.1 0 0 _ _ rfl _ _ _ _ _ ?_
  refine Exists.intro _ (And.intro (cw_o0 hI.1) ?_)
  refine Exists.intro _ (And.intro (cw_o1 hI.1) ?_)
  refine And.intro (Exists.intro _ (cw_ro_o hI.1 ro_nn)) (Exists.intro _ (Exists.intro _ (Exists.intro _ (Exists.intro _ (And.intro (c_X7_isSpan hI hs ro_nn x1 x2 ) (And.intro rfl (fun r9 A9 h9 => ?_)))))))
  rcases h9 with ⟨y4, rfl, rfl, ⟨rfl, by4⟩ | ⟨rfl, by4⟩⟩
  · skip
    have k1 : (1 : Int32).toInt = 1 := rfl
    refine And.intro (fun _ => ?_) (fun c9 => absurd c9 (by decide))
    refine hC.1 1 19 _ _ rfl _ _ _ _ _ ?_
    refine Exists.intro _ (And.intro (cw_o0 hI.1) ?_)
    refine And.intro (Exists.intro _ (cw_o1 hI.1)) (Exists.intro _ (Exists.intro _ (Exists.intro _ (Exists.intro _ (And.intro (F_X9_begin hI hs  (by omega)) (And.intro rfl (fun r9 A9 h9 => ?_)))))))
    obtain ⟨K7, dn7, q7, w7, e7, rfl, rfl, hI7, hX7, hk7, hw7, hy7, hdn7, hfm7, hz7⟩ := h9
    have hq7_0 : q 0 = q7 0 := (hX7.2.1 0 (by omega)).symm
    have hq7_nn : q nn = q7 nn := (hX7.2.1 nn (by omega)).symm
    rw [hq7_0, hq7_nn]
    have hw7_0 := congrArg Int32.toInt hw7.1
    have hw7_1 := congrArg Int32.toInt hw7.2.1
    have hw7_3 := congrArg Int32.toInt hw7.2.2.2
    have hw7_2 := congrArg Int32.toInt hw7.2.2.1
    have ro7 : cw_ro K7 dn7 := hI7.2.1.2.2.1
    have rn7 : cw_ro K7 nn := hI7.2.1.2.1
    have hx7 : e7 15 = e 15 := hy7.trans rfl
    have hu8 := hI7.2.1
    unfold cw_W at hu8
    replace hu8 := And.intro hu8.1 (And.intro (And.intro hu8.2.1.1 hu8.2.1.2.1) (And.intro (And.intro hu8.2.2.1.1 hu8.2.2.1.2.1) (And.intro hu8.2.2.2.1 (And.intro hu8.2.2.2.2.2.1 hu8.2.2.2.2.2.2))))
    have zs9 := cw_sz hI7 rn7
    have zs10 := cw_sz hI7 ro7
    have hz9 := hz7
    have hL7 : ∀ L, rp (w nn) (e (nn + 1)) (e (nn + 2)) L → (nn : Int) = 40 + 4 * ((w 0).toInt % 41) → nn ≠ dn7 ∧ rp (w7 nn) (e7 (nn + 1)) (e7 (nn + 2)) L := hL_b ro_nn ro7 hdn7 hfm7
    have hF7 : FRO K w e w7 e7 dn7 := hfm7
    have hT7 : TQ w e nn w7 e7 f dn7 := TQ_b ro_nn ro7 hdn7 hfm7 hw7.2.1 hz7
    refine Exists.intro _ (And.intro (cw_o0 hI7.1) ?_)
    have k0 : (0 : Int32).toInt = 0 := rfl
    intro m11 em_33
    try have e11 : m11.toInt = (x1).toInt - (1) := by rw [em_33]; exact pm_subc _ _ (1) rfl (by omega) (by omega)
    have hp_34 := hL7
    refine And.intro (Exists.intro _ (cw_o1 hI7.1)) (Exists.intro _ (Exists.intro _ (Exists.intro _ (Exists.intro _ (And.intro (U_X9_keep hI7 hs (0 : Int32) m11 ) (And.intro rfl (fun r9 A9 h9 => ?_)))))))
    rcases h9 with ⟨w13, e13, v13, f13, rfl, hI13, hs13, hy13, rfl, by12⟩
    have hx13 : e13 15 = e 15 := hy13.trans hx7
    have zs14 := cw_sz hI13 rn7
    have zs15 := cw_sz hI13 ro7
    have hb_34 := by12.2.1
    have ht_34 := by12.2.2
    have hT13 : TQ w e nn w13 e13 f13 dn7 := TQ_k hT7 rn7 ro7 hb_34.1 (by omega) ht_34
    have hF13 : FRO K w e w13 e13 dn7 := FRO_s hF7 hb_34.1
    have hL13 : ∀ L, rp (w nn) (e (nn + 1)) (e (nn + 2)) L → (nn : Int) = 40 + 4 * ((w 0).toInt % 41) → nn ≠ dn7 ∧ rp (w13 nn) (e13 (nn + 1)) (e13 (nn + 2)) L := hL_k hL7 rn7 ro7 hb_34.1
    have sw13_0 : (w13 0).toInt = (w 0).toInt := by12.1.1.trans hw7_0
    have sw13_1 : (w13 1).toInt = (w 1).toInt := by12.1.2.1.trans hw7_1
    have sw13_2 : (w13 2).toInt = (w 2).toInt := by12.1.2.2.1.trans hw7_2
    have sw13_3 : (w13 3).toInt = (w 3).toInt := by12.1.2.2.2.trans hw7_3
    clear by12
    have lp17 : ∀ (n : Nat) (z4_40 : Int32) (w16 : Nat → Int32) (e16 : Nat → Nat → Int32) (v16 : Nat → Int32) (f16 : Nat → Nat → Int32), cw_I K7 nn dn7 q7 w16 e16 → e16 15 = e 15 → (∀ L, rp (w nn) (e (nn + 1)) (e (nn + 2)) L → (nn : Int) = 40 + 4 * ((w 0).toInt % 41) → nn ≠ dn7 ∧ rp (w16 nn) (e16 (nn + 1)) (e16 (nn + 2)) L) → FRO K w e w16 e16 dn7 → TQ w e nn w16 e16 f16 dn7 → cw_S v16 f16 → (0 ≤ z4_40.toInt ∧ z4_40.toInt ≤ 24) → (∀ L, rp (w nn) (e (nn + 1)) (e (nn + 2)) L → (nn : Int) = 40 + 4 * ((w 0).toInt % 41) → rp (w16 dn7) (e16 (dn7 + 1)) (e16 (dn7 + 2)) (si L 0 x1.toInt ++ st_l (si L x1.toInt (x2.toInt + 1)) z4_40.toInt.toNat)) → ((w16 2).toInt = (w 2).toInt) → (w16 0).toInt = (w 0).toInt → (w16 1).toInt = (w 1).toInt → (w16 3).toInt = (w 3).toInt → 200 - z4_40.toInt < (n : Int) → J 40 [some (.ref (q7 0)), some (.int x1), some (.int x2), some (.ref (q7 nn)), some (.int z4_40)] [] (cw A0 g K7 nn dn7 q7 w16 e16 v16 f16) 4 485 := by
      intro n
      induction n with
      | zero =>
        intro z4_40 w16 e16 v16 f16 hI16 hx16 hL16 hF16 hT16 hs16 j0_40 j1_40 j2_40 j3_40 j4_40 j5_40 j6_40
        clear hu8 zs9 zs10 zs14 zs15 sw13_0 sw13_1 sw13_2 sw13_3
        omega
      | succ n ih18 =>
        intro z4_40 w16 e16 v16 f16 hI16 hx16 hL16 hF16 hT16 hs16 j0_40 j1_40 j2_40 j3_40 j4_40 j5_40 j6_40
        clear hu8 zs9 zs10 zs14 zs15 sw13_0 sw13_1 sw13_2 sw13_3
        have hu19 := hI16.2.1
        unfold cw_W at hu19
        replace hu19 := And.intro hu19.1 (And.intro (And.intro hu19.2.1.1 hu19.2.1.2.1) (And.intro (And.intro hu19.2.2.1.1 hu19.2.2.1.2.1) (And.intro hu19.2.2.2.1 (And.intro hu19.2.2.2.2.2.1 hu19.2.2.2.2.2.2))))
        have zs20 := cw_sz hI16 rn7
        have zs21 := cw_sz hI16 ro7
        refine hC.1 2 40 _ _ rfl _ _ _ _ _ ?_
        have k24 : (24 : Int32).toInt = 24 := rfl
        refine And.intro (fun c22 => ?_) (fun c22 => ?_)
        · skip
          refine hC.1 3 64 _ _ rfl _ _ _ _ _ ?_
          refine Exists.intro _ (And.intro (cw_o0 hI16.1) ?_)
          intro m23 em_70
          try have e23 : m23.toInt = (x2).toInt + (1) := by rw [em_70]; exact pm_addc _ _ (1) rfl (by omega) (by omega)
          refine Exists.intro _ (And.intro (cw_ro_o hI16.1 rn7) ?_)
          have z24 := cw_sz hI16 rn7
          intro m25 em_76
          try have e25 : m25.toInt = ((w16 nn)).toInt - (1) := by rw [em_76]; exact pm_subc _ _ (1) rfl (by omega) (by omega)
          have hp_77 := hL16
          refine And.intro (Exists.intro _ (cw_o1 hI16.1)) (Exists.intro _ (Exists.intro _ (Exists.intro _ (Exists.intro _ (And.intro (U_X9_keep hI16 hs16 m23 m25 ) (And.intro rfl (fun r9 A9 h9 => ?_)))))))
          rcases h9 with ⟨w27, e27, v27, f27, rfl, hI27, hs27, hy27, rfl, by26⟩
          have hx27 : e27 15 = e 15 := hy27.trans hx16
          have zs28 := cw_sz hI27 rn7
          have zs29 := cw_sz hI27 ro7
          have hb_77 := by26.2.1
          have ht_77 := by26.2.2
          have hT27 : TQ w e nn w27 e27 f27 dn7 := TQ_k hT16 rn7 ro7 hb_77.1 (by omega) ht_77
          have hF27 : FRO K w e w27 e27 dn7 := FRO_s hF16 hb_77.1
          have hL27 : ∀ L, rp (w nn) (e (nn + 1)) (e (nn + 2)) L → (nn : Int) = 40 + 4 * ((w 0).toInt % 41) → nn ≠ dn7 ∧ rp (w27 nn) (e27 (nn + 1)) (e27 (nn + 2)) L := hL_k hL16 rn7 ro7 hb_77.1
          have sw27_0 : (w27 0).toInt = (w16 0).toInt := by26.1.1
          have sw27_1 : (w27 1).toInt = (w16 1).toInt := by26.1.2.1
          have sw27_2 : (w27 2).toInt = (w16 2).toInt := by26.1.2.2.1
          have sw27_3 : (w27 3).toInt = (w16 3).toInt := by26.1.2.2.2
          clear by26
          refine Exists.intro _ (And.intro (cw_o0 hI27.1) ?_)
          have hp_84 := hL27
          refine And.intro (Exists.intro _ (cw_o1 hI27.1)) (Exists.intro _ (Exists.intro _ (Exists.intro _ (Exists.intro _ (And.intro (U_X9_finish hI27 hs27  (by omega) (by omega)) (And.intro rfl (fun r9 A9 h9 => ?_)))))))
          rcases h9 with ⟨w31, e31, v31, f31, rfl, hI31, hs31, hy31, y30, rfl, by30⟩
          have hx31 : e31 15 = e 15 := hy31.trans hx27
          have hu32 := hI31.2.1.2.2.2.1
          have hu33 := hI31.2.1.2.2.2.2.1
          clear zs28 zs29
          have zs34 := cw_sz hI31 ro7
          have zs35 := cw_sz hI31 ro7
          have hb_84 := by30.2.1
          have ht_84 := by30.2.2.1.1
          have h5_9 := by30.2.2.1.2
          have ha_9 := fun h1 h2 h3 h4 => by30.2.2.2 _ _ _ h2 (hT27 h1 h2 h3 h4).2.2.2.2.2.2
          have hF31 : FRO K w e w31 e31 dn7 := FRO_s hF27 hb_84.1
          have hc_9 : HCn K w e w31 e31 dn7 y30 := ⟨by omega, hF31, ht_84⟩
          have sw31_1 : (w31 1).toInt = (w16 1).toInt := by30.1.1.trans sw27_1
          have sw31_3 : (w31 3).toInt = (w16 3).toInt := by30.1.2.1.trans sw27_3
          have sp31 := by30.1.2.2
          clear by30 sw27_1 sw27_3
          exact ⟨rfl, fun e9 => absurd e9 (by decide), rfl, K7, dn7, dn7, q7, w31, e31, v31, f31, rfl, hI31, hs31, hX7, hx31, y30, rfl, by first | omega | (dsimp only; omega) | trivial, by refine ⟨?_, ?_, ?_⟩; (intro L hL hN; have hl := hL.1; rw [ed_sort, if_pos (by omega)]; have t2 := j1_40 L hL hN; rw [show z4_40.toInt.toNat = 24 by omega] at t2; have h6 := st_len (si L x1.toInt (x2.toInt + 1)) 24; have s1 := si_len (L := L) (a := 0) (b := x1.toInt) (by omega) (by omega) (by omega); have s2 := si_len (L := L) (a := x1.toInt) (b := x2.toInt + 1) (by omega) (by omega) (by omega); have q3 := hp_77 L hL hN; have z3 := q3.2.1; have t3 := hb_77.2 L (_) (x2.toInt + 1) (L.length) q3.2 q3.1 (by omega) (by omega) (by omega) (by omega) (by omega) (by first | omega | (simp only [List.length_append, List.length_nil, List.length_cons, List.length_map, List.length_reverse, nw_len, dr_len]; omega)) t2; have k3 := si_len (L := L) (a := x2.toInt + 1) (b := L.length) (by omega) (by omega) (by omega); exact ⟨hb_84.2.1 _ t3, by show _ = _ + (1 : Int); omega, by show _ = _ + (1 : Int) * _; omega, by omega, fun _ => hb_84.2.2⟩); (first | (exact Or.inr hc_9) | (exact hc_9) | (exact Or.inl ⟨rfl, rfl, fun _ _ => ⟨rfl, rfl⟩⟩)); (first | (exact hq_9) | (exact Or.inr ⟨by omega, ha_9, h5_9.trans (by congr 1; exact pm_eqI (by omega))⟩) | (exact Or.inl ⟨rfl, rfl, rfl⟩))⟩
        · skip
          refine Exists.intro _ (And.intro (cw_o0 hI16.1) ?_)
          have hp_55 := hL16
          refine And.intro (Exists.intro _ (cw_o1 hI16.1)) (Exists.intro _ (Exists.intro _ (Exists.intro _ (Exists.intro _ (And.intro (U_X9_keepThoseOf hI16 hs16 z4_40 x1 x2 (by omega)) (And.intro rfl (fun r9 A9 h9 => ?_)))))))
          rcases h9 with ⟨w37, e37, v37, f37, rfl, hI37, hs37, hy37, rfl, by36⟩
          have hx37 : e37 15 = e 15 := hy37.trans hx16
          have zs38 := cw_sz hI37 rn7
          have zs39 := cw_sz hI37 ro7
          have hb_55 := by36.2.1
          have ht_55 := by36.2.2
          have hT37 : TQ w e nn w37 e37 f37 dn7 := TQ_k hT16 rn7 ro7 hb_55.1 (by omega) ht_55
          have hF37 : FRO K w e w37 e37 dn7 := FRO_s hF16 hb_55.1
          have hL37 : ∀ L, rp (w nn) (e (nn + 1)) (e (nn + 2)) L → (nn : Int) = 40 + 4 * ((w 0).toInt % 41) → nn ≠ dn7 ∧ rp (w37 nn) (e37 (nn + 1)) (e37 (nn + 2)) L := hL_k hL16 rn7 ro7 hb_55.1
          have sw37_0 : (w37 0).toInt = (w16 0).toInt := by36.1.1
          have sw37_1 : (w37 1).toInt = (w16 1).toInt := by36.1.2.1
          have sw37_2 : (w37 2).toInt = (w16 2).toInt := by36.1.2.2.1
          have sw37_3 : (w37 3).toInt = (w16 3).toInt := by36.1.2.2.2
          clear by36
          intro m40 em_58
          try have e40 : m40.toInt = (z4_40).toInt + (1) := by rw [em_58]; exact pm_addc _ _ (1) rfl (by omega) (by omega)
          exact ih18 m40 w37 e37 v37 f37 hI37 hx37 hL37 hF37 hT37 hs37 (by omega) (by intro L hL hN; have hl := hL.1; have q2 := hp_55 L hL hN; have z2 := q2.2.1; have s2 := si_len (L := L) (a := 0) (b := x1.toInt) (by omega) (by omega) (by omega); have s3 := si_len (L := L) (a := x1.toInt) (b := x2.toInt + 1) (by omega) (by omega) (by omega); have h6 := st_len (si L x1.toInt (x2.toInt + 1)) (z4_40.toInt.toNat + 1); have h7 : st_l (si L x1.toInt (x2.toInt + 1)) (z4_40.toInt.toNat + 1) = st_l (si L x1.toInt (x2.toInt + 1)) z4_40.toInt.toNat ++ (si L x1.toInt (x2.toInt + 1)).filter (fun p => decide (p.1.toInt = z4_40.toInt)) := (by show _ ++ List.filter (fun p : pl_P => decide (p.1.toInt = ((z4_40.toInt.toNat : Nat) : Int))) _ = _; rw [show ((z4_40.toInt.toNat : Nat) : Int) = z4_40.toInt by omega]); rw [h7, List.length_append] at h6; have t2 := hb_55.2 L _ x1.toInt (x2.toInt + 1) q2.2 q2.1 rfl rfl (by omega) (by omega) (by omega) (by first | omega | (simp only [List.length_append, List.length_nil, List.length_cons, List.length_map, List.length_reverse, nw_len, dr_len]; omega)) (j1_40 L hL hN); rw [show m40.toInt.toNat = z4_40.toInt.toNat + 1 by omega, h7, ← List.append_assoc]; exact t2) (by omega) (by omega) (by omega) (by omega) (by omega)
    exact lp17 (200 - (0 : Int32).toInt).toNat.succ (0 : Int32) w13 e13 v13 f13 hI13 hx13 hL13 hF13 hT13 hs13 (by omega) (by intro L hL hN; have hl := hL.1; have q1 := hp_34 L hL hN; have z1 := q1.2.1; have t1 := hb_34.2 L ([]) (0) (x1.toInt) q1.2 q1.1 (by omega) (by omega) (by omega) (by omega) (by omega) (by first | omega | (simp only [List.length_append, List.length_nil, List.length_cons, List.length_map, List.length_reverse, nw_len, dr_len]; omega)) (rp_0 hz9); have k1 := si_len (L := L) (a := 0) (b := x1.toInt) (by omega) (by omega) (by omega); rw [List.nil_append] at t1; show rp _ _ _ (_ ++ []); rw [List.append_nil]; exact t1) (by omega) (by omega) (by omega) (by omega) (by omega)
  · skip
    have k0 : (0 : Int32).toInt = 0 := rfl
    refine And.intro (fun c9 => absurd c9 (by decide)) (fun _ => ?_)
    have km1 : (-1 : Int32).toInt = -1 := rfl
    exact ⟨rfl, fun e9 => absurd e9 (by decide), rfl, K, nn, dn, q, w, e, v, f, rfl, hI, hs, cw_X_r, rfl, (-1 : Int32), rfl, by first | omega | (dsimp only; omega) | trivial, by refine ⟨?_, ?_, ?_⟩; (intro L hL hN; have hl := hL.1; rw [ed_sort, if_neg (by omega)]; exact ⟨hL, by show _ = _ + (0 : Int); omega, by show _ = _ + (0 : Int) * _; omega, hN, fun h8 => h8⟩); (first | (exact Or.inr hc_9) | (exact hc_9) | (exact Or.inl ⟨rfl, rfl, fun _ _ => ⟨rfl, rfl⟩⟩)); (first | (exact hq_9) | (exact Or.inr ⟨by omega, ha_9, h5_9.trans (by congr 1; exact pm_eqI (by omega))⟩) | (exact Or.inl ⟨rfl, rfl, rfl⟩))⟩

end
end
section
section
variable {l : Launch} {g : pm_G} {A0 : pm_H} {K nn dn : Nat} {q : Nat → Nat} {w : Nat → Int32} {e : Nat → Nat → Int32} {v : Nat → Int32} {f : Nat → Nat → Int32}
set_option maxRecDepth 100000 in
set_option maxHeartbeats 2000000 in
theorem U_X10_draw (hI : cw_I K nn dn q w e) (hs : cw_S v f) (x1 : Int32) (x2 : Int32) (x3 : Int32) (p0 : (w 0).toInt < 100000) : pm_Mt l g 40 4 4 485 [.ref (q 0), .int x1, .int x2, .int x3] (cw A0 g K nn dn q w e v f) (cw_Qb A0 g K nn q (fun r K2 nn2 dn2 w2 e2 => e2 15 = e 15 ∧ (∃ x : Int32, r = some (.int x) ∧ (((w2 0).toInt ≤ (w 0).toInt + 1 ∧ (w 0).toInt ≤ (w2 0).toInt ∧ (w2 3).toInt = (w 3).toInt) ∧ ((∀ L, rp (w nn) (e (nn + 1)) (e (nn + 2)) L → (nn : Int) = 40 + 4 * ((w 0).toInt % 41) → rp (w2 nn2) (e2 (nn2 + 1)) (e2 (nn2 + 2)) ((ed_draw L (w 1) x1 x2 x3).getD L) ∧ (w2 0).toInt = (w 0).toInt + edn (ed_draw L (w 1) x1 x2 x3) ∧ (w2 1).toInt = (w 1).toInt + edn (ed_draw L (w 1) x1 x2 x3) * (x2.toInt) ∧ (nn2 : Int) = 40 + 4 * ((w2 0).toInt % 41) ∧ (bd (w nn) (e (nn + 1)) (e (nn + 3)) → bd (w2 nn2) (e2 (nn2 + 1)) (e2 (nn2 + 3)))) ∧ (HCe K nn w e w2 e2 nn2 x) ∧ (((w2 0).toInt = (w 0).toInt ∧ x.toInt = -1 ∧ w2 2 = w 2) ∨ ((w2 0).toInt = (w 0).toInt + 1 ∧ ((nn : Int) = 40 + 4 * ((w 0).toInt % 41) → UQ (w nn).toInt (e (nn + 2)) → bd (w nn) (e (nn + 1)) (e (nn + 3)) → (∀ i : Nat, (i : Int) < (w nn).toInt → (e (nn + 2) i).toInt < (w 1).toInt) → x.toInt = (tcN (w nn).toInt (e (nn + 1)) (e (nn + 2)) (e2 (nn2 + 1)) (e2 (nn2 + 2)) (w2 nn2).toInt.toNat : Int)) ∧ w2 2 = w 2 + x))))))) := by
  refine mt_X10_draw rfl (fun J hC => ?_)
  have ro_nn : cw_ro K nn := hI.2.1.2.1
  have ro_dn : cw_ro K dn := hI.2.1.2.2.1
  have hu1 := hI.2.1
  unfold cw_W at hu1
  replace hu1 := And.intro hu1.1 (And.intro (And.intro hu1.2.1.1 hu1.2.1.2.1) (And.intro (And.intro hu1.2.2.1.1 hu1.2.2.1.2.1) (And.intro hu1.2.2.2.1 (And.intro hu1.2.2.2.2.2.1 hu1.2.2.2.2.2.2))))
  have zs2 := cw_sz hI ro_nn
  have zs3 := cw_sz hI ro_dn
  have rg_x1 := pm_rng x1
  have rg_x2 := pm_rng x2
  have rg_x3 := pm_rng x3
  refine hC.1 0 0 _ _ rfl _ _ _ _ _ ?_
  refine And.intro (fun c4 => ?_) (fun c4 => ?_)
  · skip
    refine hC.1 1 27 _ _ rfl _ _ _ _ _ ?_
    have k0 : (0 : Int32).toInt = 0 := rfl
    refine hC.1 2 28 _ _ rfl _ _ _ _ _ ?_
    refine And.intro (fun _ => ?_) (fun c9 => absurd c9 (by decide))
    refine hC.1 3 57 _ _ rfl _ _ _ _ _ ?_
    have km1 : (-1 : Int32).toInt = -1 := rfl
    exact ⟨rfl, fun e9 => absurd e9 (by decide), rfl, K, nn, dn, q, w, e, v, f, rfl, hI, hs, cw_X_r, rfl, (-1 : Int32), rfl, by first | omega | (dsimp only; omega) | trivial, by refine ⟨?_, ?_, ?_⟩; (intro L hL hN; have hl := hL.1; rw [ed_draw, if_neg (by omega)]; exact ⟨hL, by show _ = _ + (0 : Int); omega, by show _ = _ + (0 : Int) * _; omega, hN, fun h8 => h8⟩); (first | (exact Or.inr hc_9) | (exact hc_9) | (exact Or.inl ⟨rfl, rfl, fun _ _ => ⟨rfl, rfl⟩⟩)); (first | (exact hq_9) | (exact Or.inr ⟨by omega, ha_9, h5_9.trans (by congr 1; exact pm_eqI (by omega))⟩) | (exact Or.inl ⟨rfl, rfl, rfl⟩))⟩
  · skip
    have k9999 : (9999 : Int32).toInt = 9999 := rfl
    refine And.intro (fun c5 => ?_) (fun c5 => ?_)
    · skip
      refine hC.1 1 27 _ _ rfl _ _ _ _ _ ?_
      have k0 : (0 : Int32).toInt = 0 := rfl
      refine hC.1 2 28 _ _ rfl _ _ _ _ _ ?_
      refine And.intro (fun _ => ?_) (fun c9 => absurd c9 (by decide))
      refine hC.1 3 57 _ _ rfl _ _ _ _ _ ?_
      have km1 : (-1 : Int32).toInt = -1 := rfl
      exact ⟨rfl, fun e9 => absurd e9 (by decide), rfl, K, nn, dn, q, w, e, v, f, rfl, hI, hs, cw_X_r, rfl, (-1 : Int32), rfl, by first | omega | (dsimp only; omega) | trivial, by refine ⟨?_, ?_, ?_⟩; (intro L hL hN; have hl := hL.1; rw [ed_draw, if_neg (by omega)]; exact ⟨hL, by show _ = _ + (0 : Int); omega, by show _ = _ + (0 : Int) * _; omega, hN, fun h8 => h8⟩); (first | (exact Or.inr hc_9) | (exact hc_9) | (exact Or.inl ⟨rfl, rfl, fun _ _ => ⟨rfl, rfl⟩⟩)); (first | (exact hq_9) | (exact Or.inr ⟨by omega, ha_9, h5_9.trans (by congr 1; exact pm_eqI (by omega))⟩) | (exact Or.inl ⟨rfl, rfl, rfl⟩))⟩
    · skip
      have k1 : (1 : Int32).toInt = 1 := rfl
      refine And.intro (fun c6 => ?_) (fun c6 => ?_)
      · skip
        refine hC.1 1 27 _ _ rfl _ _ _ _ _ ?_
        have k0 : (0 : Int32).toInt = 0 := rfl
        refine hC.1 2 28 _ _ rfl _ _ _ _ _ ?_
        refine And.intro (fun _ => ?_) (fun c9 => absurd c9 (by decide))
        refine hC.1 3 57 _ _ rfl _ _ _ _ _ ?_
        have km1 : (-1 : Int32).toInt = -1 := rfl
        exact ⟨rfl, fun e9 => absurd e9 (by decide), rfl, K, nn, dn, q, w, e, v, f, rfl, hI, hs, cw_X_r, rfl, (-1 : Int32), rfl, by first | omega | (dsimp only; omega) | trivial, by refine ⟨?_, ?_, ?_⟩; (intro L hL hN; have hl := hL.1; rw [ed_draw, if_neg (by omega)]; exact ⟨hL, by show _ = _ + (0 : Int); omega, by show _ = _ + (0 : Int) * _; omega, hN, fun h8 => h8⟩); (first | (exact Or.inr hc_9) | (exact hc_9) | (exact Or.inl ⟨rfl, rfl, fun _ _ => ⟨rfl, rfl⟩⟩)); (first | (exact hq_9) | (exact Or.inr ⟨by omega, ha_9, h5_9.trans (by congr 1; exact pm_eqI (by omega))⟩) | (exact Or.inl ⟨rfl, rfl, rfl⟩))⟩
      · skip
        have k160 : (160 : Int32).toInt = 160 := rfl
        refine And.intro (fun c7 => ?_) (fun c7 => ?_)
        · skip
          refine hC.1 1 27 _ _ rfl _ _ _ _ _ ?_
          have k0 : (0 : Int32).toInt = 0 := rfl
          refine hC.1 2 28 _ _ rfl _ _ _ _ _ ?_
          refine And.intro (fun _ => ?_) (fun c9 => absurd c9 (by decide))
          refine hC.1 3 57 _ _ rfl _ _ _ _ _ ?_
          have km1 : (-1 : Int32).toInt = -1 := rfl
          exact ⟨rfl, fun e9 => absurd e9 (by decide), rfl, K, nn, dn, q, w, e, v, f, rfl, hI, hs, cw_X_r, rfl, (-1 : Int32), rfl, by first | omega | (dsimp only; omega) | trivial, by refine ⟨?_, ?_, ?_⟩; (intro L hL hN; have hl := hL.1; rw [ed_draw, if_neg (by omega)]; exact ⟨hL, by show _ = _ + (0 : Int); omega, by show _ = _ + (0 : Int) * _; omega, hN, fun h8 => h8⟩); (first | (exact Or.inr hc_9) | (exact hc_9) | (exact Or.inl ⟨rfl, rfl, fun _ _ => ⟨rfl, rfl⟩⟩)); (first | (exact hq_9) | (exact Or.inr ⟨by omega, ha_9, h5_9.trans (by congr 1; exact pm_eqI (by omega))⟩) | (exact Or.inl ⟨rfl, rfl, rfl⟩))⟩
        · skip
          refine hC.1 2 28 _ _ rfl _ _ _ _ _ ?_
          refine And.intro (fun c9 => absurd c9 (by decide)) (fun _ => ?_)
          refine And.intro (fun c8 => ?_) (fun c8 => ?_)
          · skip
            refine hC.1 3 57 _ _ rfl _ _ _ _ _ ?_
            have km1 : (-1 : Int32).toInt = -1 := rfl
            exact ⟨rfl, fun e9 => absurd e9 (by decide), rfl, K, nn, dn, q, w, e, v, f, rfl, hI, hs, cw_X_r, rfl, (-1 : Int32), rfl, by first | omega | (dsimp only; omega) | trivial, by refine ⟨?_, ?_, ?_⟩; (intro L hL hN; have hl := hL.1; rw [ed_draw, if_neg (by omega)]; exact ⟨hL, by show _ = _ + (0 : Int); omega, by show _ = _ + (0 : Int) * _; omega, hN, fun h8 => h8⟩); (first | (exact Or.inr hc_9) | (exact hc_9) | (exact Or.inl ⟨rfl, rfl, fun _ _ => ⟨rfl, rfl⟩⟩)); (first | (exact hq_9) | (exact Or.inr ⟨by omega, ha_9, h5_9.trans (by congr 1; exact pm_eqI (by omega))⟩) | (exact Or.inl ⟨rfl, rfl, rfl⟩))⟩
          · skip
            have k24 : (24 : Int32).toInt = 24 := rfl
            refine And.intro (fun c9 => ?_) (fun c9 => ?_)
            · skip
              refine hC.1 3 57 _ _ rfl _ _ _ _ _ ?_
              have km1 : (-1 : Int32).toInt = -1 := rfl
              exact ⟨rfl, fun e9 => absurd e9 (by decide), rfl, K, nn, dn, q, w, e, v, f, rfl, hI, hs, cw_X_r, rfl, (-1 : Int32), rfl, by first | omega | (dsimp only; omega) | trivial, by refine ⟨?_, ?_, ?_⟩; (intro L hL hN; have hl := hL.1; rw [ed_draw, if_neg (by omega)]; exact ⟨hL, by show _ = _ + (0 : Int); omega, by show _ = _ + (0 : Int) * _; omega, hN, fun h8 => h8⟩); (first | (exact Or.inr hc_9) | (exact hc_9) | (exact Or.inl ⟨rfl, rfl, fun _ _ => ⟨rfl, rfl⟩⟩)); (first | (exact hq_9) | (exact Or.inr ⟨by omega, ha_9, h5_9.trans (by congr 1; exact pm_eqI (by omega))⟩) | (exact Or.inl ⟨rfl, rfl, rfl⟩))⟩
            · skip
              refine Exists.intro _ (And.intro (cw_o0 hI.1) ?_)
              refine And.intro (Exists.intro _ (cw_o1 hI.1)) (Exists.intro _ (Exists.intro _ (Exists.intro _ (Exists.intro _ (And.intro (c_X9_hasRoomFor hI hs x2 (by omega)) (And.intro rfl (fun r9 A9 h9 => ?_)))))))
              rcases h9 with ⟨y10, rfl, rfl, ⟨rfl, by10⟩ | ⟨rfl, by10⟩⟩
              · skip
                refine And.intro (fun _ => ?_) (fun c9 => absurd c9 (by decide))
                refine hC.1 4 59 _ _ rfl _ _ _ _ _ ?_
                refine Exists.intro _ (And.intro (cw_o0 hI.1) ?_)
                refine And.intro (Exists.intro _ (cw_o1 hI.1)) (Exists.intro _ (Exists.intro _ (Exists.intro _ (Exists.intro _ (And.intro (F_X9_begin hI hs  (by omega)) (And.intro rfl (fun r9 A9 h9 => ?_)))))))
                obtain ⟨K13, dn13, q13, w13, e13, rfl, rfl, hI13, hX13, hk13, hw13, hy13, hdn13, hfm13, hz13⟩ := h9
                have hq13_0 : q 0 = q13 0 := (hX13.2.1 0 (by omega)).symm
                rw [hq13_0]
                have hw13_0 := congrArg Int32.toInt hw13.1
                have hw13_1 := congrArg Int32.toInt hw13.2.1
                have hw13_3 := congrArg Int32.toInt hw13.2.2.2
                have hw13_2 := congrArg Int32.toInt hw13.2.2.1
                have ro13 : cw_ro K13 dn13 := hI13.2.1.2.2.1
                have rn13 : cw_ro K13 nn := hI13.2.1.2.1
                have hx13 : e13 15 = e 15 := hy13.trans rfl
                have hu14 := hI13.2.1
                unfold cw_W at hu14
                replace hu14 := And.intro hu14.1 (And.intro (And.intro hu14.2.1.1 hu14.2.1.2.1) (And.intro (And.intro hu14.2.2.1.1 hu14.2.2.1.2.1) (And.intro hu14.2.2.2.1 (And.intro hu14.2.2.2.2.2.1 hu14.2.2.2.2.2.2))))
                have zs15 := cw_sz hI13 rn13
                have zs16 := cw_sz hI13 ro13
                have hz9 := hz13
                have hL13 : ∀ L, rp (w nn) (e (nn + 1)) (e (nn + 2)) L → (nn : Int) = 40 + 4 * ((w 0).toInt % 41) → nn ≠ dn13 ∧ rp (w13 nn) (e13 (nn + 1)) (e13 (nn + 2)) L := hL_b ro_nn ro13 hdn13 hfm13
                have hF13 : FRO K w e w13 e13 dn13 := hfm13
                have hT13 : TQ w e nn w13 e13 f dn13 := TQ_b ro_nn ro13 hdn13 hfm13 hw13.2.1 hz13
                refine Exists.intro _ (And.intro (cw_o0 hI13.1) ?_)
                have k0 : (0 : Int32).toInt = 0 := rfl
                refine Exists.intro _ (And.intro (cw_o0 hI13.1) ?_)
                refine Exists.intro _ (And.intro (cw_o1 hI13.1) ?_)
                refine Exists.intro _ (And.intro (cw_ro_o hI13.1 rn13) ?_)
                have z17 := cw_sz hI13 rn13
                intro m18 em_82
                try have e18 : m18.toInt = ((w13 nn)).toInt - (1) := by rw [em_82]; exact pm_subc _ _ (1) rfl (by omega) (by omega)
                have hp_83 := hL13
                refine And.intro (Exists.intro _ (cw_o1 hI13.1)) (Exists.intro _ (Exists.intro _ (Exists.intro _ (Exists.intro _ (And.intro (U_X9_keep hI13 hs (0 : Int32) m18 ) (And.intro rfl (fun r9 A9 h9 => ?_)))))))
                rcases h9 with ⟨w20, e20, v20, f20, rfl, hI20, hs20, hy20, rfl, by19⟩
                have hx20 : e20 15 = e 15 := hy20.trans hx13
                have zs21 := cw_sz hI20 rn13
                have zs22 := cw_sz hI20 ro13
                have hb_83 := by19.2.1
                have ht_83 := by19.2.2
                have hT20 : TQ w e nn w20 e20 f20 dn13 := TQ_k hT13 rn13 ro13 hb_83.1 (by omega) ht_83
                have hF20 : FRO K w e w20 e20 dn13 := FRO_s hF13 hb_83.1
                have hL20 : ∀ L, rp (w nn) (e (nn + 1)) (e (nn + 2)) L → (nn : Int) = 40 + 4 * ((w 0).toInt % 41) → nn ≠ dn13 ∧ rp (w20 nn) (e20 (nn + 1)) (e20 (nn + 2)) L := hL_k hL13 rn13 ro13 hb_83.1
                have sw20_0 : (w20 0).toInt = (w 0).toInt := by19.1.1.trans hw13_0
                have sw20_1 : (w20 1).toInt = (w 1).toInt := by19.1.2.1.trans hw13_1
                have sw20_2 : (w20 2).toInt = (w 2).toInt := by19.1.2.2.1.trans hw13_2
                have sw20_3 : (w20 3).toInt = (w 3).toInt := by19.1.2.2.2.trans hw13_3
                clear by19
                have lp24 : ∀ (n : Nat) (z5_92 : Int32) (z6_92 : Int32) (w23 : Nat → Int32) (e23 : Nat → Nat → Int32) (v23 : Nat → Int32) (f23 : Nat → Nat → Int32), cw_I K13 nn dn13 q13 w23 e23 → e23 15 = e 15 → (∀ L, rp (w nn) (e (nn + 1)) (e (nn + 2)) L → (nn : Int) = 40 + 4 * ((w 0).toInt % 41) → nn ≠ dn13 ∧ rp (w23 nn) (e23 (nn + 1)) (e23 (nn + 2)) L) → FRO K w e w23 e23 dn13 → TQ w e nn w23 e23 f23 dn13 → cw_S v23 f23 → (0 ≤ z6_92.toInt ∧ z6_92.toInt ≤ x2.toInt) → (0 ≤ z5_92.toInt ∧ z5_92.toInt ≤ 10006) → ((w23 1).toInt = (w 1).toInt + z6_92.toInt) → (z5_92.toInt = ds x1.toInt z6_92.toInt.toNat) → (∀ L, rp (w nn) (e (nn + 1)) (e (nn + 2)) L → (nn : Int) = 40 + 4 * ((w 0).toInt % 41) → rp (w23 dn13) (e23 (dn13 + 1)) (e23 (dn13 + 2)) (L ++ nw_l (w 1) (dr_l x1.toInt x3.toInt z6_92.toInt.toNat))) → ((w23 2).toInt = (w 2).toInt) → (w23 0).toInt = (w 0).toInt → (w23 3).toInt = (w 3).toInt → 200 - z6_92.toInt < (n : Int) → J 92 [some (.ref (q13 0)), some (.int x1), some (.int x2), some (.int x3), some (.int (1 : Int32)), some (.int z5_92), some (.int z6_92)] [] (cw A0 g K13 nn dn13 q13 w23 e23 v23 f23) 4 485 := by
                  intro n
                  induction n with
                  | zero =>
                    intro z5_92 z6_92 w23 e23 v23 f23 hI23 hx23 hL23 hF23 hT23 hs23 j0_92 j1_92 j2_92 j3_92 j4_92 j5_92 j6_92 j7_92 j8_92
                    clear hu14 zs15 zs16 zs21 zs22 sw20_0 sw20_1 sw20_2 sw20_3
                    omega
                  | succ n ih25 =>
                    intro z5_92 z6_92 w23 e23 v23 f23 hI23 hx23 hL23 hF23 hT23 hs23 j0_92 j1_92 j2_92 j3_92 j4_92 j5_92 j6_92 j7_92 j8_92
                    clear hu14 zs15 zs16 zs21 zs22 sw20_0 sw20_1 sw20_2 sw20_3
                    obtain ⟨g92, eg92⟩ : ∃ z9, z9 = w23 1 := ⟨_, rfl⟩
                    have hu26 := hI23.2.1
                    unfold cw_W at hu26
                    replace hu26 := And.intro hu26.1 (And.intro (And.intro hu26.2.1.1 hu26.2.1.2.1) (And.intro (And.intro hu26.2.2.1.1 hu26.2.2.1.2.1) (And.intro hu26.2.2.2.1 (And.intro hu26.2.2.2.2.2.1 hu26.2.2.2.2.2.2))))
                    have zs27 := cw_sz hI23 rn13
                    have zs28 := cw_sz hI23 ro13
                    refine hC.1 5 92 _ _ rfl _ _ _ _ _ ?_
                    refine And.intro (fun c29 => ?_) (fun c29 => ?_)
                    · skip
                      refine hC.1 6 130 _ _ rfl _ _ _ _ _ ?_
                      refine Exists.intro _ (And.intro (cw_o0 hI23.1) ?_)
                      have hp_134 := hL23
                      refine And.intro (Exists.intro _ (cw_o1 hI23.1)) (Exists.intro _ (Exists.intro _ (Exists.intro _ (Exists.intro _ (And.intro (U_X9_finish hI23 hs23  (by omega) (by omega)) (And.intro rfl (fun r9 A9 h9 => ?_)))))))
                      rcases h9 with ⟨w31, e31, v31, f31, rfl, hI31, hs31, hy31, y30, rfl, by30⟩
                      have hx31 : e31 15 = e 15 := hy31.trans hx23
                      have hu32 := hI31.2.1.2.2.2.1
                      have hu33 := hI31.2.1.2.2.2.2.1
                      have zs34 := cw_sz hI31 ro13
                      have zs35 := cw_sz hI31 ro13
                      have hb_134 := by30.2.1
                      have ht_134 := by30.2.2.1.1
                      have h5_9 := by30.2.2.1.2
                      have ha_9 := fun h1 h2 h3 h4 => by30.2.2.2 _ _ _ h2 (hT23 h1 h2 h3 h4).2.2.2.2.2.2
                      have hF31 : FRO K w e w31 e31 dn13 := FRO_s hF23 hb_134.1
                      have hc_9 : HCn K w e w31 e31 dn13 y30 := ⟨by omega, hF31, ht_134⟩
                      have sw31_1 : (w31 1).toInt = (w23 1).toInt := by30.1.1
                      have sw31_3 : (w31 3).toInt = (w23 3).toInt := by30.1.2.1
                      have sp31 := by30.1.2.2
                      clear by30
                      exact ⟨rfl, fun e9 => absurd e9 (by decide), rfl, K13, dn13, dn13, q13, w31, e31, v31, f31, rfl, hI31, hs31, hX13, hx31, y30, rfl, by first | omega | (dsimp only; omega) | trivial, by refine ⟨?_, ?_, ?_⟩; (intro L hL hN; have hl := hL.1; rw [ed_draw, if_pos (by omega)]; have t2 := j4_92 L hL hN; rw [show z6_92.toInt.toNat = x2.toInt.toNat by omega] at t2; exact ⟨hb_134.2.1 _ t2, by show _ = _ + (1 : Int); omega, by show _ = _ + (1 : Int) * _; omega, by omega, fun _ => hb_134.2.2⟩); (first | (exact Or.inr hc_9) | (exact hc_9) | (exact Or.inl ⟨rfl, rfl, fun _ _ => ⟨rfl, rfl⟩⟩)); (first | (exact hq_9) | (exact Or.inr ⟨by omega, ha_9, h5_9.trans (by congr 1; exact pm_eqI (by omega))⟩) | (exact Or.inl ⟨rfl, rfl, rfl⟩))⟩
                    · skip
                      have k137 : (137 : Int32).toInt = 137 := rfl
                      intro m36 em_103
                      try have e36 : m36.toInt = (z5_92).toInt * (137) := by rw [em_103]; exact pm_mulc _ _ (137) rfl (by omega) (by omega)
                      have k71 : (71 : Int32).toInt = 71 := rfl
                      intro m37 em_106
                      try have e37 : m37.toInt = (m36).toInt + (71) := by rw [em_106]; exact pm_addc _ _ (71) rfl (by omega) (by omega)
                      have k10007 : (10007 : Int32).toInt = 10007 := rfl
                      refine And.intro (by decide) ?_
                      intro m38 em_110
                      have e38 : 0 ≤ m38.toInt ∧ m38.toInt < 10007 ∧ m38.toInt = (m37).toInt % 10007 := by rw [em_110]; exact pm_remc _ _ 10007 rfl (by omega) (by decide)
                      have hd1 : ds x1.toInt (z6_92.toInt.toNat + 1) = m38.toInt := by show (137 * ds x1.toInt z6_92.toInt.toNat + 71) % 10007 = _; rw [← j3_92]; omega
                      refine Exists.intro _ (And.intro (cw_o0 hI23.1) ?_)
                      refine And.intro (fun e9 => by have e8 := congrArg Int32.toInt e9; have e7 : (0 : Int32).toInt = 0 := rfl; omega) ?_
                      intro m39 em_120
                      try have e39 := pm_rem m38 x3 (by omega) (by omega)
                      try rw [← em_120] at e39
                      obtain ⟨cc9, hcc9⟩ : ∃ z9, z9 = m39 := ⟨_, rfl⟩
                      have ecc := pm_rem m38 x3 (by omega) (by omega)
                      rw [← em_120, ← hcc9] at ecc
                      have hp_121 := hL23
                      refine And.intro (Exists.intro _ (cw_o1 hI23.1)) (Exists.intro _ (Exists.intro _ (Exists.intro _ (Exists.intro _ (And.intro (U_X9_add hI23 hs23 m39 (by omega) (by omega)) (And.intro rfl (fun r9 A9 h9 => ?_)))))))
                      rcases h9 with ⟨w41, e41, v41, f41, rfl, hI41, hs41, hy41, rfl, by40⟩
                      have hx41 : e41 15 = e 15 := hy41.trans hx23
                      have hu42 := hI41.2.1.2.2.2.2.2.1
                      have zs43 := cw_sz hI41 rn13
                      have zs44 := cw_sz hI41 ro13
                      have hb_121 := by40.2.1
                      have ht_121 := by40.2.2
                      have hT41 : TQ w e nn w41 e41 f41 dn13 := TQ_a hT23 rn13 ro13 hb_121.1 (by omega) ht_121
                      have hF41 : FRO K w e w41 e41 dn13 := FRO_s hF23 hb_121.1
                      have hL41 : ∀ L, rp (w nn) (e (nn + 1)) (e (nn + 2)) L → (nn : Int) = 40 + 4 * ((w 0).toInt % 41) → nn ≠ dn13 ∧ rp (w41 nn) (e41 (nn + 1)) (e41 (nn + 2)) L := hL_k hL23 rn13 ro13 hb_121.1
                      have sw41_0 : (w41 0).toInt = (w23 0).toInt := by40.1.1
                      have sw41_2 : (w41 2).toInt = (w23 2).toInt := by40.1.2.1
                      have sw41_3 : (w41 3).toInt = (w23 3).toInt := by40.1.2.2.1
                      have sp41 := by40.1.2.2.2
                      clear by40
                      intro m45 em_124
                      try have e45 : m45.toInt = (z6_92).toInt + (1) := by rw [em_124]; exact pm_addc _ _ (1) rfl (by omega) (by omega)
                      exact ih25 m38 m45 w41 e41 v41 f41 hI41 hx41 hL41 hF41 hT41 hs41 (by omega) (by omega) (by omega) (by rw [show m45.toInt.toNat = z6_92.toInt.toNat + 1 by omega, hd1]) (by intro L hL hN; have hl := hL.1; have t2 := hb_121.2 _ (j4_92 L hL hN) (by first | omega | (simp only [List.length_append, List.length_nil, List.length_cons, List.length_map, List.length_reverse, nw_len, dr_len]; omega)); rw [← eg92] at t2; have h5 : Int32.ofInt (m38.toInt % x3.toInt) = cc9 := (by rw [← ecc.2.2, Int32.ofInt_toInt]); rw [show m45.toInt.toNat = z6_92.toInt.toNat + 1 by omega, dr_s, hd1, nw_app (g2 := g92) (by rw [eg92, dr_len]; omega) (by rw [dr_len]; omega), ← List.append_assoc, h5, hcc9]; exact t2) (by omega) (by omega) (by omega) (by omega)
                exact lp24 (200 - (0 : Int32).toInt).toNat.succ x1 (0 : Int32) w20 e20 v20 f20 hI20 hx20 hL20 hF20 hT20 hs20 (by omega) (by omega) (by omega) (by rfl) (by intro L hL hN; have hl := hL.1; have q1 := hp_83 L hL hN; have z1 := q1.2.1; have t1 := hb_83.2 L ([]) (0) (L.length) q1.2 q1.1 (by omega) (by omega) (by omega) (by omega) (by omega) (by first | omega | (simp only [List.length_append, List.length_nil, List.length_cons, List.length_map, List.length_reverse, nw_len, dr_len]; omega)) (rp_0 hz9); have k1 := si_len (L := L) (a := 0) (b := L.length) (by omega) (by omega) (by omega); rw [List.nil_append] at t1; rw [si_all] at t1; show rp _ _ _ (L ++ []); rw [List.append_nil]; exact t1) (by omega) (by omega) (by omega) (by omega)
              · skip
                have k0 : (0 : Int32).toInt = 0 := rfl
                refine And.intro (fun c9 => absurd c9 (by decide)) (fun _ => ?_)
                refine hC.1 3 57 _ _ rfl _ _ _ _ _ ?_
                have km1 : (-1 : Int32).toInt = -1 := rfl
                exact ⟨rfl, fun e9 => absurd e9 (by decide), rfl, K, nn, dn, q, w, e, v, f, rfl, hI, hs, cw_X_r, rfl, (-1 : Int32), rfl, by first | omega | (dsimp only; omega) | trivial, by refine ⟨?_, ?_, ?_⟩; (intro L hL hN; have hl := hL.1; rw [ed_draw, if_neg (by omega)]; exact ⟨hL, by show _ = _ + (0 : Int); omega, by show _ = _ + (0 : Int) * _; omega, hN, fun h8 => h8⟩); (first | (exact Or.inr hc_9) | (exact hc_9) | (exact Or.inl ⟨rfl, rfl, fun _ _ => ⟨rfl, rfl⟩⟩)); (first | (exact hq_9) | (exact Or.inr ⟨by omega, ha_9, h5_9.trans (by congr 1; exact pm_eqI (by omega))⟩) | (exact Or.inl ⟨rfl, rfl, rfl⟩))⟩

end
end
section
section
variable {l : Launch} {g : pm_G} {A0 : pm_H} {h : Nat} {q : Nat → Nat}
set_option maxRecDepth 100000 in
set_option maxHeartbeats 2000000 in
theorem U_X11_insert (D : md_D h q) (v : Nat → Int32) (f : Nat → Nat → Int32) (hv : md_V v) (hf : md_F f) (x1 : Int32) (x2 : Int32) (p0 : (v 4).toInt < 100000) : pm_Mt l g 183 4 0 0 [.ref h, .int x1, .int x2] (md A0 g h q v f) (md_Qw A0 g h q f (fun r v2 f2 => f2 7 = f 7 ∧ f2 8 = f 8 ∧ f2 9 = f 9 ∧ f2 10 = f 10 ∧ f2 11 = f 11 ∧ ((v2 6).toInt = (v 6).toInt ∧ (v2 4).toInt ≤ (v 4).toInt + 1 ∧ (v 4).toInt ≤ (v2 4).toInt) ∧ ((∀ L, rp (v 0) (f 0) (f 1) L → rp (v2 0) (f2 0) (f2 1) ((ed_insert L (v 3) x1 x2).getD L) ∧ (v2 4).toInt = (v 4).toInt + edn (ed_insert L (v 3) x1 x2) ∧ (v2 3).toInt = (v 3).toInt + edn (ed_insert L (v 3) x1 x2) * (1)) ∧ (HMe (v 4).toInt f v2 f2 r.toInt) ∧ (((v2 4).toInt = (v 4).toInt ∧ r.toInt = -1 ∧ v2 5 = v 5) ∨ ((v2 4).toInt = (v 4).toInt + 1 ∧ r.toInt = (tcN (v 0).toInt (f 0) (f 1) (f2 0) (f2 1) (v2 0).toInt.toNat : Int) ∧ v2 5 = v 5 + r))))) := by
  refine mt_X11_insert rfl (fun J hC => ?_)
  have hv9 := hv
  unfold md_V at hv9
  have rg_x1 := pm_rng x1
  have rg_x2 := pm_rng x2
  refine hC.1 0 0 _ _ rfl _ _ _ _ _ ?_
  have k0 : (0 : Int32).toInt = 0 := rfl
  refine Exists.intro _ (And.intro md_o ?_)
  refine Exists.intro _ (Exists.intro _ (Exists.intro _ (Exists.intro _ (And.intro (c_X11_isIn (md A0 g h q v f) x1 (0 : Int32) (v 0) ) (And.intro rfl (fun r9 A9 h9 => ?_))))))
  rcases h9 with ⟨y1, rfl, rfl, ⟨rfl, by1⟩ | ⟨rfl, by1⟩⟩
  · skip
    have k1 : (1 : Int32).toInt = 1 := rfl
    refine And.intro (fun c9 => absurd c9 (by decide)) (fun _ => ?_)
    refine Exists.intro _ (Exists.intro _ (Exists.intro _ (Exists.intro _ (And.intro (c_X11_isColour (md A0 g h q v f) x2 ) (And.intro rfl (fun r9 A9 h9 => ?_))))))
    rcases h9 with ⟨y2, rfl, rfl, ⟨rfl, by2⟩ | ⟨rfl, by2⟩⟩
    · skip
      refine And.intro (fun c9 => absurd c9 (by decide)) (fun _ => ?_)
      refine And.intro (Exists.intro _ md_o) (Exists.intro _ (Exists.intro _ (Exists.intro _ (Exists.intro _ (And.intro (c_X11_hasRoom D v f hv hf (1 : Int32) (by omega)) (And.intro rfl (fun r9 A9 h9 => ?_)))))))
      rcases h9 with ⟨y3, rfl, rfl, ⟨rfl, by3⟩ | ⟨rfl, by3⟩⟩
      · skip
        refine And.intro (fun _ => ?_) (fun c9 => absurd c9 (by decide))
        refine hC.1 2 29 _ _ rfl _ _ _ _ _ ?_
        refine And.intro (Exists.intro _ md_o) (Exists.intro _ (Exists.intro _ (Exists.intro _ (Exists.intro _ (And.intro (U_X11_begins D v f hv hf  ) (And.intro rfl (fun r9 A9 h9 => ?_)))))))
        obtain ⟨v5, f5, rfl, rfl, hv5, hf5, hx5, hg5_0, hg5_1, hg5_12, hg5_13, hg5_14, hg5_15, hg5_7, hg5_8, hg5_9, hg5_10, hg5_11, by4⟩ := h9
        have hw5 : f5 2 = f 2 := hx5.trans rfl
        have hr5_0 : f5 0 = f 0 := hg5_0.trans rfl
        have hr5_1 : f5 1 = f 1 := hg5_1.trans rfl
        have hr5_12 : f5 12 = f 12 := hg5_12.trans rfl
        have hr5_13 : f5 13 = f 13 := hg5_13.trans rfl
        have hr5_14 : f5 14 = f 14 := hg5_14.trans rfl
        have hr5_15 : f5 15 = f 15 := hg5_15.trans rfl
        have hr5_7 : f5 7 = f 7 := hg5_7.trans rfl
        have hr5_8 : f5 8 = f 8 := hg5_8.trans rfl
        have hr5_9 : f5 9 = f 9 := hg5_9.trans rfl
        have hr5_10 : f5 10 = f 10 := hg5_10.trans rfl
        have hr5_11 : f5 11 = f 11 := hg5_11.trans rfl
        have hu6_1 := hv5.2.1
        have hu6_2 := hv5.2.2.1
        have hb_30 := by4.2
        have sq5_0 : (v5 0).toInt = (v 0).toInt := by4.1.1
        have sq5_3 : (v5 3).toInt = (v 3).toInt := by4.1.2.1
        have sq5_4 : (v5 4).toInt = (v 4).toInt := by4.1.2.2.1
        have sq5_5 : (v5 5).toInt = (v 5).toInt := by4.1.2.2.2.1
        have sq5_6 : (v5 6).toInt = (v 6).toInt := by4.1.2.2.2.2.1
        have sp5 := by4.1.2.2.2.2.2
        have ob5 : OB v5 f5 (v 0).toInt (f 0) (f 1) := by4.2
        clear by4
        have hp_36 : ∀ L, rp (v 0) (f 0) (f 1) L → rp (v5 0) (f5 0) (f5 1) L := fun L h => rp_fr h (by omega) hr5_0 hr5_1
        refine And.intro (Exists.intro _ md_o) (Exists.intro _ (Exists.intro _ (Exists.intro _ (Exists.intro _ (And.intro (U_X11_laysFrom D v5 f5 hv5 hf5 (0 : Int32) x1 (by omega) (by omega) (by omega) (by omega)) (And.intro rfl (fun r9 A9 h9 => ?_)))))))
        obtain ⟨v8, f8, rfl, rfl, hv8, hf8, hx8, hg8_0, hg8_1, hg8_3, hg8_4, hg8_12, hg8_13, hg8_14, hg8_15, hg8_7, hg8_8, hg8_9, hg8_10, hg8_11, by7⟩ := h9
        have hw8 : f8 2 = f 2 := hx8.trans hw5
        have hr8_0 : f8 0 = f 0 := hg8_0.trans hr5_0
        have hr8_1 : f8 1 = f 1 := hg8_1.trans hr5_1
        have hr8_12 : f8 12 = f 12 := hg8_12.trans hr5_12
        have hr8_13 : f8 13 = f 13 := hg8_13.trans hr5_13
        have hr8_14 : f8 14 = f 14 := hg8_14.trans hr5_14
        have hr8_15 : f8 15 = f 15 := hg8_15.trans hr5_15
        have hr8_7 : f8 7 = f 7 := hg8_7.trans hr5_7
        have hr8_8 : f8 8 = f 8 := hg8_8.trans hr5_8
        have hr8_9 : f8 9 = f 9 := hg8_9.trans hr5_9
        have hr8_10 : f8 10 = f 10 := hg8_10.trans hr5_10
        have hr8_11 : f8 11 = f 11 := hg8_11.trans hr5_11
        have hu9_2 := hv8.2.2.1
        have hb_36 := by7.2
        have sq8_0 : (v8 0).toInt = (v 0).toInt := by7.1.1.trans sq5_0
        have sq8_1 : (v8 1).toInt = (v5 1).toInt := by7.1.2.1
        have sq8_3 : (v8 3).toInt = (v 3).toInt := by7.1.2.2.1.trans sq5_3
        have sq8_4 : (v8 4).toInt = (v 4).toInt := by7.1.2.2.2.1.trans sq5_4
        have sq8_5 : (v8 5).toInt = (v 5).toInt := by7.1.2.2.2.2.1.trans sq5_5
        have sq8_6 : (v8 6).toInt = (v 6).toInt := by7.1.2.2.2.2.2.1.trans sq5_6
        have sp8 := by7.1.2.2.2.2.2.2
        have ob8 : OB v8 f8 (v 0).toInt (f 0) (f 1) := OB_fr ob5 (by omega) hg8_3 hg8_4
        clear by7
        refine And.intro (Exists.intro _ md_o) (Exists.intro _ (Exists.intro _ (Exists.intro _ (Exists.intro _ (And.intro (U_X11_laysNew D v8 f8 hv8 hf8 x2 (by omega) (by omega) (by omega)) (And.intro rfl (fun r9 A9 h9 => ?_)))))))
        obtain ⟨v11, f11, rfl, rfl, hv11, hf11, hx11, hg11_0, hg11_1, hg11_3, hg11_4, hg11_12, hg11_13, hg11_14, hg11_15, hg11_7, hg11_8, hg11_9, hg11_10, hg11_11, by10⟩ := h9
        have hw11 : f11 2 = f 2 := hx11.trans hw8
        have hr11_0 : f11 0 = f 0 := hg11_0.trans hr8_0
        have hr11_1 : f11 1 = f 1 := hg11_1.trans hr8_1
        have hr11_12 : f11 12 = f 12 := hg11_12.trans hr8_12
        have hr11_13 : f11 13 = f 13 := hg11_13.trans hr8_13
        have hr11_14 : f11 14 = f 14 := hg11_14.trans hr8_14
        have hr11_15 : f11 15 = f 15 := hg11_15.trans hr8_15
        have hr11_7 : f11 7 = f 7 := hg11_7.trans hr8_7
        have hr11_8 : f11 8 = f 8 := hg11_8.trans hr8_8
        have hr11_9 : f11 9 = f 9 := hg11_9.trans hr8_9
        have hr11_10 : f11 10 = f 10 := hg11_10.trans hr8_10
        have hr11_11 : f11 11 = f 11 := hg11_11.trans hr8_11
        have hu12_2 := hv11.2.2.1
        have hu12_3 := hv11.2.2.2.1
        have hb_41 := by10.2
        have sq11_0 : (v11 0).toInt = (v 0).toInt := by10.1.1.trans sq8_0
        have sq11_1 : (v11 1).toInt = (v5 1).toInt := by10.1.2.1.trans sq8_1
        have sq11_4 : (v11 4).toInt = (v 4).toInt := by10.1.2.2.1.trans sq8_4
        have sq11_5 : (v11 5).toInt = (v 5).toInt := by10.1.2.2.2.1.trans sq8_5
        have sq11_6 : (v11 6).toInt = (v 6).toInt := by10.1.2.2.2.2.1.trans sq8_6
        have sp11 := by10.1.2.2.2.2.2
        have ob11 : OB v11 f11 (v 0).toInt (f 0) (f 1) := OB_fr ob8 (by omega) hg11_3 hg11_4
        clear by10
        refine Exists.intro _ (And.intro md_o ?_)
        have hp_50 : ∀ L, rp (v 0) (f 0) (f 1) L → rp (v11 0) (f11 0) (f11 1) L := fun L h => rp_fr h (by omega) hr11_0 hr11_1
        refine And.intro (Exists.intro _ md_o) (Exists.intro _ (Exists.intro _ (Exists.intro _ (Exists.intro _ (And.intro (U_X11_laysFrom D v11 f11 hv11 hf11 x1 (v11 0) (by omega) (by omega) (by omega) (by omega)) (And.intro rfl (fun r9 A9 h9 => ?_)))))))
        obtain ⟨v14, f14, rfl, rfl, hv14, hf14, hx14, hg14_0, hg14_1, hg14_3, hg14_4, hg14_12, hg14_13, hg14_14, hg14_15, hg14_7, hg14_8, hg14_9, hg14_10, hg14_11, by13⟩ := h9
        have hw14 : f14 2 = f 2 := hx14.trans hw11
        have hr14_0 : f14 0 = f 0 := hg14_0.trans hr11_0
        have hr14_1 : f14 1 = f 1 := hg14_1.trans hr11_1
        have hr14_12 : f14 12 = f 12 := hg14_12.trans hr11_12
        have hr14_13 : f14 13 = f 13 := hg14_13.trans hr11_13
        have hr14_14 : f14 14 = f 14 := hg14_14.trans hr11_14
        have hr14_15 : f14 15 = f 15 := hg14_15.trans hr11_15
        have hr14_7 : f14 7 = f 7 := hg14_7.trans hr11_7
        have hr14_8 : f14 8 = f 8 := hg14_8.trans hr11_8
        have hr14_9 : f14 9 = f 9 := hg14_9.trans hr11_9
        have hr14_10 : f14 10 = f 10 := hg14_10.trans hr11_10
        have hr14_11 : f14 11 = f 11 := hg14_11.trans hr11_11
        have hu15_2 := hv14.2.2.1
        have hb_50 := by13.2
        have sq14_0 : (v14 0).toInt = (v 0).toInt := by13.1.1.trans sq11_0
        have sq14_1 : (v14 1).toInt = (v5 1).toInt := by13.1.2.1.trans sq11_1
        have sq14_3 : (v14 3).toInt = (v11 3).toInt := by13.1.2.2.1
        have sq14_4 : (v14 4).toInt = (v 4).toInt := by13.1.2.2.2.1.trans sq11_4
        have sq14_5 : (v14 5).toInt = (v 5).toInt := by13.1.2.2.2.2.1.trans sq11_5
        have sq14_6 : (v14 6).toInt = (v 6).toInt := by13.1.2.2.2.2.2.1.trans sq11_6
        have sp14 := by13.1.2.2.2.2.2.2
        have ob14 : OB v14 f14 (v 0).toInt (f 0) (f 1) := OB_fr ob11 (by omega) hg14_3 hg14_4
        clear by13
        refine And.intro (Exists.intro _ md_o) (Exists.intro _ (Exists.intro _ (Exists.intro _ (Exists.intro _ (And.intro (U_X11_ends D v14 f14 hv14 hf14  (by omega)) (And.intro rfl (fun r9 A9 h9 => ?_)))))))
        obtain ⟨y16, v17, f17, rfl, rfl, hv17, hf17, hx17, hg17_7, hg17_8, hg17_9, hg17_10, hg17_11, by16⟩ := h9
        have hw17 : f17 2 = f 2 := hx17.trans hw14
        have hr17_7 : f17 7 = f 7 := hg17_7.trans hr14_7
        have hr17_8 : f17 8 = f 8 := hg17_8.trans hr14_8
        have hr17_9 : f17 9 = f 9 := hg17_9.trans hr14_9
        have hr17_10 : f17 10 = f 10 := hg17_10.trans hr14_10
        have hr17_11 : f17 11 = f 11 := hg17_11.trans hr14_11
        have hu18_0 := hv17.1
        have hu18_4 := hv17.2.2.2.2.1
        have hb_54 := by16.2.1
        have sq17_1 : (v17 1).toInt = (v5 1).toInt := by16.1.1.trans sq14_1
        have sq17_2 : (v17 2).toInt = (v14 2).toInt := by16.1.2.1
        have sq17_3 : (v17 3).toInt = (v11 3).toInt := by16.1.2.2.1.trans sq14_3
        have sq17_6 : (v17 6).toInt = (v 6).toInt := by16.1.2.2.2.1.trans sq14_6
        have sp17 := by16.1.2.2.2.2
        have hm_9 := HM_fr by16.2.2.1 hr14_12 hr14_13 hr14_14 hr14_15
        have ha_9 := by16.2.2.2.1 _ _ _ ob14
        have h5_9 := by16.2.2.2.2
        clear by16
        exact ⟨rfl, fun e9 => absurd e9 (by decide), rfl, y16, v17, f17, rfl, rfl, hv17, hf17, hw17, hr17_7, hr17_8, hr17_9, hr17_10, hr17_11, by first | omega | (dsimp only; omega) | trivial, by refine ⟨?_, ?_, ?_⟩; (intro L hL; have hl := hL.1; rw [ed_insert, if_pos (by omega)]; have t1 := hb_36 L [] (0) (x1.toInt) (hp_36 L hL) (by omega) (by omega) (by omega) (by omega) (rp_0 (by omega)); have t2 := hb_41 _ (v 3) (by omega) t1; have t3 := hb_50 L _ (x1.toInt) (L.length) (hp_50 L hL) (by omega) (by omega) (by omega) (by omega) t2; rw [List.nil_append] at t3; exact ⟨hb_54 _ t3, by show _ = _ + (1 : Int); omega, by show _ = _ + (1 : Int) * _; omega⟩); (first | (exact Or.inr ⟨by omega, hm_9⟩) | (exact Or.inl ⟨by omega, hr_missing, hr_missing, hr_missing, hr_missing⟩)); (first | (exact hq_9) | (exact Or.inr ⟨by omega, ha_9, h5_9.trans (by congr 1; exact pm_eqI (by omega))⟩) | (exact Or.inl ⟨rfl, rfl, rfl⟩))⟩
      · skip
        refine And.intro (fun c9 => absurd c9 (by decide)) (fun _ => ?_)
        refine hC.1 1 27 _ _ rfl _ _ _ _ _ ?_
        have km1 : (-1 : Int32).toInt = -1 := rfl
        exact ⟨rfl, fun e9 => absurd e9 (by decide), rfl, (-1 : Int32), v, f, rfl, rfl, hv, hf, rfl, rfl, rfl, rfl, rfl, rfl, by first | omega | (dsimp only; omega) | trivial, by refine ⟨?_, ?_, ?_⟩; (intro L hL; have hl := hL.1; rw [ed_insert, if_neg (by omega)]; exact ⟨hL, by show _ = _ + (0 : Int); omega, by show _ = _ + (0 : Int) * _; omega⟩); (first | (exact Or.inr ⟨by omega, hm_9⟩) | (exact Or.inl ⟨by omega, rfl, rfl, rfl, rfl⟩)); (first | (exact hq_9) | (exact Or.inr ⟨by omega, ha_9, h5_9.trans (by congr 1; exact pm_eqI (by omega))⟩) | (exact Or.inl ⟨rfl, rfl, rfl⟩))⟩
    · skip
      refine And.intro (fun _ => ?_) (fun c9 => absurd c9 (by decide))
      refine hC.1 1 27 _ _ rfl _ _ _ _ _ ?_
      have km1 : (-1 : Int32).toInt = -1 := rfl
      exact ⟨rfl, fun e9 => absurd e9 (by decide), rfl, (-1 : Int32), v, f, rfl, rfl, hv, hf, rfl, rfl, rfl, rfl, rfl, rfl, by first | omega | (dsimp only; omega) | trivial, by refine ⟨?_, ?_, ?_⟩; (intro L hL; have hl := hL.1; rw [ed_insert, if_neg (by omega)]; exact ⟨hL, by show _ = _ + (0 : Int); omega, by show _ = _ + (0 : Int) * _; omega⟩); (first | (exact Or.inr ⟨by omega, hm_9⟩) | (exact Or.inl ⟨by omega, rfl, rfl, rfl, rfl⟩)); (first | (exact hq_9) | (exact Or.inr ⟨by omega, ha_9, h5_9.trans (by congr 1; exact pm_eqI (by omega))⟩) | (exact Or.inl ⟨rfl, rfl, rfl⟩))⟩
  · skip
    refine And.intro (fun _ => ?_) (fun c9 => absurd c9 (by decide))
    refine hC.1 1 27 _ _ rfl _ _ _ _ _ ?_
    have km1 : (-1 : Int32).toInt = -1 := rfl
    exact ⟨rfl, fun e9 => absurd e9 (by decide), rfl, (-1 : Int32), v, f, rfl, rfl, hv, hf, rfl, rfl, rfl, rfl, rfl, rfl, by first | omega | (dsimp only; omega) | trivial, by refine ⟨?_, ?_, ?_⟩; (intro L hL; have hl := hL.1; rw [ed_insert, if_neg (by omega)]; exact ⟨hL, by show _ = _ + (0 : Int); omega, by show _ = _ + (0 : Int) * _; omega⟩); (first | (exact Or.inr ⟨by omega, hm_9⟩) | (exact Or.inl ⟨by omega, rfl, rfl, rfl, rfl⟩)); (first | (exact hq_9) | (exact Or.inr ⟨by omega, ha_9, h5_9.trans (by congr 1; exact pm_eqI (by omega))⟩) | (exact Or.inl ⟨rfl, rfl, rfl⟩))⟩

set_option maxRecDepth 100000 in
set_option maxHeartbeats 2000000 in
theorem U_X11_cut (D : md_D h q) (v : Nat → Int32) (f : Nat → Nat → Int32) (hv : md_V v) (hf : md_F f) (x1 : Int32) (x2 : Int32) (p0 : (v 4).toInt < 100000) : pm_Mt l g 187 4 0 0 [.ref h, .int x1, .int x2] (md A0 g h q v f) (md_Qw A0 g h q f (fun r v2 f2 => f2 7 = f 7 ∧ f2 8 = f 8 ∧ f2 9 = f 9 ∧ f2 10 = f 10 ∧ f2 11 = f 11 ∧ ((v2 6).toInt = (v 6).toInt ∧ (v2 4).toInt ≤ (v 4).toInt + 1 ∧ (v 4).toInt ≤ (v2 4).toInt) ∧ ((∀ L, rp (v 0) (f 0) (f 1) L → rp (v2 0) (f2 0) (f2 1) ((ed_cut L x1 x2).getD L) ∧ (v2 4).toInt = (v 4).toInt + edn (ed_cut L x1 x2) ∧ (v2 3).toInt = (v 3).toInt + edn (ed_cut L x1 x2) * (0)) ∧ (HMe (v 4).toInt f v2 f2 r.toInt) ∧ (((v2 4).toInt = (v 4).toInt ∧ r.toInt = -1 ∧ v2 5 = v 5) ∨ ((v2 4).toInt = (v 4).toInt + 1 ∧ r.toInt = (tcN (v 0).toInt (f 0) (f 1) (f2 0) (f2 1) (v2 0).toInt.toNat : Int) ∧ v2 5 = v 5 + r))))) := by
  refine mt_X11_cut rfl (fun J hC => ?_)
  have hv9 := hv
  unfold md_V at hv9
  have rg_x1 := pm_rng x1
  have rg_x2 := pm_rng x2
  refine hC.1 0 0 _ _ rfl _ _ _ _ _ ?_
  refine And.intro (Exists.intro _ md_o) (Exists.intro _ (Exists.intro _ (Exists.intro _ (Exists.intro _ (And.intro (c_X11_isSpan D v f hv hf x1 x2 ) (And.intro rfl (fun r9 A9 h9 => ?_)))))))
  rcases h9 with ⟨y1, rfl, rfl, ⟨rfl, by1⟩ | ⟨rfl, by1⟩⟩
  · skip
    have k1 : (1 : Int32).toInt = 1 := rfl
    refine And.intro (fun _ => ?_) (fun c9 => absurd c9 (by decide))
    refine hC.1 1 11 _ _ rfl _ _ _ _ _ ?_
    refine And.intro (Exists.intro _ md_o) (Exists.intro _ (Exists.intro _ (Exists.intro _ (Exists.intro _ (And.intro (U_X11_begins D v f hv hf  ) (And.intro rfl (fun r9 A9 h9 => ?_)))))))
    obtain ⟨v3, f3, rfl, rfl, hv3, hf3, hx3, hg3_0, hg3_1, hg3_12, hg3_13, hg3_14, hg3_15, hg3_7, hg3_8, hg3_9, hg3_10, hg3_11, by2⟩ := h9
    have hw3 : f3 2 = f 2 := hx3.trans rfl
    have hr3_0 : f3 0 = f 0 := hg3_0.trans rfl
    have hr3_1 : f3 1 = f 1 := hg3_1.trans rfl
    have hr3_12 : f3 12 = f 12 := hg3_12.trans rfl
    have hr3_13 : f3 13 = f 13 := hg3_13.trans rfl
    have hr3_14 : f3 14 = f 14 := hg3_14.trans rfl
    have hr3_15 : f3 15 = f 15 := hg3_15.trans rfl
    have hr3_7 : f3 7 = f 7 := hg3_7.trans rfl
    have hr3_8 : f3 8 = f 8 := hg3_8.trans rfl
    have hr3_9 : f3 9 = f 9 := hg3_9.trans rfl
    have hr3_10 : f3 10 = f 10 := hg3_10.trans rfl
    have hr3_11 : f3 11 = f 11 := hg3_11.trans rfl
    have hu4_1 := hv3.2.1
    have hu4_2 := hv3.2.2.1
    have hb_12 := by2.2
    have sq3_0 : (v3 0).toInt = (v 0).toInt := by2.1.1
    have sq3_3 : (v3 3).toInt = (v 3).toInt := by2.1.2.1
    have sq3_4 : (v3 4).toInt = (v 4).toInt := by2.1.2.2.1
    have sq3_5 : (v3 5).toInt = (v 5).toInt := by2.1.2.2.2.1
    have sq3_6 : (v3 6).toInt = (v 6).toInt := by2.1.2.2.2.2.1
    have sp3 := by2.1.2.2.2.2.2
    have ob3 : OB v3 f3 (v 0).toInt (f 0) (f 1) := by2.2
    clear by2
    have k0 : (0 : Int32).toInt = 0 := rfl
    have hp_18 : ∀ L, rp (v 0) (f 0) (f 1) L → rp (v3 0) (f3 0) (f3 1) L := fun L h => rp_fr h (by omega) hr3_0 hr3_1
    refine And.intro (Exists.intro _ md_o) (Exists.intro _ (Exists.intro _ (Exists.intro _ (Exists.intro _ (And.intro (U_X11_laysFrom D v3 f3 hv3 hf3 (0 : Int32) x1 (by omega) (by omega) (by omega) (by omega)) (And.intro rfl (fun r9 A9 h9 => ?_)))))))
    obtain ⟨v6, f6, rfl, rfl, hv6, hf6, hx6, hg6_0, hg6_1, hg6_3, hg6_4, hg6_12, hg6_13, hg6_14, hg6_15, hg6_7, hg6_8, hg6_9, hg6_10, hg6_11, by5⟩ := h9
    have hw6 : f6 2 = f 2 := hx6.trans hw3
    have hr6_0 : f6 0 = f 0 := hg6_0.trans hr3_0
    have hr6_1 : f6 1 = f 1 := hg6_1.trans hr3_1
    have hr6_12 : f6 12 = f 12 := hg6_12.trans hr3_12
    have hr6_13 : f6 13 = f 13 := hg6_13.trans hr3_13
    have hr6_14 : f6 14 = f 14 := hg6_14.trans hr3_14
    have hr6_15 : f6 15 = f 15 := hg6_15.trans hr3_15
    have hr6_7 : f6 7 = f 7 := hg6_7.trans hr3_7
    have hr6_8 : f6 8 = f 8 := hg6_8.trans hr3_8
    have hr6_9 : f6 9 = f 9 := hg6_9.trans hr3_9
    have hr6_10 : f6 10 = f 10 := hg6_10.trans hr3_10
    have hr6_11 : f6 11 = f 11 := hg6_11.trans hr3_11
    have hu7_2 := hv6.2.2.1
    have hb_18 := by5.2
    have sq6_0 : (v6 0).toInt = (v 0).toInt := by5.1.1.trans sq3_0
    have sq6_1 : (v6 1).toInt = (v3 1).toInt := by5.1.2.1
    have sq6_3 : (v6 3).toInt = (v 3).toInt := by5.1.2.2.1.trans sq3_3
    have sq6_4 : (v6 4).toInt = (v 4).toInt := by5.1.2.2.2.1.trans sq3_4
    have sq6_5 : (v6 5).toInt = (v 5).toInt := by5.1.2.2.2.2.1.trans sq3_5
    have sq6_6 : (v6 6).toInt = (v 6).toInt := by5.1.2.2.2.2.2.1.trans sq3_6
    have sp6 := by5.1.2.2.2.2.2.2
    have ob6 : OB v6 f6 (v 0).toInt (f 0) (f 1) := OB_fr ob3 (by omega) hg6_3 hg6_4
    clear by5
    intro m8 em_24
    try have e8 : m8.toInt = (x2).toInt + (1) := by rw [em_24]; exact pm_addc _ _ (1) rfl (by omega) (by omega)
    refine Exists.intro _ (And.intro md_o ?_)
    have hp_29 : ∀ L, rp (v 0) (f 0) (f 1) L → rp (v6 0) (f6 0) (f6 1) L := fun L h => rp_fr h (by omega) hr6_0 hr6_1
    refine And.intro (Exists.intro _ md_o) (Exists.intro _ (Exists.intro _ (Exists.intro _ (Exists.intro _ (And.intro (U_X11_laysFrom D v6 f6 hv6 hf6 m8 (v6 0) (by omega) (by omega) (by omega) (by omega)) (And.intro rfl (fun r9 A9 h9 => ?_)))))))
    obtain ⟨v10, f10, rfl, rfl, hv10, hf10, hx10, hg10_0, hg10_1, hg10_3, hg10_4, hg10_12, hg10_13, hg10_14, hg10_15, hg10_7, hg10_8, hg10_9, hg10_10, hg10_11, by9⟩ := h9
    have hw10 : f10 2 = f 2 := hx10.trans hw6
    have hr10_0 : f10 0 = f 0 := hg10_0.trans hr6_0
    have hr10_1 : f10 1 = f 1 := hg10_1.trans hr6_1
    have hr10_12 : f10 12 = f 12 := hg10_12.trans hr6_12
    have hr10_13 : f10 13 = f 13 := hg10_13.trans hr6_13
    have hr10_14 : f10 14 = f 14 := hg10_14.trans hr6_14
    have hr10_15 : f10 15 = f 15 := hg10_15.trans hr6_15
    have hr10_7 : f10 7 = f 7 := hg10_7.trans hr6_7
    have hr10_8 : f10 8 = f 8 := hg10_8.trans hr6_8
    have hr10_9 : f10 9 = f 9 := hg10_9.trans hr6_9
    have hr10_10 : f10 10 = f 10 := hg10_10.trans hr6_10
    have hr10_11 : f10 11 = f 11 := hg10_11.trans hr6_11
    have hu11_2 := hv10.2.2.1
    have hb_29 := by9.2
    have sq10_0 : (v10 0).toInt = (v 0).toInt := by9.1.1.trans sq6_0
    have sq10_1 : (v10 1).toInt = (v3 1).toInt := by9.1.2.1.trans sq6_1
    have sq10_3 : (v10 3).toInt = (v 3).toInt := by9.1.2.2.1.trans sq6_3
    have sq10_4 : (v10 4).toInt = (v 4).toInt := by9.1.2.2.2.1.trans sq6_4
    have sq10_5 : (v10 5).toInt = (v 5).toInt := by9.1.2.2.2.2.1.trans sq6_5
    have sq10_6 : (v10 6).toInt = (v 6).toInt := by9.1.2.2.2.2.2.1.trans sq6_6
    have sp10 := by9.1.2.2.2.2.2.2
    have ob10 : OB v10 f10 (v 0).toInt (f 0) (f 1) := OB_fr ob6 (by omega) hg10_3 hg10_4
    clear by9
    refine And.intro (Exists.intro _ md_o) (Exists.intro _ (Exists.intro _ (Exists.intro _ (Exists.intro _ (And.intro (U_X11_ends D v10 f10 hv10 hf10  (by omega)) (And.intro rfl (fun r9 A9 h9 => ?_)))))))
    obtain ⟨y12, v13, f13, rfl, rfl, hv13, hf13, hx13, hg13_7, hg13_8, hg13_9, hg13_10, hg13_11, by12⟩ := h9
    have hw13 : f13 2 = f 2 := hx13.trans hw10
    have hr13_7 : f13 7 = f 7 := hg13_7.trans hr10_7
    have hr13_8 : f13 8 = f 8 := hg13_8.trans hr10_8
    have hr13_9 : f13 9 = f 9 := hg13_9.trans hr10_9
    have hr13_10 : f13 10 = f 10 := hg13_10.trans hr10_10
    have hr13_11 : f13 11 = f 11 := hg13_11.trans hr10_11
    have hu14_0 := hv13.1
    have hu14_4 := hv13.2.2.2.2.1
    have hb_33 := by12.2.1
    have sq13_1 : (v13 1).toInt = (v3 1).toInt := by12.1.1.trans sq10_1
    have sq13_2 : (v13 2).toInt = (v10 2).toInt := by12.1.2.1
    have sq13_3 : (v13 3).toInt = (v 3).toInt := by12.1.2.2.1.trans sq10_3
    have sq13_6 : (v13 6).toInt = (v 6).toInt := by12.1.2.2.2.1.trans sq10_6
    have sp13 := by12.1.2.2.2.2
    have hm_9 := HM_fr by12.2.2.1 hr10_12 hr10_13 hr10_14 hr10_15
    have ha_9 := by12.2.2.2.1 _ _ _ ob10
    have h5_9 := by12.2.2.2.2
    clear by12
    exact ⟨rfl, fun e9 => absurd e9 (by decide), rfl, y12, v13, f13, rfl, rfl, hv13, hf13, hw13, hr13_7, hr13_8, hr13_9, hr13_10, hr13_11, by first | omega | (dsimp only; omega) | trivial, by refine ⟨?_, ?_, ?_⟩; (intro L hL; have hl := hL.1; rw [ed_cut, if_pos (by omega)]; have t1 := hb_18 L [] (0) (x1.toInt) (hp_18 L hL) (by omega) (by omega) (by omega) (by omega) (rp_0 (by omega)); have t2 := hb_29 L _ (x2.toInt + 1) (L.length) (hp_29 L hL) (by omega) (by omega) (by omega) (by omega) t1; rw [List.nil_append] at t2; exact ⟨hb_33 _ t2, by show _ = _ + (1 : Int); omega, by show _ = _ + (1 : Int) * _; omega⟩); (first | (exact Or.inr ⟨by omega, hm_9⟩) | (exact Or.inl ⟨by omega, hr_missing, hr_missing, hr_missing, hr_missing⟩)); (first | (exact hq_9) | (exact Or.inr ⟨by omega, ha_9, h5_9.trans (by congr 1; exact pm_eqI (by omega))⟩) | (exact Or.inl ⟨rfl, rfl, rfl⟩))⟩
  · skip
    have k0 : (0 : Int32).toInt = 0 := rfl
    refine And.intro (fun c9 => absurd c9 (by decide)) (fun _ => ?_)
    have km1 : (-1 : Int32).toInt = -1 := rfl
    exact ⟨rfl, fun e9 => absurd e9 (by decide), rfl, (-1 : Int32), v, f, rfl, rfl, hv, hf, rfl, rfl, rfl, rfl, rfl, rfl, by first | omega | (dsimp only; omega) | trivial, by refine ⟨?_, ?_, ?_⟩; (intro L hL; have hl := hL.1; rw [ed_cut, if_neg (by omega)]; exact ⟨hL, by show _ = _ + (0 : Int); omega, by show _ = _ + (0 : Int) * _; omega⟩); (first | (exact Or.inr ⟨by omega, hm_9⟩) | (exact Or.inl ⟨by omega, rfl, rfl, rfl, rfl⟩)); (first | (exact hq_9) | (exact Or.inr ⟨by omega, ha_9, h5_9.trans (by congr 1; exact pm_eqI (by omega))⟩) | (exact Or.inl ⟨rfl, rfl, rfl⟩))⟩

end
end
section
section
variable {l : Launch} {g : pm_G} {A0 : pm_H} {h : Nat} {q : Nat → Nat}
set_option maxRecDepth 100000 in
set_option maxHeartbeats 2000000 in
theorem U_X11_shift (D : md_D h q) (v : Nat → Int32) (f : Nat → Nat → Int32) (hv : md_V v) (hf : md_F f) (x1 : Int32) (x2 : Int32) (x3 : Int32) (p0 : (v 4).toInt < 100000) : pm_Mt l g 189 4 0 0 [.ref h, .int x1, .int x2, .int x3] (md A0 g h q v f) (md_Qw A0 g h q f (fun r v2 f2 => f2 7 = f 7 ∧ f2 8 = f 8 ∧ f2 9 = f 9 ∧ f2 10 = f 10 ∧ f2 11 = f 11 ∧ ((v2 6).toInt = (v 6).toInt ∧ (v2 4).toInt ≤ (v 4).toInt + 1 ∧ (v 4).toInt ≤ (v2 4).toInt) ∧ ((∀ L, rp (v 0) (f 0) (f 1) L → rp (v2 0) (f2 0) (f2 1) ((ed_shift L x1 x2 x3).getD L) ∧ (v2 4).toInt = (v 4).toInt + edn (ed_shift L x1 x2 x3) ∧ (v2 3).toInt = (v 3).toInt + edn (ed_shift L x1 x2 x3) * (0)) ∧ (HMe (v 4).toInt f v2 f2 r.toInt) ∧ (((v2 4).toInt = (v 4).toInt ∧ r.toInt = -1 ∧ v2 5 = v 5) ∨ ((v2 4).toInt = (v 4).toInt + 1 ∧ r.toInt = (tcN (v 0).toInt (f 0) (f 1) (f2 0) (f2 1) (v2 0).toInt.toNat : Int) ∧ v2 5 = v 5 + r))))) := by
  refine mt_X11_shift rfl (fun J hC => ?_)
  have hv9 := hv
  unfold md_V at hv9
  have rg_x1 := pm_rng x1
  have rg_x2 := pm_rng x2
  have rg_x3 := pm_rng x3
  refine hC.1 0 0 _ _ rfl _ _ _ _ _ ?_
  refine And.intro (Exists.intro _ md_o) (Exists.intro _ (Exists.intro _ (Exists.intro _ (Exists.intro _ (And.intro (c_X11_isSpan D v f hv hf x1 x2 ) (And.intro rfl (fun r9 A9 h9 => ?_)))))))
  rcases h9 with ⟨y1, rfl, rfl, ⟨rfl, by1⟩ | ⟨rfl, by1⟩⟩
  · skip
    have k1 : (1 : Int32).toInt = 1 := rfl
    refine And.intro (fun c9 => absurd c9 (by decide)) (fun _ => ?_)
    have k0 : (0 : Int32).toInt = 0 := rfl
    intro m2 em_13
    try have e2 : m2.toInt = (x2).toInt - (x1).toInt := by rw [em_13]; exact pm_sub _ _ (by omega) (by omega)
    intro m3 em_15
    try have e3 : m3.toInt = (m2).toInt + (1) := by rw [em_15]; exact pm_addc _ _ (1) rfl (by omega) (by omega)
    refine Exists.intro _ (Exists.intro _ (Exists.intro _ (Exists.intro _ (And.intro (c_X11_isIn (md A0 g h q v f) x3 (0 : Int32) m3 ) (And.intro rfl (fun r9 A9 h9 => ?_))))))
    rcases h9 with ⟨y4, rfl, rfl, ⟨rfl, by4⟩ | ⟨rfl, by4⟩⟩
    · skip
      refine And.intro (fun _ => ?_) (fun c9 => absurd c9 (by decide))
      refine hC.1 2 24 _ _ rfl _ _ _ _ _ ?_
      refine And.intro (Exists.intro _ md_o) (Exists.intro _ (Exists.intro _ (Exists.intro _ (Exists.intro _ (And.intro (U_X11_begins D v f hv hf  ) (And.intro rfl (fun r9 A9 h9 => ?_)))))))
      obtain ⟨v6, f6, rfl, rfl, hv6, hf6, hx6, hg6_0, hg6_1, hg6_12, hg6_13, hg6_14, hg6_15, hg6_7, hg6_8, hg6_9, hg6_10, hg6_11, by5⟩ := h9
      have hw6 : f6 2 = f 2 := hx6.trans rfl
      have hr6_0 : f6 0 = f 0 := hg6_0.trans rfl
      have hr6_1 : f6 1 = f 1 := hg6_1.trans rfl
      have hr6_12 : f6 12 = f 12 := hg6_12.trans rfl
      have hr6_13 : f6 13 = f 13 := hg6_13.trans rfl
      have hr6_14 : f6 14 = f 14 := hg6_14.trans rfl
      have hr6_15 : f6 15 = f 15 := hg6_15.trans rfl
      have hr6_7 : f6 7 = f 7 := hg6_7.trans rfl
      have hr6_8 : f6 8 = f 8 := hg6_8.trans rfl
      have hr6_9 : f6 9 = f 9 := hg6_9.trans rfl
      have hr6_10 : f6 10 = f 10 := hg6_10.trans rfl
      have hr6_11 : f6 11 = f 11 := hg6_11.trans rfl
      have hu7_1 := hv6.2.1
      have hu7_2 := hv6.2.2.1
      have hb_25 := by5.2
      have sq6_0 : (v6 0).toInt = (v 0).toInt := by5.1.1
      have sq6_3 : (v6 3).toInt = (v 3).toInt := by5.1.2.1
      have sq6_4 : (v6 4).toInt = (v 4).toInt := by5.1.2.2.1
      have sq6_5 : (v6 5).toInt = (v 5).toInt := by5.1.2.2.2.1
      have sq6_6 : (v6 6).toInt = (v 6).toInt := by5.1.2.2.2.2.1
      have sp6 := by5.1.2.2.2.2.2
      have ob6 : OB v6 f6 (v 0).toInt (f 0) (f 1) := by5.2
      clear by5
      have hp_31 : ∀ L, rp (v 0) (f 0) (f 1) L → rp (v6 0) (f6 0) (f6 1) L := fun L h => rp_fr h (by omega) hr6_0 hr6_1
      refine And.intro (Exists.intro _ md_o) (Exists.intro _ (Exists.intro _ (Exists.intro _ (Exists.intro _ (And.intro (U_X11_laysFrom D v6 f6 hv6 hf6 (0 : Int32) x1 (by omega) (by omega) (by omega) (by omega)) (And.intro rfl (fun r9 A9 h9 => ?_)))))))
      obtain ⟨v9, f9, rfl, rfl, hv9, hf9, hx9, hg9_0, hg9_1, hg9_3, hg9_4, hg9_12, hg9_13, hg9_14, hg9_15, hg9_7, hg9_8, hg9_9, hg9_10, hg9_11, by8⟩ := h9
      have hw9 : f9 2 = f 2 := hx9.trans hw6
      have hr9_0 : f9 0 = f 0 := hg9_0.trans hr6_0
      have hr9_1 : f9 1 = f 1 := hg9_1.trans hr6_1
      have hr9_12 : f9 12 = f 12 := hg9_12.trans hr6_12
      have hr9_13 : f9 13 = f 13 := hg9_13.trans hr6_13
      have hr9_14 : f9 14 = f 14 := hg9_14.trans hr6_14
      have hr9_15 : f9 15 = f 15 := hg9_15.trans hr6_15
      have hr9_7 : f9 7 = f 7 := hg9_7.trans hr6_7
      have hr9_8 : f9 8 = f 8 := hg9_8.trans hr6_8
      have hr9_9 : f9 9 = f 9 := hg9_9.trans hr6_9
      have hr9_10 : f9 10 = f 10 := hg9_10.trans hr6_10
      have hr9_11 : f9 11 = f 11 := hg9_11.trans hr6_11
      have hu10_2 := hv9.2.2.1
      have hb_31 := by8.2
      have sq9_0 : (v9 0).toInt = (v 0).toInt := by8.1.1.trans sq6_0
      have sq9_1 : (v9 1).toInt = (v6 1).toInt := by8.1.2.1
      have sq9_3 : (v9 3).toInt = (v 3).toInt := by8.1.2.2.1.trans sq6_3
      have sq9_4 : (v9 4).toInt = (v 4).toInt := by8.1.2.2.2.1.trans sq6_4
      have sq9_5 : (v9 5).toInt = (v 5).toInt := by8.1.2.2.2.2.1.trans sq6_5
      have sq9_6 : (v9 6).toInt = (v 6).toInt := by8.1.2.2.2.2.2.1.trans sq6_6
      have sp9 := by8.1.2.2.2.2.2.2
      have ob9 : OB v9 f9 (v 0).toInt (f 0) (f 1) := OB_fr ob6 (by omega) hg9_3 hg9_4
      clear by8
      intro m11 em_37
      try have e11 : m11.toInt = (x1).toInt + (x3).toInt := by rw [em_37]; exact pm_add _ _ (by omega) (by omega)
      intro m12 em_40
      try have e12 : m12.toInt = (x2).toInt + (1) := by rw [em_40]; exact pm_addc _ _ (1) rfl (by omega) (by omega)
      have hp_41 : ∀ L, rp (v 0) (f 0) (f 1) L → rp (v9 0) (f9 0) (f9 1) L := fun L h => rp_fr h (by omega) hr9_0 hr9_1
      refine And.intro (Exists.intro _ md_o) (Exists.intro _ (Exists.intro _ (Exists.intro _ (Exists.intro _ (And.intro (U_X11_laysFrom D v9 f9 hv9 hf9 m11 m12 (by omega) (by omega) (by omega) (by omega)) (And.intro rfl (fun r9 A9 h9 => ?_)))))))
      obtain ⟨v14, f14, rfl, rfl, hv14, hf14, hx14, hg14_0, hg14_1, hg14_3, hg14_4, hg14_12, hg14_13, hg14_14, hg14_15, hg14_7, hg14_8, hg14_9, hg14_10, hg14_11, by13⟩ := h9
      have hw14 : f14 2 = f 2 := hx14.trans hw9
      have hr14_0 : f14 0 = f 0 := hg14_0.trans hr9_0
      have hr14_1 : f14 1 = f 1 := hg14_1.trans hr9_1
      have hr14_12 : f14 12 = f 12 := hg14_12.trans hr9_12
      have hr14_13 : f14 13 = f 13 := hg14_13.trans hr9_13
      have hr14_14 : f14 14 = f 14 := hg14_14.trans hr9_14
      have hr14_15 : f14 15 = f 15 := hg14_15.trans hr9_15
      have hr14_7 : f14 7 = f 7 := hg14_7.trans hr9_7
      have hr14_8 : f14 8 = f 8 := hg14_8.trans hr9_8
      have hr14_9 : f14 9 = f 9 := hg14_9.trans hr9_9
      have hr14_10 : f14 10 = f 10 := hg14_10.trans hr9_10
      have hr14_11 : f14 11 = f 11 := hg14_11.trans hr9_11
      have hu15_2 := hv14.2.2.1
      have hb_41 := by13.2
      have sq14_0 : (v14 0).toInt = (v 0).toInt := by13.1.1.trans sq9_0
      have sq14_1 : (v14 1).toInt = (v6 1).toInt := by13.1.2.1.trans sq9_1
      have sq14_3 : (v14 3).toInt = (v 3).toInt := by13.1.2.2.1.trans sq9_3
      have sq14_4 : (v14 4).toInt = (v 4).toInt := by13.1.2.2.2.1.trans sq9_4
      have sq14_5 : (v14 5).toInt = (v 5).toInt := by13.1.2.2.2.2.1.trans sq9_5
      have sq14_6 : (v14 6).toInt = (v 6).toInt := by13.1.2.2.2.2.2.1.trans sq9_6
      have sp14 := by13.1.2.2.2.2.2.2
      have ob14 : OB v14 f14 (v 0).toInt (f 0) (f 1) := OB_fr ob9 (by omega) hg14_3 hg14_4
      clear by13
      intro m16 em_48
      try have e16 : m16.toInt = (x1).toInt + (x3).toInt := by rw [em_48]; exact pm_add _ _ (by omega) (by omega)
      have hp_49 : ∀ L, rp (v 0) (f 0) (f 1) L → rp (v14 0) (f14 0) (f14 1) L := fun L h => rp_fr h (by omega) hr14_0 hr14_1
      refine And.intro (Exists.intro _ md_o) (Exists.intro _ (Exists.intro _ (Exists.intro _ (Exists.intro _ (And.intro (U_X11_laysFrom D v14 f14 hv14 hf14 x1 m16 (by omega) (by omega) (by omega) (by omega)) (And.intro rfl (fun r9 A9 h9 => ?_)))))))
      obtain ⟨v18, f18, rfl, rfl, hv18, hf18, hx18, hg18_0, hg18_1, hg18_3, hg18_4, hg18_12, hg18_13, hg18_14, hg18_15, hg18_7, hg18_8, hg18_9, hg18_10, hg18_11, by17⟩ := h9
      have hw18 : f18 2 = f 2 := hx18.trans hw14
      have hr18_0 : f18 0 = f 0 := hg18_0.trans hr14_0
      have hr18_1 : f18 1 = f 1 := hg18_1.trans hr14_1
      have hr18_12 : f18 12 = f 12 := hg18_12.trans hr14_12
      have hr18_13 : f18 13 = f 13 := hg18_13.trans hr14_13
      have hr18_14 : f18 14 = f 14 := hg18_14.trans hr14_14
      have hr18_15 : f18 15 = f 15 := hg18_15.trans hr14_15
      have hr18_7 : f18 7 = f 7 := hg18_7.trans hr14_7
      have hr18_8 : f18 8 = f 8 := hg18_8.trans hr14_8
      have hr18_9 : f18 9 = f 9 := hg18_9.trans hr14_9
      have hr18_10 : f18 10 = f 10 := hg18_10.trans hr14_10
      have hr18_11 : f18 11 = f 11 := hg18_11.trans hr14_11
      have hu19_2 := hv18.2.2.1
      have hb_49 := by17.2
      have sq18_0 : (v18 0).toInt = (v 0).toInt := by17.1.1.trans sq14_0
      have sq18_1 : (v18 1).toInt = (v6 1).toInt := by17.1.2.1.trans sq14_1
      have sq18_3 : (v18 3).toInt = (v 3).toInt := by17.1.2.2.1.trans sq14_3
      have sq18_4 : (v18 4).toInt = (v 4).toInt := by17.1.2.2.2.1.trans sq14_4
      have sq18_5 : (v18 5).toInt = (v 5).toInt := by17.1.2.2.2.2.1.trans sq14_5
      have sq18_6 : (v18 6).toInt = (v 6).toInt := by17.1.2.2.2.2.2.1.trans sq14_6
      have sp18 := by17.1.2.2.2.2.2.2
      have ob18 : OB v18 f18 (v 0).toInt (f 0) (f 1) := OB_fr ob14 (by omega) hg18_3 hg18_4
      clear by17
      intro m20 em_55
      try have e20 : m20.toInt = (x2).toInt + (1) := by rw [em_55]; exact pm_addc _ _ (1) rfl (by omega) (by omega)
      refine Exists.intro _ (And.intro md_o ?_)
      have hp_60 : ∀ L, rp (v 0) (f 0) (f 1) L → rp (v18 0) (f18 0) (f18 1) L := fun L h => rp_fr h (by omega) hr18_0 hr18_1
      refine And.intro (Exists.intro _ md_o) (Exists.intro _ (Exists.intro _ (Exists.intro _ (Exists.intro _ (And.intro (U_X11_laysFrom D v18 f18 hv18 hf18 m20 (v18 0) (by omega) (by omega) (by omega) (by omega)) (And.intro rfl (fun r9 A9 h9 => ?_)))))))
      obtain ⟨v22, f22, rfl, rfl, hv22, hf22, hx22, hg22_0, hg22_1, hg22_3, hg22_4, hg22_12, hg22_13, hg22_14, hg22_15, hg22_7, hg22_8, hg22_9, hg22_10, hg22_11, by21⟩ := h9
      have hw22 : f22 2 = f 2 := hx22.trans hw18
      have hr22_0 : f22 0 = f 0 := hg22_0.trans hr18_0
      have hr22_1 : f22 1 = f 1 := hg22_1.trans hr18_1
      have hr22_12 : f22 12 = f 12 := hg22_12.trans hr18_12
      have hr22_13 : f22 13 = f 13 := hg22_13.trans hr18_13
      have hr22_14 : f22 14 = f 14 := hg22_14.trans hr18_14
      have hr22_15 : f22 15 = f 15 := hg22_15.trans hr18_15
      have hr22_7 : f22 7 = f 7 := hg22_7.trans hr18_7
      have hr22_8 : f22 8 = f 8 := hg22_8.trans hr18_8
      have hr22_9 : f22 9 = f 9 := hg22_9.trans hr18_9
      have hr22_10 : f22 10 = f 10 := hg22_10.trans hr18_10
      have hr22_11 : f22 11 = f 11 := hg22_11.trans hr18_11
      have hu23_2 := hv22.2.2.1
      have hb_60 := by21.2
      have sq22_0 : (v22 0).toInt = (v 0).toInt := by21.1.1.trans sq18_0
      have sq22_1 : (v22 1).toInt = (v6 1).toInt := by21.1.2.1.trans sq18_1
      have sq22_3 : (v22 3).toInt = (v 3).toInt := by21.1.2.2.1.trans sq18_3
      have sq22_4 : (v22 4).toInt = (v 4).toInt := by21.1.2.2.2.1.trans sq18_4
      have sq22_5 : (v22 5).toInt = (v 5).toInt := by21.1.2.2.2.2.1.trans sq18_5
      have sq22_6 : (v22 6).toInt = (v 6).toInt := by21.1.2.2.2.2.2.1.trans sq18_6
      have sp22 := by21.1.2.2.2.2.2.2
      have ob22 : OB v22 f22 (v 0).toInt (f 0) (f 1) := OB_fr ob18 (by omega) hg22_3 hg22_4
      clear by21
      refine And.intro (Exists.intro _ md_o) (Exists.intro _ (Exists.intro _ (Exists.intro _ (Exists.intro _ (And.intro (U_X11_ends D v22 f22 hv22 hf22  (by omega)) (And.intro rfl (fun r9 A9 h9 => ?_)))))))
      obtain ⟨y24, v25, f25, rfl, rfl, hv25, hf25, hx25, hg25_7, hg25_8, hg25_9, hg25_10, hg25_11, by24⟩ := h9
      have hw25 : f25 2 = f 2 := hx25.trans hw22
      have hr25_7 : f25 7 = f 7 := hg25_7.trans hr22_7
      have hr25_8 : f25 8 = f 8 := hg25_8.trans hr22_8
      have hr25_9 : f25 9 = f 9 := hg25_9.trans hr22_9
      have hr25_10 : f25 10 = f 10 := hg25_10.trans hr22_10
      have hr25_11 : f25 11 = f 11 := hg25_11.trans hr22_11
      have hu26_0 := hv25.1
      have hu26_4 := hv25.2.2.2.2.1
      have hb_64 := by24.2.1
      have sq25_1 : (v25 1).toInt = (v6 1).toInt := by24.1.1.trans sq22_1
      have sq25_2 : (v25 2).toInt = (v22 2).toInt := by24.1.2.1
      have sq25_3 : (v25 3).toInt = (v 3).toInt := by24.1.2.2.1.trans sq22_3
      have sq25_6 : (v25 6).toInt = (v 6).toInt := by24.1.2.2.2.1.trans sq22_6
      have sp25 := by24.1.2.2.2.2
      have hm_9 := HM_fr by24.2.2.1 hr22_12 hr22_13 hr22_14 hr22_15
      have ha_9 := by24.2.2.2.1 _ _ _ ob22
      have h5_9 := by24.2.2.2.2
      clear by24
      exact ⟨rfl, fun e9 => absurd e9 (by decide), rfl, y24, v25, f25, rfl, rfl, hv25, hf25, hw25, hr25_7, hr25_8, hr25_9, hr25_10, hr25_11, by first | omega | (dsimp only; omega) | trivial, by refine ⟨?_, ?_, ?_⟩; (intro L hL; have hl := hL.1; rw [ed_shift, if_pos (by omega)]; have t1 := hb_31 L [] (0) (x1.toInt) (hp_31 L hL) (by omega) (by omega) (by omega) (by omega) (rp_0 (by omega)); have t2 := hb_41 L _ (x1.toInt + x3.toInt) (x2.toInt + 1) (hp_41 L hL) (by omega) (by omega) (by omega) (by omega) t1; have t3 := hb_49 L _ (x1.toInt) (x1.toInt + x3.toInt) (hp_49 L hL) (by omega) (by omega) (by omega) (by omega) t2; have t4 := hb_60 L _ (x2.toInt + 1) (L.length) (hp_60 L hL) (by omega) (by omega) (by omega) (by omega) t3; rw [List.nil_append] at t4; exact ⟨hb_64 _ t4, by show _ = _ + (1 : Int); omega, by show _ = _ + (1 : Int) * _; omega⟩); (first | (exact Or.inr ⟨by omega, hm_9⟩) | (exact Or.inl ⟨by omega, hr_missing, hr_missing, hr_missing, hr_missing⟩)); (first | (exact hq_9) | (exact Or.inr ⟨by omega, ha_9, h5_9.trans (by congr 1; exact pm_eqI (by omega))⟩) | (exact Or.inl ⟨rfl, rfl, rfl⟩))⟩
    · skip
      refine And.intro (fun c9 => absurd c9 (by decide)) (fun _ => ?_)
      refine hC.1 1 22 _ _ rfl _ _ _ _ _ ?_
      have km1 : (-1 : Int32).toInt = -1 := rfl
      exact ⟨rfl, fun e9 => absurd e9 (by decide), rfl, (-1 : Int32), v, f, rfl, rfl, hv, hf, rfl, rfl, rfl, rfl, rfl, rfl, by first | omega | (dsimp only; omega) | trivial, by refine ⟨?_, ?_, ?_⟩; (intro L hL; have hl := hL.1; rw [ed_shift, if_neg (by omega)]; exact ⟨hL, by show _ = _ + (0 : Int); omega, by show _ = _ + (0 : Int) * _; omega⟩); (first | (exact Or.inr ⟨by omega, hm_9⟩) | (exact Or.inl ⟨by omega, rfl, rfl, rfl, rfl⟩)); (first | (exact hq_9) | (exact Or.inr ⟨by omega, ha_9, h5_9.trans (by congr 1; exact pm_eqI (by omega))⟩) | (exact Or.inl ⟨rfl, rfl, rfl⟩))⟩
  · skip
    have k0 : (0 : Int32).toInt = 0 := rfl
    refine And.intro (fun _ => ?_) (fun c9 => absurd c9 (by decide))
    refine hC.1 1 22 _ _ rfl _ _ _ _ _ ?_
    have km1 : (-1 : Int32).toInt = -1 := rfl
    exact ⟨rfl, fun e9 => absurd e9 (by decide), rfl, (-1 : Int32), v, f, rfl, rfl, hv, hf, rfl, rfl, rfl, rfl, rfl, rfl, by first | omega | (dsimp only; omega) | trivial, by refine ⟨?_, ?_, ?_⟩; (intro L hL; have hl := hL.1; rw [ed_shift, if_neg (by omega)]; exact ⟨hL, by show _ = _ + (0 : Int); omega, by show _ = _ + (0 : Int) * _; omega⟩); (first | (exact Or.inr ⟨by omega, hm_9⟩) | (exact Or.inl ⟨by omega, rfl, rfl, rfl, rfl⟩)); (first | (exact hq_9) | (exact Or.inr ⟨by omega, ha_9, h5_9.trans (by congr 1; exact pm_eqI (by omega))⟩) | (exact Or.inl ⟨rfl, rfl, rfl⟩))⟩

set_option maxRecDepth 100000 in
set_option maxHeartbeats 2000000 in
theorem U_X11_turn (D : md_D h q) (v : Nat → Int32) (f : Nat → Nat → Int32) (hv : md_V v) (hf : md_F f) (x1 : Int32) (x2 : Int32) (p0 : (v 4).toInt < 100000) : pm_Mt l g 188 4 0 0 [.ref h, .int x1, .int x2] (md A0 g h q v f) (md_Qw A0 g h q f (fun r v2 f2 => f2 7 = f 7 ∧ f2 8 = f 8 ∧ f2 9 = f 9 ∧ f2 10 = f 10 ∧ f2 11 = f 11 ∧ ((v2 6).toInt = (v 6).toInt ∧ (v2 4).toInt ≤ (v 4).toInt + 1 ∧ (v 4).toInt ≤ (v2 4).toInt) ∧ ((∀ L, rp (v 0) (f 0) (f 1) L → rp (v2 0) (f2 0) (f2 1) ((ed_turn L x1 x2).getD L) ∧ (v2 4).toInt = (v 4).toInt + edn (ed_turn L x1 x2) ∧ (v2 3).toInt = (v 3).toInt + edn (ed_turn L x1 x2) * (0)) ∧ (HMe (v 4).toInt f v2 f2 r.toInt) ∧ (((v2 4).toInt = (v 4).toInt ∧ r.toInt = -1 ∧ v2 5 = v 5) ∨ ((v2 4).toInt = (v 4).toInt + 1 ∧ r.toInt = (tcN (v 0).toInt (f 0) (f 1) (f2 0) (f2 1) (v2 0).toInt.toNat : Int) ∧ v2 5 = v 5 + r))))) := by
  refine mt_X11_turn rfl (fun J hC => ?_)
  have hv9 := hv
  unfold md_V at hv9
  have rg_x1 := pm_rng x1
  have rg_x2 := pm_rng x2
  refine hC.1 0 0 _ _ rfl _ _ _ _ _ ?_
  refine And.intro (Exists.intro _ md_o) (Exists.intro _ (Exists.intro _ (Exists.intro _ (Exists.intro _ (And.intro (c_X11_isSpan D v f hv hf x1 x2 ) (And.intro rfl (fun r9 A9 h9 => ?_)))))))
  rcases h9 with ⟨y1, rfl, rfl, ⟨rfl, by1⟩ | ⟨rfl, by1⟩⟩
  · skip
    have k1 : (1 : Int32).toInt = 1 := rfl
    refine And.intro (fun _ => ?_) (fun c9 => absurd c9 (by decide))
    refine hC.1 1 11 _ _ rfl _ _ _ _ _ ?_
    refine And.intro (Exists.intro _ md_o) (Exists.intro _ (Exists.intro _ (Exists.intro _ (Exists.intro _ (And.intro (U_X11_begins D v f hv hf  ) (And.intro rfl (fun r9 A9 h9 => ?_)))))))
    obtain ⟨v3, f3, rfl, rfl, hv3, hf3, hx3, hg3_0, hg3_1, hg3_12, hg3_13, hg3_14, hg3_15, hg3_7, hg3_8, hg3_9, hg3_10, hg3_11, by2⟩ := h9
    have hw3 : f3 2 = f 2 := hx3.trans rfl
    have hr3_0 : f3 0 = f 0 := hg3_0.trans rfl
    have hr3_1 : f3 1 = f 1 := hg3_1.trans rfl
    have hr3_12 : f3 12 = f 12 := hg3_12.trans rfl
    have hr3_13 : f3 13 = f 13 := hg3_13.trans rfl
    have hr3_14 : f3 14 = f 14 := hg3_14.trans rfl
    have hr3_15 : f3 15 = f 15 := hg3_15.trans rfl
    have hr3_7 : f3 7 = f 7 := hg3_7.trans rfl
    have hr3_8 : f3 8 = f 8 := hg3_8.trans rfl
    have hr3_9 : f3 9 = f 9 := hg3_9.trans rfl
    have hr3_10 : f3 10 = f 10 := hg3_10.trans rfl
    have hr3_11 : f3 11 = f 11 := hg3_11.trans rfl
    have hu4_1 := hv3.2.1
    have hu4_2 := hv3.2.2.1
    have hb_12 := by2.2
    have sq3_0 : (v3 0).toInt = (v 0).toInt := by2.1.1
    have sq3_3 : (v3 3).toInt = (v 3).toInt := by2.1.2.1
    have sq3_4 : (v3 4).toInt = (v 4).toInt := by2.1.2.2.1
    have sq3_5 : (v3 5).toInt = (v 5).toInt := by2.1.2.2.2.1
    have sq3_6 : (v3 6).toInt = (v 6).toInt := by2.1.2.2.2.2.1
    have sp3 := by2.1.2.2.2.2.2
    have ob3 : OB v3 f3 (v 0).toInt (f 0) (f 1) := by2.2
    clear by2
    have k0 : (0 : Int32).toInt = 0 := rfl
    have hp_18 : ∀ L, rp (v 0) (f 0) (f 1) L → rp (v3 0) (f3 0) (f3 1) L := fun L h => rp_fr h (by omega) hr3_0 hr3_1
    refine And.intro (Exists.intro _ md_o) (Exists.intro _ (Exists.intro _ (Exists.intro _ (Exists.intro _ (And.intro (U_X11_laysFrom D v3 f3 hv3 hf3 (0 : Int32) x1 (by omega) (by omega) (by omega) (by omega)) (And.intro rfl (fun r9 A9 h9 => ?_)))))))
    obtain ⟨v6, f6, rfl, rfl, hv6, hf6, hx6, hg6_0, hg6_1, hg6_3, hg6_4, hg6_12, hg6_13, hg6_14, hg6_15, hg6_7, hg6_8, hg6_9, hg6_10, hg6_11, by5⟩ := h9
    have hw6 : f6 2 = f 2 := hx6.trans hw3
    have hr6_0 : f6 0 = f 0 := hg6_0.trans hr3_0
    have hr6_1 : f6 1 = f 1 := hg6_1.trans hr3_1
    have hr6_12 : f6 12 = f 12 := hg6_12.trans hr3_12
    have hr6_13 : f6 13 = f 13 := hg6_13.trans hr3_13
    have hr6_14 : f6 14 = f 14 := hg6_14.trans hr3_14
    have hr6_15 : f6 15 = f 15 := hg6_15.trans hr3_15
    have hr6_7 : f6 7 = f 7 := hg6_7.trans hr3_7
    have hr6_8 : f6 8 = f 8 := hg6_8.trans hr3_8
    have hr6_9 : f6 9 = f 9 := hg6_9.trans hr3_9
    have hr6_10 : f6 10 = f 10 := hg6_10.trans hr3_10
    have hr6_11 : f6 11 = f 11 := hg6_11.trans hr3_11
    have hu7_2 := hv6.2.2.1
    have hb_18 := by5.2
    have sq6_0 : (v6 0).toInt = (v 0).toInt := by5.1.1.trans sq3_0
    have sq6_1 : (v6 1).toInt = (v3 1).toInt := by5.1.2.1
    have sq6_3 : (v6 3).toInt = (v 3).toInt := by5.1.2.2.1.trans sq3_3
    have sq6_4 : (v6 4).toInt = (v 4).toInt := by5.1.2.2.2.1.trans sq3_4
    have sq6_5 : (v6 5).toInt = (v 5).toInt := by5.1.2.2.2.2.1.trans sq3_5
    have sq6_6 : (v6 6).toInt = (v 6).toInt := by5.1.2.2.2.2.2.1.trans sq3_6
    have sp6 := by5.1.2.2.2.2.2.2
    have ob6 : OB v6 f6 (v 0).toInt (f 0) (f 1) := OB_fr ob3 (by omega) hg6_3 hg6_4
    clear by5
    have lp9 : ∀ (n : Nat) (z3_23 : Int32) (v8 : Nat → Int32) (f8 : Nat → Nat → Int32), md_V v8 → md_F f8 → f8 2 = f 2 → f8 0 = f 0 → f8 1 = f 1 → f8 12 = f 12 → f8 13 = f 13 → f8 14 = f 14 → f8 15 = f 15 → f8 7 = f 7 → f8 8 = f 8 → f8 9 = f 9 → f8 10 = f 10 → f8 11 = f 11 → OB v8 f8 (v 0).toInt (f 0) (f 1) → (x1.toInt - 1 ≤ z3_23.toInt ∧ z3_23.toInt ≤ x2.toInt) → ((v8 0).toInt = (v 0).toInt ∧ (v8 4).toInt = (v 4).toInt ∧ (v8 3).toInt = (v 3).toInt ∧ (v8 2).toInt = x1.toInt + (x2.toInt - z3_23.toInt) ∧ (v8 5).toInt = (v 5).toInt) → (∀ L, rp (v 0) (f 0) (f 1) L → rp (v8 2) (f8 5) (f8 6) (si L 0 x1.toInt ++ (si L (z3_23.toInt + 1) (x2.toInt + 1)).reverse)) → (v8 6).toInt = (v 6).toInt → z3_23.toInt + 1 < (n : Int) → J 23 [some (.ref h), some (.int x1), some (.int x2), some (.int z3_23)] [] (md A0 g h q v8 f8) 0 0 := by
      intro n
      induction n with
      | zero =>
        intro z3_23 v8 f8 hv8 hf8 hw8 hr8_0 hr8_1 hr8_12 hr8_13 hr8_14 hr8_15 hr8_7 hr8_8 hr8_9 hr8_10 hr8_11 ob8 j0_23 j1_23 j2_23 j3_23 j4_23
        clear hu4_1 hu4_2 sq3_0 sq3_3 sq3_4 sq3_5 sq3_6 sp3 hu7_2 sq6_0 sq6_1 sq6_3 sq6_4 sq6_5 sq6_6 sp6
        omega
      | succ n ih10 =>
        intro z3_23 v8 f8 hv8 hf8 hw8 hr8_0 hr8_1 hr8_12 hr8_13 hr8_14 hr8_15 hr8_7 hr8_8 hr8_9 hr8_10 hr8_11 ob8 j0_23 j1_23 j2_23 j3_23 j4_23
        clear hu4_1 hu4_2 sq3_0 sq3_3 sq3_4 sq3_5 sq3_6 sp3 hu7_2 sq6_0 sq6_1 sq6_3 sq6_4 sq6_5 sq6_6 sp6
        have lr0 := hr8_0
        have lr1 := hr8_1
        refine hC.1 2 23 _ _ rfl _ _ _ _ _ ?_
        have hu11_0 := hv8.1
        have hu11_1 := hv8.2.1
        have hu11_2 := hv8.2.2.1
        have hu11_3 := hv8.2.2.2.1
        have hu11_4 := hv8.2.2.2.2.1
        refine And.intro (fun c12 => ?_) (fun c12 => ?_)
        · skip
          refine hC.1 3 50 _ _ rfl _ _ _ _ _ ?_
          intro m13 em_53
          try have e13 : m13.toInt = (x2).toInt + (1) := by rw [em_53]; exact pm_addc _ _ (1) rfl (by omega) (by omega)
          refine Exists.intro _ (And.intro md_o ?_)
          have hp_58 : ∀ L, rp (v 0) (f 0) (f 1) L → rp (v8 0) (f8 0) (f8 1) L := fun L h => rp_fr h (by omega) hr8_0 hr8_1
          refine And.intro (Exists.intro _ md_o) (Exists.intro _ (Exists.intro _ (Exists.intro _ (Exists.intro _ (And.intro (U_X11_laysFrom D v8 f8 hv8 hf8 m13 (v8 0) (by omega) (by omega) (by omega) (by omega)) (And.intro rfl (fun r9 A9 h9 => ?_)))))))
          obtain ⟨v15, f15, rfl, rfl, hv15, hf15, hx15, hg15_0, hg15_1, hg15_3, hg15_4, hg15_12, hg15_13, hg15_14, hg15_15, hg15_7, hg15_8, hg15_9, hg15_10, hg15_11, by14⟩ := h9
          have hw15 : f15 2 = f 2 := hx15.trans hw8
          have hr15_0 : f15 0 = f 0 := hg15_0.trans hr8_0
          have hr15_1 : f15 1 = f 1 := hg15_1.trans hr8_1
          have hr15_12 : f15 12 = f 12 := hg15_12.trans hr8_12
          have hr15_13 : f15 13 = f 13 := hg15_13.trans hr8_13
          have hr15_14 : f15 14 = f 14 := hg15_14.trans hr8_14
          have hr15_15 : f15 15 = f 15 := hg15_15.trans hr8_15
          have hr15_7 : f15 7 = f 7 := hg15_7.trans hr8_7
          have hr15_8 : f15 8 = f 8 := hg15_8.trans hr8_8
          have hr15_9 : f15 9 = f 9 := hg15_9.trans hr8_9
          have hr15_10 : f15 10 = f 10 := hg15_10.trans hr8_10
          have hr15_11 : f15 11 = f 11 := hg15_11.trans hr8_11
          have hu16_2 := hv15.2.2.1
          have hb_58 := by14.2
          have sq15_0 : (v15 0).toInt = (v8 0).toInt := by14.1.1
          have sq15_1 : (v15 1).toInt = (v8 1).toInt := by14.1.2.1
          have sq15_3 : (v15 3).toInt = (v8 3).toInt := by14.1.2.2.1
          have sq15_4 : (v15 4).toInt = (v8 4).toInt := by14.1.2.2.2.1
          have sq15_5 : (v15 5).toInt = (v8 5).toInt := by14.1.2.2.2.2.1
          have sq15_6 : (v15 6).toInt = (v8 6).toInt := by14.1.2.2.2.2.2.1
          have sp15 := by14.1.2.2.2.2.2.2
          have ob15 : OB v15 f15 (v 0).toInt (f 0) (f 1) := OB_fr ob8 (by omega) hg15_3 hg15_4
          clear by14
          refine And.intro (Exists.intro _ md_o) (Exists.intro _ (Exists.intro _ (Exists.intro _ (Exists.intro _ (And.intro (U_X11_ends D v15 f15 hv15 hf15  (by omega)) (And.intro rfl (fun r9 A9 h9 => ?_)))))))
          obtain ⟨y17, v18, f18, rfl, rfl, hv18, hf18, hx18, hg18_7, hg18_8, hg18_9, hg18_10, hg18_11, by17⟩ := h9
          have hw18 : f18 2 = f 2 := hx18.trans hw15
          have hr18_7 : f18 7 = f 7 := hg18_7.trans hr15_7
          have hr18_8 : f18 8 = f 8 := hg18_8.trans hr15_8
          have hr18_9 : f18 9 = f 9 := hg18_9.trans hr15_9
          have hr18_10 : f18 10 = f 10 := hg18_10.trans hr15_10
          have hr18_11 : f18 11 = f 11 := hg18_11.trans hr15_11
          have hu19_0 := hv18.1
          have hu19_4 := hv18.2.2.2.2.1
          have hb_62 := by17.2.1
          have sq18_1 : (v18 1).toInt = (v8 1).toInt := by17.1.1.trans sq15_1
          have sq18_2 : (v18 2).toInt = (v15 2).toInt := by17.1.2.1
          have sq18_3 : (v18 3).toInt = (v8 3).toInt := by17.1.2.2.1.trans sq15_3
          have sq18_6 : (v18 6).toInt = (v8 6).toInt := by17.1.2.2.2.1.trans sq15_6
          have sp18 := by17.1.2.2.2.2
          have hm_9 := HM_fr by17.2.2.1 hr15_12 hr15_13 hr15_14 hr15_15
          have ha_9 := by17.2.2.2.1 _ _ _ ob15
          have h5_9 := by17.2.2.2.2
          clear by17
          exact ⟨rfl, fun e9 => absurd e9 (by decide), rfl, y17, v18, f18, rfl, rfl, hv18, hf18, hw18, hr18_7, hr18_8, hr18_9, hr18_10, hr18_11, by first | omega | (dsimp only; omega) | trivial, by refine ⟨?_, ?_, ?_⟩; (intro L hL; have hl := hL.1; rw [ed_turn, if_pos (by omega)]; have t2 := j2_23 L hL; rw [show z3_23.toInt + 1 = x1.toInt by omega] at t2; have t3 := hb_58 L _ (x2.toInt + 1) L.length (hp_58 L hL) (by omega) (by omega) (by omega) (by omega) t2; exact ⟨hb_62 _ t3, by show _ = _ + (1 : Int); omega, by show _ = _ + (1 : Int) * _; omega⟩); (first | (exact Or.inr ⟨by omega, hm_9⟩) | (exact Or.inl ⟨by omega, hr_missing, hr_missing, hr_missing, hr_missing⟩)); (first | (exact hq_9) | (exact Or.inr ⟨by omega, ha_9, h5_9.trans (by congr 1; exact pm_eqI (by omega))⟩) | (exact Or.inl ⟨rfl, rfl, rfl⟩))⟩
        · skip
          refine Exists.intro _ (And.intro md_o ?_)
          refine Exists.intro _ (Exists.intro _ (And.intro (Or.inl (md_a_colours D)) (And.intro (by omega) ?_)))
          have w20 : (0 : Int) ≤ (f8 0 (z3_23).toInt.toNat).toInt ∧ (f8 0 (z3_23).toInt.toNat).toInt ≤ (23 : Int) := hf8 0 _
          refine Exists.intro _ (And.intro md_o ?_)
          refine Exists.intro _ (Exists.intro _ (And.intro (Or.inl (md_a_names D)) (And.intro (by omega) ?_)))
          refine And.intro (Exists.intro _ md_o) (Exists.intro _ (Exists.intro _ (Exists.intro _ (Exists.intro _ (And.intro (U_X11_lays D v8 f8 hv8 hf8 (f8 0 (z3_23).toInt.toNat) (f8 1 (z3_23).toInt.toNat) (by omega) (by omega)) (And.intro rfl (fun r9 A9 h9 => ?_)))))))
          obtain ⟨v22, f22, rfl, rfl, hv22, hf22, hx22, hg22_0, hg22_1, hg22_3, hg22_4, hg22_12, hg22_13, hg22_14, hg22_15, hg22_7, hg22_8, hg22_9, hg22_10, hg22_11, by21⟩ := h9
          have hw22 : f22 2 = f 2 := hx22.trans hw8
          have hr22_0 : f22 0 = f 0 := hg22_0.trans hr8_0
          have hr22_1 : f22 1 = f 1 := hg22_1.trans hr8_1
          have hr22_12 : f22 12 = f 12 := hg22_12.trans hr8_12
          have hr22_13 : f22 13 = f 13 := hg22_13.trans hr8_13
          have hr22_14 : f22 14 = f 14 := hg22_14.trans hr8_14
          have hr22_15 : f22 15 = f 15 := hg22_15.trans hr8_15
          have hr22_7 : f22 7 = f 7 := hg22_7.trans hr8_7
          have hr22_8 : f22 8 = f 8 := hg22_8.trans hr8_8
          have hr22_9 : f22 9 = f 9 := hg22_9.trans hr8_9
          have hr22_10 : f22 10 = f 10 := hg22_10.trans hr8_10
          have hr22_11 : f22 11 = f 11 := hg22_11.trans hr8_11
          have hu23_2 := hv22.2.2.1
          have hb_41 := by21.2
          have sq22_0 : (v22 0).toInt = (v8 0).toInt := by21.1.1
          have sq22_1 : (v22 1).toInt = (v8 1).toInt := by21.1.2.1
          have sq22_3 : (v22 3).toInt = (v8 3).toInt := by21.1.2.2.1
          have sq22_4 : (v22 4).toInt = (v8 4).toInt := by21.1.2.2.2.1
          have sq22_5 : (v22 5).toInt = (v8 5).toInt := by21.1.2.2.2.2.1
          have sq22_6 : (v22 6).toInt = (v8 6).toInt := by21.1.2.2.2.2.2.1
          have sp22 := by21.1.2.2.2.2.2.2
          have ob22 : OB v22 f22 (v 0).toInt (f 0) (f 1) := OB_fr ob8 (by omega) hg22_3 hg22_4
          have hb9 := by21.2
          clear by21
          have km1 : (-1 : Int32).toInt = -1 := rfl
          intro m24 em_44
          try have e24 : m24.toInt = (z3_23).toInt + (-1) := by rw [em_44]; exact pm_addc _ _ (-1) rfl (by omega) (by omega)
          exact ih10 m24 v22 f22 hv22 hf22 hw22 hr22_0 hr22_1 hr22_12 hr22_13 hr22_14 hr22_15 hr22_7 hr22_8 hr22_9 hr22_10 hr22_11 ob22 (by omega) (by omega) (by intro L hL; have hl := hL.1; rw [show m24.toInt + 1 = z3_23.toInt by omega, si_c hL (a := z3_23.toInt) (b := x2.toInt + 1) (by omega) (by omega) (by omega), List.reverse_cons, ← List.append_assoc]; have h4 := hb9 _ (j2_23 L hL); rw [lr0, lr1] at h4; exact h4) (by omega) (by omega)
    exact lp9 (x2.toInt + 1).toNat.succ x2 v6 f6 hv6 hf6 hw6 hr6_0 hr6_1 hr6_12 hr6_13 hr6_14 hr6_15 hr6_7 hr6_8 hr6_9 hr6_10 hr6_11 ob6 (by omega) (by omega) (by intro L hL; have hl := hL.1; rw [si_n (Int.le_refl _), List.reverse_nil, List.append_nil]; have t1 := hb_18 L [] 0 x1.toInt (hp_18 L hL) rfl rfl (by omega) (by omega) (rp_0 (by omega)); rw [List.nil_append] at t1; exact t1) (by omega) (by omega)
  · skip
    have k0 : (0 : Int32).toInt = 0 := rfl
    refine And.intro (fun c9 => absurd c9 (by decide)) (fun _ => ?_)
    have km1 : (-1 : Int32).toInt = -1 := rfl
    exact ⟨rfl, fun e9 => absurd e9 (by decide), rfl, (-1 : Int32), v, f, rfl, rfl, hv, hf, rfl, rfl, rfl, rfl, rfl, rfl, by first | omega | (dsimp only; omega) | trivial, by refine ⟨?_, ?_, ?_⟩; (intro L hL; have hl := hL.1; rw [ed_turn, if_neg (by omega)]; exact ⟨hL, by show _ = _ + (0 : Int); omega, by show _ = _ + (0 : Int) * _; omega⟩); (first | (exact Or.inr ⟨by omega, hm_9⟩) | (exact Or.inl ⟨by omega, rfl, rfl, rfl, rfl⟩)); (first | (exact hq_9) | (exact Or.inr ⟨by omega, ha_9, h5_9.trans (by congr 1; exact pm_eqI (by omega))⟩) | (exact Or.inl ⟨rfl, rfl, rfl⟩))⟩

end
end
section
section
variable {l : Launch} {g : pm_G} {A0 : pm_H} {h : Nat} {q : Nat → Nat}
set_option maxRecDepth 100000 in
set_option maxHeartbeats 2000000 in
theorem U_X11_swap (D : md_D h q) (v : Nat → Int32) (f : Nat → Nat → Int32) (hv : md_V v) (hf : md_F f) (x1 : Int32) (x2 : Int32) (x3 : Int32) (x4 : Int32) (p0 : (v 4).toInt < 100000) : pm_Mt l g 191 4 0 0 [.ref h, .int x1, .int x2, .int x3, .int x4] (md A0 g h q v f) (md_Qw A0 g h q f (fun r v2 f2 => f2 7 = f 7 ∧ f2 8 = f 8 ∧ f2 9 = f 9 ∧ f2 10 = f 10 ∧ f2 11 = f 11 ∧ ((v2 6).toInt = (v 6).toInt ∧ (v2 4).toInt ≤ (v 4).toInt + 1 ∧ (v 4).toInt ≤ (v2 4).toInt) ∧ ((∀ L, rp (v 0) (f 0) (f 1) L → rp (v2 0) (f2 0) (f2 1) ((ed_swap L x1 x2 x3 x4).getD L) ∧ (v2 4).toInt = (v 4).toInt + edn (ed_swap L x1 x2 x3 x4) ∧ (v2 3).toInt = (v 3).toInt + edn (ed_swap L x1 x2 x3 x4) * (0)) ∧ (HMe (v 4).toInt f v2 f2 r.toInt) ∧ (((v2 4).toInt = (v 4).toInt ∧ r.toInt = -1 ∧ v2 5 = v 5) ∨ ((v2 4).toInt = (v 4).toInt + 1 ∧ r.toInt = (tcN (v 0).toInt (f 0) (f 1) (f2 0) (f2 1) (v2 0).toInt.toNat : Int) ∧ v2 5 = v 5 + r))))) := by
  refine mt_X11_swap rfl (fun J hC => ?_)
  have hv9 := hv
  unfold md_V at hv9
  have rg_x1 := pm_rng x1
  have rg_x2 := pm_rng x2
  have rg_x3 := pm_rng x3
  have rg_x4 := pm_rng x4
  show J 0 [some (.ref h), some (.int x1), some (.int x2), some (.int x3), some (.int x4), none, none, none, none, none] [] (md A0 g h q v f) 0 0
  refine hC.1 0 0 _ _ rfl _ _ _ _ _ ?_
  refine pq_aload_n0 (pq_iload_n1 (pq_iload_n2 (pq_iv2_11 ?_)))
  refine And.intro (Exists.intro _ md_o) (Exists.intro _ (Exists.intro _ (Exists.intro _ (Exists.intro _ (And.intro (c_X11_isSpan D v f hv hf x1 x2 ) (And.intro rfl (fun r9 A9 h9 => ?_)))))))
  rcases h9 with ⟨y1, rfl, rfl, ⟨rfl, by1⟩ | ⟨rfl, by1⟩⟩
  · skip
    have k1 : (1 : Int32).toInt = 1 := rfl
    refine pq_id1 (pq_icond_eq ?_)
    refine And.intro (fun c9 => absurd c9 (by decide)) (fun _ => ?_)
    refine pq_aload_n0 (pq_iload_n3 (pq_iload4 (pq_iv2_11 ?_)))
    refine And.intro (Exists.intro _ md_o) (Exists.intro _ (Exists.intro _ (Exists.intro _ (Exists.intro _ (And.intro (c_X11_isSpan D v f hv hf x3 x4 ) (And.intro rfl (fun r9 A9 h9 => ?_)))))))
    rcases h9 with ⟨y2, rfl, rfl, ⟨rfl, by2⟩ | ⟨rfl, by2⟩⟩
    · skip
      refine pq_id1 (pq_icond_eq ?_)
      refine And.intro (fun c9 => absurd c9 (by decide)) (fun _ => ?_)
      refine pq_iload_n1 (pq_iload4 (pq_icmp_gt ?_))
      refine And.intro (fun c3 => ?_) (fun c3 => ?_)
      · skip
        refine hC.1 2 32 _ _ rfl _ _ _ _ _ ?_
        refine pq_iload_n1 (pq_iload_n3 (pq_icmp_ge ?_))
        refine And.intro (fun c4 => ?_) (fun c4 => ?_)
        · skip
          refine hC.1 3 41 _ _ rfl _ _ _ _ _ ?_
          have k0 : (0 : Int32).toInt = 0 := rfl
          refine pq_iconst (pq_nil ?_)
          refine hC.1 4 42 _ _ rfl _ _ _ _ _ ?_
          refine pq_istore [some (.ref h), some (.int x1), some (.int x2), some (.int x3), some (.int x4), some (.int (0 : Int32)), none, none, none, none] rfl (pq_iload5 (pq_icond_eq ?_))
          refine And.intro (fun _ => ?_) (fun c9 => absurd c9 (by decide))
          refine hC.1 5 53 _ _ rfl _ _ _ _ _ ?_
          refine pq_iload_n3 (pq_nil ?_)
          refine hC.1 6 54 _ _ rfl _ _ _ _ _ ?_
          refine pq_istore [some (.ref h), some (.int x1), some (.int x2), some (.int x3), some (.int x4), some (.int (0 : Int32)), some (.int x3), none, none, none] rfl (pq_iload5 (pq_icond_eq ?_))
          refine And.intro (fun _ => ?_) (fun c9 => absurd c9 (by decide))
          refine hC.1 7 65 _ _ rfl _ _ _ _ _ ?_
          refine pq_iload4 (pq_nil ?_)
          refine hC.1 8 67 _ _ rfl _ _ _ _ _ ?_
          refine pq_istore [some (.ref h), some (.int x1), some (.int x2), some (.int x3), some (.int x4), some (.int (0 : Int32)), some (.int x3), some (.int x4), none, none] rfl (pq_iload5 (pq_icond_eq ?_))
          refine And.intro (fun _ => ?_) (fun c9 => absurd c9 (by decide))
          refine hC.1 9 78 _ _ rfl _ _ _ _ _ ?_
          refine pq_iload_n1 (pq_nil ?_)
          refine hC.1 10 79 _ _ rfl _ _ _ _ _ ?_
          refine pq_istore [some (.ref h), some (.int x1), some (.int x2), some (.int x3), some (.int x4), some (.int (0 : Int32)), some (.int x3), some (.int x4), some (.int x1), none] rfl (pq_iload5 (pq_icond_eq ?_))
          refine And.intro (fun _ => ?_) (fun c9 => absurd c9 (by decide))
          refine hC.1 11 91 _ _ rfl _ _ _ _ _ ?_
          refine pq_iload_n2 (pq_nil ?_)
          refine hC.1 12 92 _ _ rfl _ _ _ _ _ ?_
          refine pq_istore [some (.ref h), some (.int x1), some (.int x2), some (.int x3), some (.int x4), some (.int (0 : Int32)), some (.int x3), some (.int x4), some (.int x1), some (.int x2)] rfl (pq_aload_n0 (pq_iv0_11 ?_))
          refine And.intro (Exists.intro _ md_o) (Exists.intro _ (Exists.intro _ (Exists.intro _ (Exists.intro _ (And.intro (U_X11_begins D v f hv hf  ) (And.intro rfl (fun r9 A9 h9 => ?_)))))))
          obtain ⟨v6, f6, rfl, rfl, hv6, hf6, hx6, hg6_0, hg6_1, hg6_12, hg6_13, hg6_14, hg6_15, hg6_7, hg6_8, hg6_9, hg6_10, hg6_11, by5⟩ := h9
          refine pq_id0 ?_
          have hw6 : f6 2 = f 2 := hx6.trans rfl
          have hr6_0 : f6 0 = f 0 := hg6_0.trans rfl
          have hr6_1 : f6 1 = f 1 := hg6_1.trans rfl
          have hr6_12 : f6 12 = f 12 := hg6_12.trans rfl
          have hr6_13 : f6 13 = f 13 := hg6_13.trans rfl
          have hr6_14 : f6 14 = f 14 := hg6_14.trans rfl
          have hr6_15 : f6 15 = f 15 := hg6_15.trans rfl
          have hr6_7 : f6 7 = f 7 := hg6_7.trans rfl
          have hr6_8 : f6 8 = f 8 := hg6_8.trans rfl
          have hr6_9 : f6 9 = f 9 := hg6_9.trans rfl
          have hr6_10 : f6 10 = f 10 := hg6_10.trans rfl
          have hr6_11 : f6 11 = f 11 := hg6_11.trans rfl
          have hu7_1 := hv6.2.1
          have hu7_2 := hv6.2.2.1
          have hb_95 := by5.2
          have sq6_0 : (v6 0).toInt = (v 0).toInt := by5.1.1
          have sq6_3 : (v6 3).toInt = (v 3).toInt := by5.1.2.1
          have sq6_4 : (v6 4).toInt = (v 4).toInt := by5.1.2.2.1
          have sq6_5 : (v6 5).toInt = (v 5).toInt := by5.1.2.2.2.1
          have sq6_6 : (v6 6).toInt = (v 6).toInt := by5.1.2.2.2.2.1
          have sp6 := by5.1.2.2.2.2.2
          have ob6 : OB v6 f6 (v 0).toInt (f 0) (f 1) := by5.2
          clear by5
          refine pq_aload_n0 (pq_iconst (pq_iload6 (pq_iv2_11 ?_)))
          have hp_102 : ∀ L, rp (v 0) (f 0) (f 1) L → rp (v6 0) (f6 0) (f6 1) L := fun L h => rp_fr h (by omega) hr6_0 hr6_1
          refine And.intro (Exists.intro _ md_o) (Exists.intro _ (Exists.intro _ (Exists.intro _ (Exists.intro _ (And.intro (U_X11_laysFrom D v6 f6 hv6 hf6 (0 : Int32) x3 (by omega) (by omega) (by omega) (by omega)) (And.intro rfl (fun r9 A9 h9 => ?_)))))))
          obtain ⟨v9, f9, rfl, rfl, hv9, hf9, hx9, hg9_0, hg9_1, hg9_3, hg9_4, hg9_12, hg9_13, hg9_14, hg9_15, hg9_7, hg9_8, hg9_9, hg9_10, hg9_11, by8⟩ := h9
          refine pq_id0 ?_
          have hw9 : f9 2 = f 2 := hx9.trans hw6
          have hr9_0 : f9 0 = f 0 := hg9_0.trans hr6_0
          have hr9_1 : f9 1 = f 1 := hg9_1.trans hr6_1
          have hr9_12 : f9 12 = f 12 := hg9_12.trans hr6_12
          have hr9_13 : f9 13 = f 13 := hg9_13.trans hr6_13
          have hr9_14 : f9 14 = f 14 := hg9_14.trans hr6_14
          have hr9_15 : f9 15 = f 15 := hg9_15.trans hr6_15
          have hr9_7 : f9 7 = f 7 := hg9_7.trans hr6_7
          have hr9_8 : f9 8 = f 8 := hg9_8.trans hr6_8
          have hr9_9 : f9 9 = f 9 := hg9_9.trans hr6_9
          have hr9_10 : f9 10 = f 10 := hg9_10.trans hr6_10
          have hr9_11 : f9 11 = f 11 := hg9_11.trans hr6_11
          have hu10_2 := hv9.2.2.1
          have hb_102 := by8.2
          have sq9_0 : (v9 0).toInt = (v 0).toInt := by8.1.1.trans sq6_0
          have sq9_1 : (v9 1).toInt = (v6 1).toInt := by8.1.2.1
          have sq9_3 : (v9 3).toInt = (v 3).toInt := by8.1.2.2.1.trans sq6_3
          have sq9_4 : (v9 4).toInt = (v 4).toInt := by8.1.2.2.2.1.trans sq6_4
          have sq9_5 : (v9 5).toInt = (v 5).toInt := by8.1.2.2.2.2.1.trans sq6_5
          have sq9_6 : (v9 6).toInt = (v 6).toInt := by8.1.2.2.2.2.2.1.trans sq6_6
          have sp9 := by8.1.2.2.2.2.2.2
          have ob9 : OB v9 f9 (v 0).toInt (f 0) (f 1) := OB_fr ob6 (by omega) hg9_3 hg9_4
          clear by8
          refine pq_aload_n0 (pq_iload8 (pq_iload9 (pq_iconst (pq_iadd ?_))))
          intro m11 em_111
          try have e11 : m11.toInt = (x2).toInt + (1) := by rw [em_111]; exact pm_addc _ _ (1) rfl (by omega) (by omega)
          refine pq_iv2_11 ?_
          have hp_112 : ∀ L, rp (v 0) (f 0) (f 1) L → rp (v9 0) (f9 0) (f9 1) L := fun L h => rp_fr h (by omega) hr9_0 hr9_1
          refine And.intro (Exists.intro _ md_o) (Exists.intro _ (Exists.intro _ (Exists.intro _ (Exists.intro _ (And.intro (U_X11_laysFrom D v9 f9 hv9 hf9 x1 m11 (by omega) (by omega) (by omega) (by omega)) (And.intro rfl (fun r9 A9 h9 => ?_)))))))
          obtain ⟨v13, f13, rfl, rfl, hv13, hf13, hx13, hg13_0, hg13_1, hg13_3, hg13_4, hg13_12, hg13_13, hg13_14, hg13_15, hg13_7, hg13_8, hg13_9, hg13_10, hg13_11, by12⟩ := h9
          refine pq_id0 ?_
          have hw13 : f13 2 = f 2 := hx13.trans hw9
          have hr13_0 : f13 0 = f 0 := hg13_0.trans hr9_0
          have hr13_1 : f13 1 = f 1 := hg13_1.trans hr9_1
          have hr13_12 : f13 12 = f 12 := hg13_12.trans hr9_12
          have hr13_13 : f13 13 = f 13 := hg13_13.trans hr9_13
          have hr13_14 : f13 14 = f 14 := hg13_14.trans hr9_14
          have hr13_15 : f13 15 = f 15 := hg13_15.trans hr9_15
          have hr13_7 : f13 7 = f 7 := hg13_7.trans hr9_7
          have hr13_8 : f13 8 = f 8 := hg13_8.trans hr9_8
          have hr13_9 : f13 9 = f 9 := hg13_9.trans hr9_9
          have hr13_10 : f13 10 = f 10 := hg13_10.trans hr9_10
          have hr13_11 : f13 11 = f 11 := hg13_11.trans hr9_11
          have hu14_2 := hv13.2.2.1
          have hb_112 := by12.2
          have sq13_0 : (v13 0).toInt = (v 0).toInt := by12.1.1.trans sq9_0
          have sq13_1 : (v13 1).toInt = (v6 1).toInt := by12.1.2.1.trans sq9_1
          have sq13_3 : (v13 3).toInt = (v 3).toInt := by12.1.2.2.1.trans sq9_3
          have sq13_4 : (v13 4).toInt = (v 4).toInt := by12.1.2.2.2.1.trans sq9_4
          have sq13_5 : (v13 5).toInt = (v 5).toInt := by12.1.2.2.2.2.1.trans sq9_5
          have sq13_6 : (v13 6).toInt = (v 6).toInt := by12.1.2.2.2.2.2.1.trans sq9_6
          have sp13 := by12.1.2.2.2.2.2.2
          have ob13 : OB v13 f13 (v 0).toInt (f 0) (f 1) := OB_fr ob9 (by omega) hg13_3 hg13_4
          clear by12
          refine pq_aload_n0 (pq_iload7 (pq_iconst (pq_iadd ?_)))
          intro m15 em_119
          try have e15 : m15.toInt = (x4).toInt + (1) := by rw [em_119]; exact pm_addc _ _ (1) rfl (by omega) (by omega)
          refine pq_iload8 (pq_iv2_11 ?_)
          have hp_122 : ∀ L, rp (v 0) (f 0) (f 1) L → rp (v13 0) (f13 0) (f13 1) L := fun L h => rp_fr h (by omega) hr13_0 hr13_1
          refine And.intro (Exists.intro _ md_o) (Exists.intro _ (Exists.intro _ (Exists.intro _ (Exists.intro _ (And.intro (U_X11_laysFrom D v13 f13 hv13 hf13 m15 x1 (by omega) (by omega) (by omega) (by omega)) (And.intro rfl (fun r9 A9 h9 => ?_)))))))
          obtain ⟨v17, f17, rfl, rfl, hv17, hf17, hx17, hg17_0, hg17_1, hg17_3, hg17_4, hg17_12, hg17_13, hg17_14, hg17_15, hg17_7, hg17_8, hg17_9, hg17_10, hg17_11, by16⟩ := h9
          refine pq_id0 ?_
          have hw17 : f17 2 = f 2 := hx17.trans hw13
          have hr17_0 : f17 0 = f 0 := hg17_0.trans hr13_0
          have hr17_1 : f17 1 = f 1 := hg17_1.trans hr13_1
          have hr17_12 : f17 12 = f 12 := hg17_12.trans hr13_12
          have hr17_13 : f17 13 = f 13 := hg17_13.trans hr13_13
          have hr17_14 : f17 14 = f 14 := hg17_14.trans hr13_14
          have hr17_15 : f17 15 = f 15 := hg17_15.trans hr13_15
          have hr17_7 : f17 7 = f 7 := hg17_7.trans hr13_7
          have hr17_8 : f17 8 = f 8 := hg17_8.trans hr13_8
          have hr17_9 : f17 9 = f 9 := hg17_9.trans hr13_9
          have hr17_10 : f17 10 = f 10 := hg17_10.trans hr13_10
          have hr17_11 : f17 11 = f 11 := hg17_11.trans hr13_11
          have hu18_2 := hv17.2.2.1
          have hb_122 := by16.2
          have sq17_0 : (v17 0).toInt = (v 0).toInt := by16.1.1.trans sq13_0
          have sq17_1 : (v17 1).toInt = (v6 1).toInt := by16.1.2.1.trans sq13_1
          have sq17_3 : (v17 3).toInt = (v 3).toInt := by16.1.2.2.1.trans sq13_3
          have sq17_4 : (v17 4).toInt = (v 4).toInt := by16.1.2.2.2.1.trans sq13_4
          have sq17_5 : (v17 5).toInt = (v 5).toInt := by16.1.2.2.2.2.1.trans sq13_5
          have sq17_6 : (v17 6).toInt = (v 6).toInt := by16.1.2.2.2.2.2.1.trans sq13_6
          have sp17 := by16.1.2.2.2.2.2.2
          have ob17 : OB v17 f17 (v 0).toInt (f 0) (f 1) := OB_fr ob13 (by omega) hg17_3 hg17_4
          clear by16
          refine pq_aload_n0 (pq_iload6 (pq_iload7 (pq_iconst (pq_iadd ?_))))
          intro m19 em_131
          try have e19 : m19.toInt = (x4).toInt + (1) := by rw [em_131]; exact pm_addc _ _ (1) rfl (by omega) (by omega)
          refine pq_iv2_11 ?_
          have hp_132 : ∀ L, rp (v 0) (f 0) (f 1) L → rp (v17 0) (f17 0) (f17 1) L := fun L h => rp_fr h (by omega) hr17_0 hr17_1
          refine And.intro (Exists.intro _ md_o) (Exists.intro _ (Exists.intro _ (Exists.intro _ (Exists.intro _ (And.intro (U_X11_laysFrom D v17 f17 hv17 hf17 x3 m19 (by omega) (by omega) (by omega) (by omega)) (And.intro rfl (fun r9 A9 h9 => ?_)))))))
          obtain ⟨v21, f21, rfl, rfl, hv21, hf21, hx21, hg21_0, hg21_1, hg21_3, hg21_4, hg21_12, hg21_13, hg21_14, hg21_15, hg21_7, hg21_8, hg21_9, hg21_10, hg21_11, by20⟩ := h9
          refine pq_id0 ?_
          have hw21 : f21 2 = f 2 := hx21.trans hw17
          have hr21_0 : f21 0 = f 0 := hg21_0.trans hr17_0
          have hr21_1 : f21 1 = f 1 := hg21_1.trans hr17_1
          have hr21_12 : f21 12 = f 12 := hg21_12.trans hr17_12
          have hr21_13 : f21 13 = f 13 := hg21_13.trans hr17_13
          have hr21_14 : f21 14 = f 14 := hg21_14.trans hr17_14
          have hr21_15 : f21 15 = f 15 := hg21_15.trans hr17_15
          have hr21_7 : f21 7 = f 7 := hg21_7.trans hr17_7
          have hr21_8 : f21 8 = f 8 := hg21_8.trans hr17_8
          have hr21_9 : f21 9 = f 9 := hg21_9.trans hr17_9
          have hr21_10 : f21 10 = f 10 := hg21_10.trans hr17_10
          have hr21_11 : f21 11 = f 11 := hg21_11.trans hr17_11
          have hu22_2 := hv21.2.2.1
          have hb_132 := by20.2
          have sq21_0 : (v21 0).toInt = (v 0).toInt := by20.1.1.trans sq17_0
          have sq21_1 : (v21 1).toInt = (v6 1).toInt := by20.1.2.1.trans sq17_1
          have sq21_3 : (v21 3).toInt = (v 3).toInt := by20.1.2.2.1.trans sq17_3
          have sq21_4 : (v21 4).toInt = (v 4).toInt := by20.1.2.2.2.1.trans sq17_4
          have sq21_5 : (v21 5).toInt = (v 5).toInt := by20.1.2.2.2.2.1.trans sq17_5
          have sq21_6 : (v21 6).toInt = (v 6).toInt := by20.1.2.2.2.2.2.1.trans sq17_6
          have sp21 := by20.1.2.2.2.2.2.2
          have ob21 : OB v21 f21 (v 0).toInt (f 0) (f 1) := OB_fr ob17 (by omega) hg21_3 hg21_4
          clear by20
          refine pq_aload_n0 (pq_iload9 (pq_iconst (pq_iadd ?_)))
          intro m23 em_139
          try have e23 : m23.toInt = (x2).toInt + (1) := by rw [em_139]; exact pm_addc _ _ (1) rfl (by omega) (by omega)
          refine pq_aload_n0 (qgm_many (pq_iv2_11 ?_))
          have hp_144 : ∀ L, rp (v 0) (f 0) (f 1) L → rp (v21 0) (f21 0) (f21 1) L := fun L h => rp_fr h (by omega) hr21_0 hr21_1
          refine And.intro (Exists.intro _ md_o) (Exists.intro _ (Exists.intro _ (Exists.intro _ (Exists.intro _ (And.intro (U_X11_laysFrom D v21 f21 hv21 hf21 m23 (v21 0) (by omega) (by omega) (by omega) (by omega)) (And.intro rfl (fun r9 A9 h9 => ?_)))))))
          obtain ⟨v25, f25, rfl, rfl, hv25, hf25, hx25, hg25_0, hg25_1, hg25_3, hg25_4, hg25_12, hg25_13, hg25_14, hg25_15, hg25_7, hg25_8, hg25_9, hg25_10, hg25_11, by24⟩ := h9
          refine pq_id0 ?_
          have hw25 : f25 2 = f 2 := hx25.trans hw21
          have hr25_0 : f25 0 = f 0 := hg25_0.trans hr21_0
          have hr25_1 : f25 1 = f 1 := hg25_1.trans hr21_1
          have hr25_12 : f25 12 = f 12 := hg25_12.trans hr21_12
          have hr25_13 : f25 13 = f 13 := hg25_13.trans hr21_13
          have hr25_14 : f25 14 = f 14 := hg25_14.trans hr21_14
          have hr25_15 : f25 15 = f 15 := hg25_15.trans hr21_15
          have hr25_7 : f25 7 = f 7 := hg25_7.trans hr21_7
          have hr25_8 : f25 8 = f 8 := hg25_8.trans hr21_8
          have hr25_9 : f25 9 = f 9 := hg25_9.trans hr21_9
          have hr25_10 : f25 10 = f 10 := hg25_10.trans hr21_10
          have hr25_11 : f25 11 = f 11 := hg25_11.trans hr21_11
          have hu26_2 := hv25.2.2.1
          have hb_144 := by24.2
          have sq25_0 : (v25 0).toInt = (v 0).toInt := by24.1.1.trans sq21_0
          have sq25_1 : (v25 1).toInt = (v6 1).toInt := by24.1.2.1.trans sq21_1
          have sq25_3 : (v25 3).toInt = (v 3).toInt := by24.1.2.2.1.trans sq21_3
          have sq25_4 : (v25 4).toInt = (v 4).toInt := by24.1.2.2.2.1.trans sq21_4
          have sq25_5 : (v25 5).toInt = (v 5).toInt := by24.1.2.2.2.2.1.trans sq21_5
          have sq25_6 : (v25 6).toInt = (v 6).toInt := by24.1.2.2.2.2.2.1.trans sq21_6
          have sp25 := by24.1.2.2.2.2.2.2
          have ob25 : OB v25 f25 (v 0).toInt (f 0) (f 1) := OB_fr ob21 (by omega) hg25_3 hg25_4
          clear by24
          refine pq_aload_n0 (pq_iv0_11 ?_)
          refine And.intro (Exists.intro _ md_o) (Exists.intro _ (Exists.intro _ (Exists.intro _ (Exists.intro _ (And.intro (U_X11_ends D v25 f25 hv25 hf25  (by omega)) (And.intro rfl (fun r9 A9 h9 => ?_)))))))
          obtain ⟨y27, v28, f28, rfl, rfl, hv28, hf28, hx28, hg28_7, hg28_8, hg28_9, hg28_10, hg28_11, by27⟩ := h9
          refine pq_id1 ?_
          have hw28 : f28 2 = f 2 := hx28.trans hw25
          have hr28_7 : f28 7 = f 7 := hg28_7.trans hr25_7
          have hr28_8 : f28 8 = f 8 := hg28_8.trans hr25_8
          have hr28_9 : f28 9 = f 9 := hg28_9.trans hr25_9
          have hr28_10 : f28 10 = f 10 := hg28_10.trans hr25_10
          have hr28_11 : f28 11 = f 11 := hg28_11.trans hr25_11
          have hu29_0 := hv28.1
          have hu29_4 := hv28.2.2.2.2.1
          have hb_148 := by27.2.1
          have sq28_1 : (v28 1).toInt = (v6 1).toInt := by27.1.1.trans sq25_1
          have sq28_2 : (v28 2).toInt = (v25 2).toInt := by27.1.2.1
          have sq28_3 : (v28 3).toInt = (v 3).toInt := by27.1.2.2.1.trans sq25_3
          have sq28_6 : (v28 6).toInt = (v 6).toInt := by27.1.2.2.2.1.trans sq25_6
          have sp28 := by27.1.2.2.2.2
          have hm_9 := HM_fr by27.2.2.1 hr25_12 hr25_13 hr25_14 hr25_15
          have ha_9 := by27.2.2.2.1 _ _ _ ob25
          have h5_9 := by27.2.2.2.2
          clear by27
          refine pq_iret ?_
          exact ⟨rfl, fun e9 => absurd e9 (by decide), rfl, y27, v28, f28, rfl, rfl, hv28, hf28, hw28, hr28_7, hr28_8, hr28_9, hr28_10, hr28_11, by first | omega | (dsimp only; omega) | trivial, by refine ⟨?_, ?_, ?_⟩; (first | (intro L hL; have hl := hL.1; rw [ed_swap, if_pos (by omega), if_pos (by omega)]; have t1 := hb_102 L [] 0 x1.toInt (hp_102 L hL) rfl rfl (by omega) (by omega) (rp_0 (by omega)); have t2 := hb_112 L _ x3.toInt (x4.toInt + 1) (hp_112 L hL) (by omega) (by omega) (by omega) (by omega) t1; have t3 := hb_122 L _ (x2.toInt + 1) x3.toInt (hp_122 L hL) (by omega) (by omega) (by omega) (by omega) t2; have t4 := hb_132 L _ x1.toInt (x2.toInt + 1) (hp_132 L hL) (by omega) (by omega) (by omega) (by omega) t3; have t5 := hb_144 L _ (x4.toInt + 1) L.length (hp_144 L hL) (by omega) (by omega) (by omega) (by omega) t4; rw [List.nil_append] at t5; exact ⟨hb_148 _ t5, by show _ = _ + (1 : Int); omega, by show _ = _ + (1 : Int) * _; omega⟩) | (intro L hL; have hl := hL.1; rw [ed_swap, if_pos (by omega), if_neg (by omega)]; have t1 := hb_102 L [] 0 x3.toInt (hp_102 L hL) rfl rfl (by omega) (by omega) (rp_0 (by omega)); have t2 := hb_112 L _ x1.toInt (x2.toInt + 1) (hp_112 L hL) (by omega) (by omega) (by omega) (by omega) t1; have t3 := hb_122 L _ (x4.toInt + 1) x1.toInt (hp_122 L hL) (by omega) (by omega) (by omega) (by omega) t2; have t4 := hb_132 L _ x3.toInt (x4.toInt + 1) (hp_132 L hL) (by omega) (by omega) (by omega) (by omega) t3; have t5 := hb_144 L _ (x2.toInt + 1) L.length (hp_144 L hL) (by omega) (by omega) (by omega) (by omega) t4; rw [List.nil_append] at t5; exact ⟨hb_148 _ t5, by show _ = _ + (1 : Int); omega, by show _ = _ + (1 : Int) * _; omega⟩)); (first | (exact Or.inr ⟨by omega, hm_9⟩) | (exact Or.inl ⟨by omega, hr_missing, hr_missing, hr_missing, hr_missing⟩)); (first | (exact hq_9) | (exact Or.inr ⟨by omega, ha_9, h5_9.trans (by congr 1; exact pm_eqI (by omega))⟩) | (exact Or.inl ⟨rfl, rfl, rfl⟩))⟩
        · skip
          exfalso
          omega
      · skip
        refine pq_iload_n3 (pq_iload_n2 (pq_icmp_gt ?_))
        refine And.intro (fun c30 => ?_) (fun c30 => ?_)
        · skip
          refine hC.1 2 32 _ _ rfl _ _ _ _ _ ?_
          refine pq_iload_n1 (pq_iload_n3 (pq_icmp_ge ?_))
          refine And.intro (fun c31 => ?_) (fun c31 => ?_)
          · skip
            exfalso
            omega
          · skip
            refine pq_iconst (pq_goto ?_)
            refine hC.1 4 42 _ _ rfl _ _ _ _ _ ?_
            refine pq_istore [some (.ref h), some (.int x1), some (.int x2), some (.int x3), some (.int x4), some (.int (1 : Int32)), none, none, none, none] rfl (pq_iload5 (pq_icond_eq ?_))
            refine And.intro (fun c9 => absurd c9 (by decide)) (fun _ => ?_)
            refine pq_iload_n1 (pq_goto ?_)
            refine hC.1 6 54 _ _ rfl _ _ _ _ _ ?_
            refine pq_istore [some (.ref h), some (.int x1), some (.int x2), some (.int x3), some (.int x4), some (.int (1 : Int32)), some (.int x1), none, none, none] rfl (pq_iload5 (pq_icond_eq ?_))
            refine And.intro (fun c9 => absurd c9 (by decide)) (fun _ => ?_)
            refine pq_iload_n2 (pq_goto ?_)
            refine hC.1 8 67 _ _ rfl _ _ _ _ _ ?_
            refine pq_istore [some (.ref h), some (.int x1), some (.int x2), some (.int x3), some (.int x4), some (.int (1 : Int32)), some (.int x1), some (.int x2), none, none] rfl (pq_iload5 (pq_icond_eq ?_))
            refine And.intro (fun c9 => absurd c9 (by decide)) (fun _ => ?_)
            refine pq_iload_n3 (pq_goto ?_)
            refine hC.1 10 79 _ _ rfl _ _ _ _ _ ?_
            refine pq_istore [some (.ref h), some (.int x1), some (.int x2), some (.int x3), some (.int x4), some (.int (1 : Int32)), some (.int x1), some (.int x2), some (.int x3), none] rfl (pq_iload5 (pq_icond_eq ?_))
            refine And.intro (fun c9 => absurd c9 (by decide)) (fun _ => ?_)
            refine pq_iload4 (pq_goto ?_)
            refine hC.1 12 92 _ _ rfl _ _ _ _ _ ?_
            refine pq_istore [some (.ref h), some (.int x1), some (.int x2), some (.int x3), some (.int x4), some (.int (1 : Int32)), some (.int x1), some (.int x2), some (.int x3), some (.int x4)] rfl (pq_aload_n0 (pq_iv0_11 ?_))
            refine And.intro (Exists.intro _ md_o) (Exists.intro _ (Exists.intro _ (Exists.intro _ (Exists.intro _ (And.intro (U_X11_begins D v f hv hf  ) (And.intro rfl (fun r9 A9 h9 => ?_)))))))
            obtain ⟨v33, f33, rfl, rfl, hv33, hf33, hx33, hg33_0, hg33_1, hg33_12, hg33_13, hg33_14, hg33_15, hg33_7, hg33_8, hg33_9, hg33_10, hg33_11, by32⟩ := h9
            refine pq_id0 ?_
            have hw33 : f33 2 = f 2 := hx33.trans rfl
            have hr33_0 : f33 0 = f 0 := hg33_0.trans rfl
            have hr33_1 : f33 1 = f 1 := hg33_1.trans rfl
            have hr33_12 : f33 12 = f 12 := hg33_12.trans rfl
            have hr33_13 : f33 13 = f 13 := hg33_13.trans rfl
            have hr33_14 : f33 14 = f 14 := hg33_14.trans rfl
            have hr33_15 : f33 15 = f 15 := hg33_15.trans rfl
            have hr33_7 : f33 7 = f 7 := hg33_7.trans rfl
            have hr33_8 : f33 8 = f 8 := hg33_8.trans rfl
            have hr33_9 : f33 9 = f 9 := hg33_9.trans rfl
            have hr33_10 : f33 10 = f 10 := hg33_10.trans rfl
            have hr33_11 : f33 11 = f 11 := hg33_11.trans rfl
            have hu34_1 := hv33.2.1
            have hu34_2 := hv33.2.2.1
            have hb_95 := by32.2
            have sq33_0 : (v33 0).toInt = (v 0).toInt := by32.1.1
            have sq33_3 : (v33 3).toInt = (v 3).toInt := by32.1.2.1
            have sq33_4 : (v33 4).toInt = (v 4).toInt := by32.1.2.2.1
            have sq33_5 : (v33 5).toInt = (v 5).toInt := by32.1.2.2.2.1
            have sq33_6 : (v33 6).toInt = (v 6).toInt := by32.1.2.2.2.2.1
            have sp33 := by32.1.2.2.2.2.2
            have ob33 : OB v33 f33 (v 0).toInt (f 0) (f 1) := by32.2
            clear by32
            refine pq_aload_n0 ?_
            have k0 : (0 : Int32).toInt = 0 := rfl
            refine pq_iconst (pq_iload6 (pq_iv2_11 ?_))
            have hp_102 : ∀ L, rp (v 0) (f 0) (f 1) L → rp (v33 0) (f33 0) (f33 1) L := fun L h => rp_fr h (by omega) hr33_0 hr33_1
            refine And.intro (Exists.intro _ md_o) (Exists.intro _ (Exists.intro _ (Exists.intro _ (Exists.intro _ (And.intro (U_X11_laysFrom D v33 f33 hv33 hf33 (0 : Int32) x1 (by omega) (by omega) (by omega) (by omega)) (And.intro rfl (fun r9 A9 h9 => ?_)))))))
            obtain ⟨v36, f36, rfl, rfl, hv36, hf36, hx36, hg36_0, hg36_1, hg36_3, hg36_4, hg36_12, hg36_13, hg36_14, hg36_15, hg36_7, hg36_8, hg36_9, hg36_10, hg36_11, by35⟩ := h9
            refine pq_id0 ?_
            have hw36 : f36 2 = f 2 := hx36.trans hw33
            have hr36_0 : f36 0 = f 0 := hg36_0.trans hr33_0
            have hr36_1 : f36 1 = f 1 := hg36_1.trans hr33_1
            have hr36_12 : f36 12 = f 12 := hg36_12.trans hr33_12
            have hr36_13 : f36 13 = f 13 := hg36_13.trans hr33_13
            have hr36_14 : f36 14 = f 14 := hg36_14.trans hr33_14
            have hr36_15 : f36 15 = f 15 := hg36_15.trans hr33_15
            have hr36_7 : f36 7 = f 7 := hg36_7.trans hr33_7
            have hr36_8 : f36 8 = f 8 := hg36_8.trans hr33_8
            have hr36_9 : f36 9 = f 9 := hg36_9.trans hr33_9
            have hr36_10 : f36 10 = f 10 := hg36_10.trans hr33_10
            have hr36_11 : f36 11 = f 11 := hg36_11.trans hr33_11
            have hu37_2 := hv36.2.2.1
            have hb_102 := by35.2
            have sq36_0 : (v36 0).toInt = (v 0).toInt := by35.1.1.trans sq33_0
            have sq36_1 : (v36 1).toInt = (v33 1).toInt := by35.1.2.1
            have sq36_3 : (v36 3).toInt = (v 3).toInt := by35.1.2.2.1.trans sq33_3
            have sq36_4 : (v36 4).toInt = (v 4).toInt := by35.1.2.2.2.1.trans sq33_4
            have sq36_5 : (v36 5).toInt = (v 5).toInt := by35.1.2.2.2.2.1.trans sq33_5
            have sq36_6 : (v36 6).toInt = (v 6).toInt := by35.1.2.2.2.2.2.1.trans sq33_6
            have sp36 := by35.1.2.2.2.2.2.2
            have ob36 : OB v36 f36 (v 0).toInt (f 0) (f 1) := OB_fr ob33 (by omega) hg36_3 hg36_4
            clear by35
            refine pq_aload_n0 (pq_iload8 (pq_iload9 (pq_iconst (pq_iadd ?_))))
            intro m38 em_111
            try have e38 : m38.toInt = (x4).toInt + (1) := by rw [em_111]; exact pm_addc _ _ (1) rfl (by omega) (by omega)
            refine pq_iv2_11 ?_
            have hp_112 : ∀ L, rp (v 0) (f 0) (f 1) L → rp (v36 0) (f36 0) (f36 1) L := fun L h => rp_fr h (by omega) hr36_0 hr36_1
            refine And.intro (Exists.intro _ md_o) (Exists.intro _ (Exists.intro _ (Exists.intro _ (Exists.intro _ (And.intro (U_X11_laysFrom D v36 f36 hv36 hf36 x3 m38 (by omega) (by omega) (by omega) (by omega)) (And.intro rfl (fun r9 A9 h9 => ?_)))))))
            obtain ⟨v40, f40, rfl, rfl, hv40, hf40, hx40, hg40_0, hg40_1, hg40_3, hg40_4, hg40_12, hg40_13, hg40_14, hg40_15, hg40_7, hg40_8, hg40_9, hg40_10, hg40_11, by39⟩ := h9
            refine pq_id0 ?_
            have hw40 : f40 2 = f 2 := hx40.trans hw36
            have hr40_0 : f40 0 = f 0 := hg40_0.trans hr36_0
            have hr40_1 : f40 1 = f 1 := hg40_1.trans hr36_1
            have hr40_12 : f40 12 = f 12 := hg40_12.trans hr36_12
            have hr40_13 : f40 13 = f 13 := hg40_13.trans hr36_13
            have hr40_14 : f40 14 = f 14 := hg40_14.trans hr36_14
            have hr40_15 : f40 15 = f 15 := hg40_15.trans hr36_15
            have hr40_7 : f40 7 = f 7 := hg40_7.trans hr36_7
            have hr40_8 : f40 8 = f 8 := hg40_8.trans hr36_8
            have hr40_9 : f40 9 = f 9 := hg40_9.trans hr36_9
            have hr40_10 : f40 10 = f 10 := hg40_10.trans hr36_10
            have hr40_11 : f40 11 = f 11 := hg40_11.trans hr36_11
            have hu41_2 := hv40.2.2.1
            have hb_112 := by39.2
            have sq40_0 : (v40 0).toInt = (v 0).toInt := by39.1.1.trans sq36_0
            have sq40_1 : (v40 1).toInt = (v33 1).toInt := by39.1.2.1.trans sq36_1
            have sq40_3 : (v40 3).toInt = (v 3).toInt := by39.1.2.2.1.trans sq36_3
            have sq40_4 : (v40 4).toInt = (v 4).toInt := by39.1.2.2.2.1.trans sq36_4
            have sq40_5 : (v40 5).toInt = (v 5).toInt := by39.1.2.2.2.2.1.trans sq36_5
            have sq40_6 : (v40 6).toInt = (v 6).toInt := by39.1.2.2.2.2.2.1.trans sq36_6
            have sp40 := by39.1.2.2.2.2.2.2
            have ob40 : OB v40 f40 (v 0).toInt (f 0) (f 1) := OB_fr ob36 (by omega) hg40_3 hg40_4
            clear by39
            refine pq_aload_n0 (pq_iload7 (pq_iconst (pq_iadd ?_)))
            intro m42 em_119
            try have e42 : m42.toInt = (x2).toInt + (1) := by rw [em_119]; exact pm_addc _ _ (1) rfl (by omega) (by omega)
            refine pq_iload8 (pq_iv2_11 ?_)
            have hp_122 : ∀ L, rp (v 0) (f 0) (f 1) L → rp (v40 0) (f40 0) (f40 1) L := fun L h => rp_fr h (by omega) hr40_0 hr40_1
            refine And.intro (Exists.intro _ md_o) (Exists.intro _ (Exists.intro _ (Exists.intro _ (Exists.intro _ (And.intro (U_X11_laysFrom D v40 f40 hv40 hf40 m42 x3 (by omega) (by omega) (by omega) (by omega)) (And.intro rfl (fun r9 A9 h9 => ?_)))))))
            obtain ⟨v44, f44, rfl, rfl, hv44, hf44, hx44, hg44_0, hg44_1, hg44_3, hg44_4, hg44_12, hg44_13, hg44_14, hg44_15, hg44_7, hg44_8, hg44_9, hg44_10, hg44_11, by43⟩ := h9
            refine pq_id0 ?_
            have hw44 : f44 2 = f 2 := hx44.trans hw40
            have hr44_0 : f44 0 = f 0 := hg44_0.trans hr40_0
            have hr44_1 : f44 1 = f 1 := hg44_1.trans hr40_1
            have hr44_12 : f44 12 = f 12 := hg44_12.trans hr40_12
            have hr44_13 : f44 13 = f 13 := hg44_13.trans hr40_13
            have hr44_14 : f44 14 = f 14 := hg44_14.trans hr40_14
            have hr44_15 : f44 15 = f 15 := hg44_15.trans hr40_15
            have hr44_7 : f44 7 = f 7 := hg44_7.trans hr40_7
            have hr44_8 : f44 8 = f 8 := hg44_8.trans hr40_8
            have hr44_9 : f44 9 = f 9 := hg44_9.trans hr40_9
            have hr44_10 : f44 10 = f 10 := hg44_10.trans hr40_10
            have hr44_11 : f44 11 = f 11 := hg44_11.trans hr40_11
            have hu45_2 := hv44.2.2.1
            have hb_122 := by43.2
            have sq44_0 : (v44 0).toInt = (v 0).toInt := by43.1.1.trans sq40_0
            have sq44_1 : (v44 1).toInt = (v33 1).toInt := by43.1.2.1.trans sq40_1
            have sq44_3 : (v44 3).toInt = (v 3).toInt := by43.1.2.2.1.trans sq40_3
            have sq44_4 : (v44 4).toInt = (v 4).toInt := by43.1.2.2.2.1.trans sq40_4
            have sq44_5 : (v44 5).toInt = (v 5).toInt := by43.1.2.2.2.2.1.trans sq40_5
            have sq44_6 : (v44 6).toInt = (v 6).toInt := by43.1.2.2.2.2.2.1.trans sq40_6
            have sp44 := by43.1.2.2.2.2.2.2
            have ob44 : OB v44 f44 (v 0).toInt (f 0) (f 1) := OB_fr ob40 (by omega) hg44_3 hg44_4
            clear by43
            refine pq_aload_n0 (pq_iload6 (pq_iload7 (pq_iconst (pq_iadd ?_))))
            intro m46 em_131
            try have e46 : m46.toInt = (x2).toInt + (1) := by rw [em_131]; exact pm_addc _ _ (1) rfl (by omega) (by omega)
            refine pq_iv2_11 ?_
            have hp_132 : ∀ L, rp (v 0) (f 0) (f 1) L → rp (v44 0) (f44 0) (f44 1) L := fun L h => rp_fr h (by omega) hr44_0 hr44_1
            refine And.intro (Exists.intro _ md_o) (Exists.intro _ (Exists.intro _ (Exists.intro _ (Exists.intro _ (And.intro (U_X11_laysFrom D v44 f44 hv44 hf44 x1 m46 (by omega) (by omega) (by omega) (by omega)) (And.intro rfl (fun r9 A9 h9 => ?_)))))))
            obtain ⟨v48, f48, rfl, rfl, hv48, hf48, hx48, hg48_0, hg48_1, hg48_3, hg48_4, hg48_12, hg48_13, hg48_14, hg48_15, hg48_7, hg48_8, hg48_9, hg48_10, hg48_11, by47⟩ := h9
            refine pq_id0 ?_
            have hw48 : f48 2 = f 2 := hx48.trans hw44
            have hr48_0 : f48 0 = f 0 := hg48_0.trans hr44_0
            have hr48_1 : f48 1 = f 1 := hg48_1.trans hr44_1
            have hr48_12 : f48 12 = f 12 := hg48_12.trans hr44_12
            have hr48_13 : f48 13 = f 13 := hg48_13.trans hr44_13
            have hr48_14 : f48 14 = f 14 := hg48_14.trans hr44_14
            have hr48_15 : f48 15 = f 15 := hg48_15.trans hr44_15
            have hr48_7 : f48 7 = f 7 := hg48_7.trans hr44_7
            have hr48_8 : f48 8 = f 8 := hg48_8.trans hr44_8
            have hr48_9 : f48 9 = f 9 := hg48_9.trans hr44_9
            have hr48_10 : f48 10 = f 10 := hg48_10.trans hr44_10
            have hr48_11 : f48 11 = f 11 := hg48_11.trans hr44_11
            have hu49_2 := hv48.2.2.1
            have hb_132 := by47.2
            have sq48_0 : (v48 0).toInt = (v 0).toInt := by47.1.1.trans sq44_0
            have sq48_1 : (v48 1).toInt = (v33 1).toInt := by47.1.2.1.trans sq44_1
            have sq48_3 : (v48 3).toInt = (v 3).toInt := by47.1.2.2.1.trans sq44_3
            have sq48_4 : (v48 4).toInt = (v 4).toInt := by47.1.2.2.2.1.trans sq44_4
            have sq48_5 : (v48 5).toInt = (v 5).toInt := by47.1.2.2.2.2.1.trans sq44_5
            have sq48_6 : (v48 6).toInt = (v 6).toInt := by47.1.2.2.2.2.2.1.trans sq44_6
            have sp48 := by47.1.2.2.2.2.2.2
            have ob48 : OB v48 f48 (v 0).toInt (f 0) (f 1) := OB_fr ob44 (by omega) hg48_3 hg48_4
            clear by47
            refine pq_aload_n0 (pq_iload9 (pq_iconst (pq_iadd ?_)))
            intro m50 em_139
            try have e50 : m50.toInt = (x4).toInt + (1) := by rw [em_139]; exact pm_addc _ _ (1) rfl (by omega) (by omega)
            refine pq_aload_n0 (qgm_many (pq_iv2_11 ?_))
            have hp_144 : ∀ L, rp (v 0) (f 0) (f 1) L → rp (v48 0) (f48 0) (f48 1) L := fun L h => rp_fr h (by omega) hr48_0 hr48_1
            refine And.intro (Exists.intro _ md_o) (Exists.intro _ (Exists.intro _ (Exists.intro _ (Exists.intro _ (And.intro (U_X11_laysFrom D v48 f48 hv48 hf48 m50 (v48 0) (by omega) (by omega) (by omega) (by omega)) (And.intro rfl (fun r9 A9 h9 => ?_)))))))
            obtain ⟨v52, f52, rfl, rfl, hv52, hf52, hx52, hg52_0, hg52_1, hg52_3, hg52_4, hg52_12, hg52_13, hg52_14, hg52_15, hg52_7, hg52_8, hg52_9, hg52_10, hg52_11, by51⟩ := h9
            refine pq_id0 ?_
            have hw52 : f52 2 = f 2 := hx52.trans hw48
            have hr52_0 : f52 0 = f 0 := hg52_0.trans hr48_0
            have hr52_1 : f52 1 = f 1 := hg52_1.trans hr48_1
            have hr52_12 : f52 12 = f 12 := hg52_12.trans hr48_12
            have hr52_13 : f52 13 = f 13 := hg52_13.trans hr48_13
            have hr52_14 : f52 14 = f 14 := hg52_14.trans hr48_14
            have hr52_15 : f52 15 = f 15 := hg52_15.trans hr48_15
            have hr52_7 : f52 7 = f 7 := hg52_7.trans hr48_7
            have hr52_8 : f52 8 = f 8 := hg52_8.trans hr48_8
            have hr52_9 : f52 9 = f 9 := hg52_9.trans hr48_9
            have hr52_10 : f52 10 = f 10 := hg52_10.trans hr48_10
            have hr52_11 : f52 11 = f 11 := hg52_11.trans hr48_11
            have hu53_2 := hv52.2.2.1
            have hb_144 := by51.2
            have sq52_0 : (v52 0).toInt = (v 0).toInt := by51.1.1.trans sq48_0
            have sq52_1 : (v52 1).toInt = (v33 1).toInt := by51.1.2.1.trans sq48_1
            have sq52_3 : (v52 3).toInt = (v 3).toInt := by51.1.2.2.1.trans sq48_3
            have sq52_4 : (v52 4).toInt = (v 4).toInt := by51.1.2.2.2.1.trans sq48_4
            have sq52_5 : (v52 5).toInt = (v 5).toInt := by51.1.2.2.2.2.1.trans sq48_5
            have sq52_6 : (v52 6).toInt = (v 6).toInt := by51.1.2.2.2.2.2.1.trans sq48_6
            have sp52 := by51.1.2.2.2.2.2.2
            have ob52 : OB v52 f52 (v 0).toInt (f 0) (f 1) := OB_fr ob48 (by omega) hg52_3 hg52_4
            clear by51
            refine pq_aload_n0 (pq_iv0_11 ?_)
            refine And.intro (Exists.intro _ md_o) (Exists.intro _ (Exists.intro _ (Exists.intro _ (Exists.intro _ (And.intro (U_X11_ends D v52 f52 hv52 hf52  (by omega)) (And.intro rfl (fun r9 A9 h9 => ?_)))))))
            obtain ⟨y54, v55, f55, rfl, rfl, hv55, hf55, hx55, hg55_7, hg55_8, hg55_9, hg55_10, hg55_11, by54⟩ := h9
            refine pq_id1 ?_
            have hw55 : f55 2 = f 2 := hx55.trans hw52
            have hr55_7 : f55 7 = f 7 := hg55_7.trans hr52_7
            have hr55_8 : f55 8 = f 8 := hg55_8.trans hr52_8
            have hr55_9 : f55 9 = f 9 := hg55_9.trans hr52_9
            have hr55_10 : f55 10 = f 10 := hg55_10.trans hr52_10
            have hr55_11 : f55 11 = f 11 := hg55_11.trans hr52_11
            have hu56_0 := hv55.1
            have hu56_4 := hv55.2.2.2.2.1
            have hb_148 := by54.2.1
            have sq55_1 : (v55 1).toInt = (v33 1).toInt := by54.1.1.trans sq52_1
            have sq55_2 : (v55 2).toInt = (v52 2).toInt := by54.1.2.1
            have sq55_3 : (v55 3).toInt = (v 3).toInt := by54.1.2.2.1.trans sq52_3
            have sq55_6 : (v55 6).toInt = (v 6).toInt := by54.1.2.2.2.1.trans sq52_6
            have sp55 := by54.1.2.2.2.2
            have hm_9 := HM_fr by54.2.2.1 hr52_12 hr52_13 hr52_14 hr52_15
            have ha_9 := by54.2.2.2.1 _ _ _ ob52
            have h5_9 := by54.2.2.2.2
            clear by54
            refine pq_iret ?_
            exact ⟨rfl, fun e9 => absurd e9 (by decide), rfl, y54, v55, f55, rfl, rfl, hv55, hf55, hw55, hr55_7, hr55_8, hr55_9, hr55_10, hr55_11, by first | omega | (dsimp only; omega) | trivial, by refine ⟨?_, ?_, ?_⟩; (first | (intro L hL; have hl := hL.1; rw [ed_swap, if_pos (by omega), if_pos (by omega)]; have t1 := hb_102 L [] 0 x1.toInt (hp_102 L hL) rfl rfl (by omega) (by omega) (rp_0 (by omega)); have t2 := hb_112 L _ x3.toInt (x4.toInt + 1) (hp_112 L hL) (by omega) (by omega) (by omega) (by omega) t1; have t3 := hb_122 L _ (x2.toInt + 1) x3.toInt (hp_122 L hL) (by omega) (by omega) (by omega) (by omega) t2; have t4 := hb_132 L _ x1.toInt (x2.toInt + 1) (hp_132 L hL) (by omega) (by omega) (by omega) (by omega) t3; have t5 := hb_144 L _ (x4.toInt + 1) L.length (hp_144 L hL) (by omega) (by omega) (by omega) (by omega) t4; rw [List.nil_append] at t5; exact ⟨hb_148 _ t5, by show _ = _ + (1 : Int); omega, by show _ = _ + (1 : Int) * _; omega⟩) | (intro L hL; have hl := hL.1; rw [ed_swap, if_pos (by omega), if_neg (by omega)]; have t1 := hb_102 L [] 0 x3.toInt (hp_102 L hL) rfl rfl (by omega) (by omega) (rp_0 (by omega)); have t2 := hb_112 L _ x1.toInt (x2.toInt + 1) (hp_112 L hL) (by omega) (by omega) (by omega) (by omega) t1; have t3 := hb_122 L _ (x4.toInt + 1) x1.toInt (hp_122 L hL) (by omega) (by omega) (by omega) (by omega) t2; have t4 := hb_132 L _ x3.toInt (x4.toInt + 1) (hp_132 L hL) (by omega) (by omega) (by omega) (by omega) t3; have t5 := hb_144 L _ (x2.toInt + 1) L.length (hp_144 L hL) (by omega) (by omega) (by omega) (by omega) t4; rw [List.nil_append] at t5; exact ⟨hb_148 _ t5, by show _ = _ + (1 : Int); omega, by show _ = _ + (1 : Int) * _; omega⟩)); (first | (exact Or.inr ⟨by omega, hm_9⟩) | (exact Or.inl ⟨by omega, hr_missing, hr_missing, hr_missing, hr_missing⟩)); (first | (exact hq_9) | (exact Or.inr ⟨by omega, ha_9, h5_9.trans (by congr 1; exact pm_eqI (by omega))⟩) | (exact Or.inl ⟨rfl, rfl, rfl⟩))⟩
        · skip
          refine pq_nil ?_
          refine hC.1 1 30 _ _ rfl _ _ _ _ _ ?_
          have km1 : (-1 : Int32).toInt = -1 := rfl
          refine pq_iconst (pq_iret ?_)
          exact ⟨rfl, fun e9 => absurd e9 (by decide), rfl, (-1 : Int32), v, f, rfl, rfl, hv, hf, rfl, rfl, rfl, rfl, rfl, rfl, by first | omega | (dsimp only; omega) | trivial, by refine ⟨?_, ?_, ?_⟩; (intro L hL; have hl := hL.1; rw [ed_swap, if_neg (by omega)]; exact ⟨hL, by show _ = _ + (0 : Int); omega, by show _ = _ + (0 : Int) * _; omega⟩); (first | (exact Or.inr ⟨by omega, hm_9⟩) | (exact Or.inl ⟨by omega, rfl, rfl, rfl, rfl⟩)); (first | (exact hq_9) | (exact Or.inr ⟨by omega, ha_9, h5_9.trans (by congr 1; exact pm_eqI (by omega))⟩) | (exact Or.inl ⟨rfl, rfl, rfl⟩))⟩
    · skip
      have k0 : (0 : Int32).toInt = 0 := rfl
      refine pq_id1 (pq_icond_eq ?_)
      refine And.intro (fun _ => ?_) (fun c9 => absurd c9 (by decide))
      refine hC.1 1 30 _ _ rfl _ _ _ _ _ ?_
      have km1 : (-1 : Int32).toInt = -1 := rfl
      refine pq_iconst (pq_iret ?_)
      exact ⟨rfl, fun e9 => absurd e9 (by decide), rfl, (-1 : Int32), v, f, rfl, rfl, hv, hf, rfl, rfl, rfl, rfl, rfl, rfl, by first | omega | (dsimp only; omega) | trivial, by refine ⟨?_, ?_, ?_⟩; (intro L hL; have hl := hL.1; rw [ed_swap, if_neg (by omega)]; exact ⟨hL, by show _ = _ + (0 : Int); omega, by show _ = _ + (0 : Int) * _; omega⟩); (first | (exact Or.inr ⟨by omega, hm_9⟩) | (exact Or.inl ⟨by omega, rfl, rfl, rfl, rfl⟩)); (first | (exact hq_9) | (exact Or.inr ⟨by omega, ha_9, h5_9.trans (by congr 1; exact pm_eqI (by omega))⟩) | (exact Or.inl ⟨rfl, rfl, rfl⟩))⟩
  · skip
    have k0 : (0 : Int32).toInt = 0 := rfl
    refine pq_id1 (pq_icond_eq ?_)
    refine And.intro (fun _ => ?_) (fun c9 => absurd c9 (by decide))
    refine hC.1 1 30 _ _ rfl _ _ _ _ _ ?_
    have km1 : (-1 : Int32).toInt = -1 := rfl
    refine pq_iconst (pq_iret ?_)
    exact ⟨rfl, fun e9 => absurd e9 (by decide), rfl, (-1 : Int32), v, f, rfl, rfl, hv, hf, rfl, rfl, rfl, rfl, rfl, rfl, by first | omega | (dsimp only; omega) | trivial, by refine ⟨?_, ?_, ?_⟩; (intro L hL; have hl := hL.1; rw [ed_swap, if_neg (by omega)]; exact ⟨hL, by show _ = _ + (0 : Int); omega, by show _ = _ + (0 : Int) * _; omega⟩); (first | (exact Or.inr ⟨by omega, hm_9⟩) | (exact Or.inl ⟨by omega, rfl, rfl, rfl, rfl⟩)); (first | (exact hq_9) | (exact Or.inr ⟨by omega, ha_9, h5_9.trans (by congr 1; exact pm_eqI (by omega))⟩) | (exact Or.inl ⟨rfl, rfl, rfl⟩))⟩

end
end
section
section
variable {l : Launch} {g : pm_G} {A0 : pm_H} {h : Nat} {q : Nat → Nat}
set_option maxRecDepth 100000 in
set_option maxHeartbeats 2000000 in
theorem U_X11_copy (D : md_D h q) (v : Nat → Int32) (f : Nat → Nat → Int32) (hv : md_V v) (hf : md_F f) (x1 : Int32) (x2 : Int32) (x3 : Int32) (p0 : (v 4).toInt < 100000) : pm_Mt l g 192 4 0 0 [.ref h, .int x1, .int x2, .int x3] (md A0 g h q v f) (md_Qw A0 g h q f (fun r v2 f2 => f2 7 = f 7 ∧ f2 8 = f 8 ∧ f2 9 = f 9 ∧ f2 10 = f 10 ∧ f2 11 = f 11 ∧ ((v2 6).toInt = (v 6).toInt ∧ (v2 4).toInt ≤ (v 4).toInt + 1 ∧ (v 4).toInt ≤ (v2 4).toInt) ∧ ((∀ L, rp (v 0) (f 0) (f 1) L → rp (v2 0) (f2 0) (f2 1) ((ed_copy L (v 3) x1 x2 x3).getD L) ∧ (v2 4).toInt = (v 4).toInt + edn (ed_copy L (v 3) x1 x2 x3) ∧ (v2 3).toInt = (v 3).toInt + edn (ed_copy L (v 3) x1 x2 x3) * (x2.toInt - x1.toInt + 1)) ∧ (HMe (v 4).toInt f v2 f2 r.toInt) ∧ (((v2 4).toInt = (v 4).toInt ∧ r.toInt = -1 ∧ v2 5 = v 5) ∨ ((v2 4).toInt = (v 4).toInt + 1 ∧ r.toInt = (tcN (v 0).toInt (f 0) (f 1) (f2 0) (f2 1) (v2 0).toInt.toNat : Int) ∧ v2 5 = v 5 + r))))) := by
  refine mt_X11_copy rfl (fun J hC => ?_)
  have hv9 := hv
  unfold md_V at hv9
  have rg_x1 := pm_rng x1
  have rg_x2 := pm_rng x2
  have rg_x3 := pm_rng x3
  refine hC.1 0 0 _ _ rfl _ _ _ _ _ ?_
  refine And.intro (Exists.intro _ md_o) (Exists.intro _ (Exists.intro _ (Exists.intro _ (Exists.intro _ (And.intro (c_X11_isSpan D v f hv hf x1 x2 ) (And.intro rfl (fun r9 A9 h9 => ?_)))))))
  rcases h9 with ⟨y1, rfl, rfl, ⟨rfl, by1⟩ | ⟨rfl, by1⟩⟩
  · skip
    have k1 : (1 : Int32).toInt = 1 := rfl
    refine And.intro (fun c9 => absurd c9 (by decide)) (fun _ => ?_)
    have k0 : (0 : Int32).toInt = 0 := rfl
    refine Exists.intro _ (And.intro md_o ?_)
    refine Exists.intro _ (Exists.intro _ (Exists.intro _ (Exists.intro _ (And.intro (c_X11_isIn (md A0 g h q v f) x3 (0 : Int32) (v 0) ) (And.intro rfl (fun r9 A9 h9 => ?_))))))
    rcases h9 with ⟨y2, rfl, rfl, ⟨rfl, by2⟩ | ⟨rfl, by2⟩⟩
    · skip
      refine And.intro (fun c9 => absurd c9 (by decide)) (fun _ => ?_)
      intro m3 em_24
      try have e3 : m3.toInt = (x2).toInt - (x1).toInt := by rw [em_24]; exact pm_sub _ _ (by omega) (by omega)
      intro m4 em_26
      try have e4 : m4.toInt = (m3).toInt + (1) := by rw [em_26]; exact pm_addc _ _ (1) rfl (by omega) (by omega)
      refine And.intro (Exists.intro _ md_o) (Exists.intro _ (Exists.intro _ (Exists.intro _ (Exists.intro _ (And.intro (c_X11_hasRoom D v f hv hf m4 (by omega)) (And.intro rfl (fun r9 A9 h9 => ?_)))))))
      rcases h9 with ⟨y5, rfl, rfl, ⟨rfl, by5⟩ | ⟨rfl, by5⟩⟩
      · skip
        refine And.intro (fun _ => ?_) (fun c9 => absurd c9 (by decide))
        refine hC.1 2 35 _ _ rfl _ _ _ _ _ ?_
        refine And.intro (Exists.intro _ md_o) (Exists.intro _ (Exists.intro _ (Exists.intro _ (Exists.intro _ (And.intro (U_X11_begins D v f hv hf  ) (And.intro rfl (fun r9 A9 h9 => ?_)))))))
        obtain ⟨v7, f7, rfl, rfl, hv7, hf7, hx7, hg7_0, hg7_1, hg7_12, hg7_13, hg7_14, hg7_15, hg7_7, hg7_8, hg7_9, hg7_10, hg7_11, by6⟩ := h9
        have hw7 : f7 2 = f 2 := hx7.trans rfl
        have hr7_0 : f7 0 = f 0 := hg7_0.trans rfl
        have hr7_1 : f7 1 = f 1 := hg7_1.trans rfl
        have hr7_12 : f7 12 = f 12 := hg7_12.trans rfl
        have hr7_13 : f7 13 = f 13 := hg7_13.trans rfl
        have hr7_14 : f7 14 = f 14 := hg7_14.trans rfl
        have hr7_15 : f7 15 = f 15 := hg7_15.trans rfl
        have hr7_7 : f7 7 = f 7 := hg7_7.trans rfl
        have hr7_8 : f7 8 = f 8 := hg7_8.trans rfl
        have hr7_9 : f7 9 = f 9 := hg7_9.trans rfl
        have hr7_10 : f7 10 = f 10 := hg7_10.trans rfl
        have hr7_11 : f7 11 = f 11 := hg7_11.trans rfl
        have hu8_1 := hv7.2.1
        have hu8_2 := hv7.2.2.1
        have hb_36 := by6.2
        have sq7_0 : (v7 0).toInt = (v 0).toInt := by6.1.1
        have sq7_3 : (v7 3).toInt = (v 3).toInt := by6.1.2.1
        have sq7_4 : (v7 4).toInt = (v 4).toInt := by6.1.2.2.1
        have sq7_5 : (v7 5).toInt = (v 5).toInt := by6.1.2.2.2.1
        have sq7_6 : (v7 6).toInt = (v 6).toInt := by6.1.2.2.2.2.1
        have sp7 := by6.1.2.2.2.2.2
        have ob7 : OB v7 f7 (v 0).toInt (f 0) (f 1) := by6.2
        clear by6
        have hp_42 : ∀ L, rp (v 0) (f 0) (f 1) L → rp (v7 0) (f7 0) (f7 1) L := fun L h => rp_fr h (by omega) hr7_0 hr7_1
        refine And.intro (Exists.intro _ md_o) (Exists.intro _ (Exists.intro _ (Exists.intro _ (Exists.intro _ (And.intro (U_X11_laysFrom D v7 f7 hv7 hf7 (0 : Int32) x3 (by omega) (by omega) (by omega) (by omega)) (And.intro rfl (fun r9 A9 h9 => ?_)))))))
        obtain ⟨v10, f10, rfl, rfl, hv10, hf10, hx10, hg10_0, hg10_1, hg10_3, hg10_4, hg10_12, hg10_13, hg10_14, hg10_15, hg10_7, hg10_8, hg10_9, hg10_10, hg10_11, by9⟩ := h9
        have hw10 : f10 2 = f 2 := hx10.trans hw7
        have hr10_0 : f10 0 = f 0 := hg10_0.trans hr7_0
        have hr10_1 : f10 1 = f 1 := hg10_1.trans hr7_1
        have hr10_12 : f10 12 = f 12 := hg10_12.trans hr7_12
        have hr10_13 : f10 13 = f 13 := hg10_13.trans hr7_13
        have hr10_14 : f10 14 = f 14 := hg10_14.trans hr7_14
        have hr10_15 : f10 15 = f 15 := hg10_15.trans hr7_15
        have hr10_7 : f10 7 = f 7 := hg10_7.trans hr7_7
        have hr10_8 : f10 8 = f 8 := hg10_8.trans hr7_8
        have hr10_9 : f10 9 = f 9 := hg10_9.trans hr7_9
        have hr10_10 : f10 10 = f 10 := hg10_10.trans hr7_10
        have hr10_11 : f10 11 = f 11 := hg10_11.trans hr7_11
        have hu11_2 := hv10.2.2.1
        have hb_42 := by9.2
        have sq10_0 : (v10 0).toInt = (v 0).toInt := by9.1.1.trans sq7_0
        have sq10_1 : (v10 1).toInt = (v7 1).toInt := by9.1.2.1
        have sq10_3 : (v10 3).toInt = (v 3).toInt := by9.1.2.2.1.trans sq7_3
        have sq10_4 : (v10 4).toInt = (v 4).toInt := by9.1.2.2.2.1.trans sq7_4
        have sq10_5 : (v10 5).toInt = (v 5).toInt := by9.1.2.2.2.2.1.trans sq7_5
        have sq10_6 : (v10 6).toInt = (v 6).toInt := by9.1.2.2.2.2.2.1.trans sq7_6
        have sp10 := by9.1.2.2.2.2.2.2
        have ob10 : OB v10 f10 (v 0).toInt (f 0) (f 1) := OB_fr ob7 (by omega) hg10_3 hg10_4
        clear by9
        have lp13 : ∀ (n : Nat) (z4_48 : Int32) (v12 : Nat → Int32) (f12 : Nat → Nat → Int32), md_V v12 → md_F f12 → f12 2 = f 2 → f12 0 = f 0 → f12 1 = f 1 → f12 12 = f 12 → f12 13 = f 13 → f12 14 = f 14 → f12 15 = f 15 → f12 7 = f 7 → f12 8 = f 8 → f12 9 = f 9 → f12 10 = f 10 → f12 11 = f 11 → OB v12 f12 (v 0).toInt (f 0) (f 1) → (x1.toInt ≤ z4_48.toInt ∧ z4_48.toInt ≤ x2.toInt + 1) → ((v12 0).toInt = (v 0).toInt ∧ (v12 4).toInt = (v 4).toInt ∧ (v12 2).toInt = x3.toInt + (z4_48.toInt - x1.toInt) ∧ (v12 3).toInt = (v 3).toInt + (z4_48.toInt - x1.toInt) ∧ (v12 5).toInt = (v 5).toInt) → (∀ L, rp (v 0) (f 0) (f 1) L → rp (v12 2) (f12 5) (f12 6) (si L 0 x3.toInt ++ nw_l (v 3) ((si L x1.toInt z4_48.toInt).map Prod.fst))) → (v12 6).toInt = (v 6).toInt → 200 - z4_48.toInt < (n : Int) → J 48 [some (.ref h), some (.int x1), some (.int x2), some (.int x3), some (.int z4_48)] [] (md A0 g h q v12 f12) 0 0 := by
          intro n
          induction n with
          | zero =>
            intro z4_48 v12 f12 hv12 hf12 hw12 hr12_0 hr12_1 hr12_12 hr12_13 hr12_14 hr12_15 hr12_7 hr12_8 hr12_9 hr12_10 hr12_11 ob12 j0_48 j1_48 j2_48 j3_48 j4_48
            clear hu8_1 hu8_2 sq7_0 sq7_3 sq7_4 sq7_5 sq7_6 sp7 hu11_2 sq10_0 sq10_1 sq10_3 sq10_4 sq10_5 sq10_6 sp10
            omega
          | succ n ih14 =>
            intro z4_48 v12 f12 hv12 hf12 hw12 hr12_0 hr12_1 hr12_12 hr12_13 hr12_14 hr12_15 hr12_7 hr12_8 hr12_9 hr12_10 hr12_11 ob12 j0_48 j1_48 j2_48 j3_48 j4_48
            clear hu8_1 hu8_2 sq7_0 sq7_3 sq7_4 sq7_5 sq7_6 sp7 hu11_2 sq10_0 sq10_1 sq10_3 sq10_4 sq10_5 sq10_6 sp10
            have lr0 := hr12_0
            have lr1 := hr12_1
            have lv3 : ∃ z9, z9 = v12 3 := ⟨_, rfl⟩
            obtain ⟨g48, eg48⟩ := lv3
            refine hC.1 3 48 _ _ rfl _ _ _ _ _ ?_
            have hu15_0 := hv12.1
            have hu15_1 := hv12.2.1
            have hu15_2 := hv12.2.2.1
            have hu15_3 := hv12.2.2.2.1
            have hu15_4 := hv12.2.2.2.2.1
            refine And.intro (fun c16 => ?_) (fun c16 => ?_)
            · skip
              refine hC.1 4 71 _ _ rfl _ _ _ _ _ ?_
              refine Exists.intro _ (And.intro md_o ?_)
              have hp_77 : ∀ L, rp (v 0) (f 0) (f 1) L → rp (v12 0) (f12 0) (f12 1) L := fun L h => rp_fr h (by omega) hr12_0 hr12_1
              refine And.intro (Exists.intro _ md_o) (Exists.intro _ (Exists.intro _ (Exists.intro _ (Exists.intro _ (And.intro (U_X11_laysFrom D v12 f12 hv12 hf12 x3 (v12 0) (by omega) (by omega) (by omega) (by omega)) (And.intro rfl (fun r9 A9 h9 => ?_)))))))
              obtain ⟨v18, f18, rfl, rfl, hv18, hf18, hx18, hg18_0, hg18_1, hg18_3, hg18_4, hg18_12, hg18_13, hg18_14, hg18_15, hg18_7, hg18_8, hg18_9, hg18_10, hg18_11, by17⟩ := h9
              have hw18 : f18 2 = f 2 := hx18.trans hw12
              have hr18_0 : f18 0 = f 0 := hg18_0.trans hr12_0
              have hr18_1 : f18 1 = f 1 := hg18_1.trans hr12_1
              have hr18_12 : f18 12 = f 12 := hg18_12.trans hr12_12
              have hr18_13 : f18 13 = f 13 := hg18_13.trans hr12_13
              have hr18_14 : f18 14 = f 14 := hg18_14.trans hr12_14
              have hr18_15 : f18 15 = f 15 := hg18_15.trans hr12_15
              have hr18_7 : f18 7 = f 7 := hg18_7.trans hr12_7
              have hr18_8 : f18 8 = f 8 := hg18_8.trans hr12_8
              have hr18_9 : f18 9 = f 9 := hg18_9.trans hr12_9
              have hr18_10 : f18 10 = f 10 := hg18_10.trans hr12_10
              have hr18_11 : f18 11 = f 11 := hg18_11.trans hr12_11
              have hu19_2 := hv18.2.2.1
              have hb_77 := by17.2
              have sq18_0 : (v18 0).toInt = (v12 0).toInt := by17.1.1
              have sq18_1 : (v18 1).toInt = (v12 1).toInt := by17.1.2.1
              have sq18_3 : (v18 3).toInt = (v12 3).toInt := by17.1.2.2.1
              have sq18_4 : (v18 4).toInt = (v12 4).toInt := by17.1.2.2.2.1
              have sq18_5 : (v18 5).toInt = (v12 5).toInt := by17.1.2.2.2.2.1
              have sq18_6 : (v18 6).toInt = (v12 6).toInt := by17.1.2.2.2.2.2.1
              have sp18 := by17.1.2.2.2.2.2.2
              have ob18 : OB v18 f18 (v 0).toInt (f 0) (f 1) := OB_fr ob12 (by omega) hg18_3 hg18_4
              clear by17
              refine And.intro (Exists.intro _ md_o) (Exists.intro _ (Exists.intro _ (Exists.intro _ (Exists.intro _ (And.intro (U_X11_ends D v18 f18 hv18 hf18  (by omega)) (And.intro rfl (fun r9 A9 h9 => ?_)))))))
              obtain ⟨y20, v21, f21, rfl, rfl, hv21, hf21, hx21, hg21_7, hg21_8, hg21_9, hg21_10, hg21_11, by20⟩ := h9
              have hw21 : f21 2 = f 2 := hx21.trans hw18
              have hr21_7 : f21 7 = f 7 := hg21_7.trans hr18_7
              have hr21_8 : f21 8 = f 8 := hg21_8.trans hr18_8
              have hr21_9 : f21 9 = f 9 := hg21_9.trans hr18_9
              have hr21_10 : f21 10 = f 10 := hg21_10.trans hr18_10
              have hr21_11 : f21 11 = f 11 := hg21_11.trans hr18_11
              have hu22_0 := hv21.1
              have hu22_4 := hv21.2.2.2.2.1
              have hb_81 := by20.2.1
              have sq21_1 : (v21 1).toInt = (v12 1).toInt := by20.1.1.trans sq18_1
              have sq21_2 : (v21 2).toInt = (v18 2).toInt := by20.1.2.1
              have sq21_3 : (v21 3).toInt = (v12 3).toInt := by20.1.2.2.1.trans sq18_3
              have sq21_6 : (v21 6).toInt = (v12 6).toInt := by20.1.2.2.2.1.trans sq18_6
              have sp21 := by20.1.2.2.2.2
              have hm_9 := HM_fr by20.2.2.1 hr18_12 hr18_13 hr18_14 hr18_15
              have ha_9 := by20.2.2.2.1 _ _ _ ob18
              have h5_9 := by20.2.2.2.2
              clear by20
              exact ⟨rfl, fun e9 => absurd e9 (by decide), rfl, y20, v21, f21, rfl, rfl, hv21, hf21, hw21, hr21_7, hr21_8, hr21_9, hr21_10, hr21_11, by first | omega | (dsimp only; omega) | trivial, by refine ⟨?_, ?_, ?_⟩; (intro L hL; have hl := hL.1; rw [ed_copy, if_pos (by omega)]; have t2 := j2_48 L hL; rw [show z4_48.toInt = x2.toInt + 1 by omega] at t2; have t3 := hb_77 L _ (x3.toInt) L.length (hp_77 L hL) (by omega) (by omega) (by omega) (by omega) t2; exact ⟨hb_81 _ t3, by show _ = _ + (1 : Int); omega, by show _ = _ + (1 : Int) * _; omega⟩); (first | (exact Or.inr ⟨by omega, hm_9⟩) | (exact Or.inl ⟨by omega, hr_missing, hr_missing, hr_missing, hr_missing⟩)); (first | (exact hq_9) | (exact Or.inr ⟨by omega, ha_9, h5_9.trans (by congr 1; exact pm_eqI (by omega))⟩) | (exact Or.inl ⟨rfl, rfl, rfl⟩))⟩
            · skip
              refine Exists.intro _ (And.intro md_o ?_)
              refine Exists.intro _ (Exists.intro _ (And.intro (Or.inl (md_a_colours D)) (And.intro (by omega) ?_)))
              have w23 : (0 : Int) ≤ (f12 0 (z4_48).toInt.toNat).toInt ∧ (f12 0 (z4_48).toInt.toNat).toInt ≤ (23 : Int) := hf12 0 _
              refine And.intro (Exists.intro _ md_o) (Exists.intro _ (Exists.intro _ (Exists.intro _ (Exists.intro _ (And.intro (U_X11_laysNew D v12 f12 hv12 hf12 (f12 0 (z4_48).toInt.toNat) (by omega) (by omega) (by omega)) (And.intro rfl (fun r9 A9 h9 => ?_)))))))
              obtain ⟨v25, f25, rfl, rfl, hv25, hf25, hx25, hg25_0, hg25_1, hg25_3, hg25_4, hg25_12, hg25_13, hg25_14, hg25_15, hg25_7, hg25_8, hg25_9, hg25_10, hg25_11, by24⟩ := h9
              have hw25 : f25 2 = f 2 := hx25.trans hw12
              have hr25_0 : f25 0 = f 0 := hg25_0.trans hr12_0
              have hr25_1 : f25 1 = f 1 := hg25_1.trans hr12_1
              have hr25_12 : f25 12 = f 12 := hg25_12.trans hr12_12
              have hr25_13 : f25 13 = f 13 := hg25_13.trans hr12_13
              have hr25_14 : f25 14 = f 14 := hg25_14.trans hr12_14
              have hr25_15 : f25 15 = f 15 := hg25_15.trans hr12_15
              have hr25_7 : f25 7 = f 7 := hg25_7.trans hr12_7
              have hr25_8 : f25 8 = f 8 := hg25_8.trans hr12_8
              have hr25_9 : f25 9 = f 9 := hg25_9.trans hr12_9
              have hr25_10 : f25 10 = f 10 := hg25_10.trans hr12_10
              have hr25_11 : f25 11 = f 11 := hg25_11.trans hr12_11
              have hu26_2 := hv25.2.2.1
              have hu26_3 := hv25.2.2.2.1
              have hb_62 := by24.2
              have sq25_0 : (v25 0).toInt = (v12 0).toInt := by24.1.1
              have sq25_1 : (v25 1).toInt = (v12 1).toInt := by24.1.2.1
              have sq25_4 : (v25 4).toInt = (v12 4).toInt := by24.1.2.2.1
              have sq25_5 : (v25 5).toInt = (v12 5).toInt := by24.1.2.2.2.1
              have sq25_6 : (v25 6).toInt = (v12 6).toInt := by24.1.2.2.2.2.1
              have sp25 := by24.1.2.2.2.2.2
              have ob25 : OB v25 f25 (v 0).toInt (f 0) (f 1) := OB_fr ob12 (by omega) hg25_3 hg25_4
              have hb9 := by24.2
              clear by24
              intro m27 em_65
              try have e27 : m27.toInt = (z4_48).toInt + (1) := by rw [em_65]; exact pm_addc _ _ (1) rfl (by omega) (by omega)
              exact ih14 m27 v25 f25 hv25 hf25 hw25 hr25_0 hr25_1 hr25_12 hr25_13 hr25_14 hr25_15 hr25_7 hr25_8 hr25_9 hr25_10 hr25_11 ob25 (by omega) (by omega) (by intro L hL; have hl := hL.1; rw [show m27.toInt = z4_48.toInt + 1 by omega, si_s hL (a := x1.toInt) (z := z4_48.toInt) (by omega) (by omega) (by omega), List.map_append, List.map_cons, List.map_nil]; have hk := si_len (L := L) (a := x1.toInt) (b := z4_48.toInt) (by omega) (by omega) (by omega); rw [nw_app (g2 := g48) (by rw [eg48, List.length_map]; omega) (by rw [List.length_map]; omega), ← List.append_assoc]; have h4 := hb9 _ g48 (by rw [eg48]) (j2_48 L hL); rw [lr0] at h4; exact h4) (by omega) (by omega)
        exact lp13 (200 - x1.toInt).toNat.succ x1 v10 f10 hv10 hf10 hw10 hr10_0 hr10_1 hr10_12 hr10_13 hr10_14 hr10_15 hr10_7 hr10_8 hr10_9 hr10_10 hr10_11 ob10 (by omega) (by omega) (by intro L hL; have hl := hL.1; rw [si_n (Int.le_refl _)]; have t1 := hb_42 L [] 0 x3.toInt (hp_42 L hL) rfl rfl (by omega) (by omega) (rp_0 (by omega)); rw [List.nil_append] at t1; show rp _ _ _ (si L 0 x3.toInt ++ []); rw [List.append_nil]; exact t1) (by omega) (by omega)
      · skip
        refine And.intro (fun c9 => absurd c9 (by decide)) (fun _ => ?_)
        refine hC.1 1 33 _ _ rfl _ _ _ _ _ ?_
        have km1 : (-1 : Int32).toInt = -1 := rfl
        exact ⟨rfl, fun e9 => absurd e9 (by decide), rfl, (-1 : Int32), v, f, rfl, rfl, hv, hf, rfl, rfl, rfl, rfl, rfl, rfl, by first | omega | (dsimp only; omega) | trivial, by refine ⟨?_, ?_, ?_⟩; (intro L hL; have hl := hL.1; rw [ed_copy, if_neg (by omega)]; exact ⟨hL, by show _ = _ + (0 : Int); omega, by show _ = _ + (0 : Int) * _; omega⟩); (first | (exact Or.inr ⟨by omega, hm_9⟩) | (exact Or.inl ⟨by omega, rfl, rfl, rfl, rfl⟩)); (first | (exact hq_9) | (exact Or.inr ⟨by omega, ha_9, h5_9.trans (by congr 1; exact pm_eqI (by omega))⟩) | (exact Or.inl ⟨rfl, rfl, rfl⟩))⟩
    · skip
      refine And.intro (fun _ => ?_) (fun c9 => absurd c9 (by decide))
      refine hC.1 1 33 _ _ rfl _ _ _ _ _ ?_
      have km1 : (-1 : Int32).toInt = -1 := rfl
      exact ⟨rfl, fun e9 => absurd e9 (by decide), rfl, (-1 : Int32), v, f, rfl, rfl, hv, hf, rfl, rfl, rfl, rfl, rfl, rfl, by first | omega | (dsimp only; omega) | trivial, by refine ⟨?_, ?_, ?_⟩; (intro L hL; have hl := hL.1; rw [ed_copy, if_neg (by omega)]; exact ⟨hL, by show _ = _ + (0 : Int); omega, by show _ = _ + (0 : Int) * _; omega⟩); (first | (exact Or.inr ⟨by omega, hm_9⟩) | (exact Or.inl ⟨by omega, rfl, rfl, rfl, rfl⟩)); (first | (exact hq_9) | (exact Or.inr ⟨by omega, ha_9, h5_9.trans (by congr 1; exact pm_eqI (by omega))⟩) | (exact Or.inl ⟨rfl, rfl, rfl⟩))⟩
  · skip
    have k0 : (0 : Int32).toInt = 0 := rfl
    refine And.intro (fun _ => ?_) (fun c9 => absurd c9 (by decide))
    refine hC.1 1 33 _ _ rfl _ _ _ _ _ ?_
    have km1 : (-1 : Int32).toInt = -1 := rfl
    exact ⟨rfl, fun e9 => absurd e9 (by decide), rfl, (-1 : Int32), v, f, rfl, rfl, hv, hf, rfl, rfl, rfl, rfl, rfl, rfl, by first | omega | (dsimp only; omega) | trivial, by refine ⟨?_, ?_, ?_⟩; (intro L hL; have hl := hL.1; rw [ed_copy, if_neg (by omega)]; exact ⟨hL, by show _ = _ + (0 : Int); omega, by show _ = _ + (0 : Int) * _; omega⟩); (first | (exact Or.inr ⟨by omega, hm_9⟩) | (exact Or.inl ⟨by omega, rfl, rfl, rfl, rfl⟩)); (first | (exact hq_9) | (exact Or.inr ⟨by omega, ha_9, h5_9.trans (by congr 1; exact pm_eqI (by omega))⟩) | (exact Or.inl ⟨rfl, rfl, rfl⟩))⟩

set_option maxRecDepth 100000 in
set_option maxHeartbeats 2000000 in
theorem U_X11_draw (D : md_D h q) (v : Nat → Int32) (f : Nat → Nat → Int32) (hv : md_V v) (hf : md_F f) (x1 : Int32) (x2 : Int32) (x3 : Int32) (p0 : (v 4).toInt < 100000) : pm_Mt l g 193 4 0 0 [.ref h, .int x1, .int x2, .int x3] (md A0 g h q v f) (md_Qw A0 g h q f (fun r v2 f2 => f2 7 = f 7 ∧ f2 8 = f 8 ∧ f2 9 = f 9 ∧ f2 10 = f 10 ∧ f2 11 = f 11 ∧ ((v2 6).toInt = (v 6).toInt ∧ (v2 4).toInt ≤ (v 4).toInt + 1 ∧ (v 4).toInt ≤ (v2 4).toInt) ∧ ((∀ L, rp (v 0) (f 0) (f 1) L → rp (v2 0) (f2 0) (f2 1) ((ed_draw L (v 3) x1 x2 x3).getD L) ∧ (v2 4).toInt = (v 4).toInt + edn (ed_draw L (v 3) x1 x2 x3) ∧ (v2 3).toInt = (v 3).toInt + edn (ed_draw L (v 3) x1 x2 x3) * (x2.toInt)) ∧ (HMe (v 4).toInt f v2 f2 r.toInt) ∧ (((v2 4).toInt = (v 4).toInt ∧ r.toInt = -1 ∧ v2 5 = v 5) ∨ ((v2 4).toInt = (v 4).toInt + 1 ∧ r.toInt = (tcN (v 0).toInt (f 0) (f 1) (f2 0) (f2 1) (v2 0).toInt.toNat : Int) ∧ v2 5 = v 5 + r))))) := by
  refine mt_X11_draw rfl (fun J hC => ?_)
  have hv9 := hv
  unfold md_V at hv9
  have rg_x1 := pm_rng x1
  have rg_x2 := pm_rng x2
  have rg_x3 := pm_rng x3
  refine hC.1 0 0 _ _ rfl _ _ _ _ _ ?_
  have k0 : (0 : Int32).toInt = 0 := rfl
  have k9999 : (9999 : Int32).toInt = 9999 := rfl
  refine Exists.intro _ (Exists.intro _ (Exists.intro _ (Exists.intro _ (And.intro (c_X11_isIn (md A0 g h q v f) x1 (0 : Int32) (9999 : Int32) ) (And.intro rfl (fun r9 A9 h9 => ?_))))))
  rcases h9 with ⟨y1, rfl, rfl, ⟨rfl, by1⟩ | ⟨rfl, by1⟩⟩
  · skip
    have k1 : (1 : Int32).toInt = 1 := rfl
    refine And.intro (fun c9 => absurd c9 (by decide)) (fun _ => ?_)
    have k160 : (160 : Int32).toInt = 160 := rfl
    refine Exists.intro _ (Exists.intro _ (Exists.intro _ (Exists.intro _ (And.intro (c_X11_isIn (md A0 g h q v f) x2 (1 : Int32) (160 : Int32) ) (And.intro rfl (fun r9 A9 h9 => ?_))))))
    rcases h9 with ⟨y2, rfl, rfl, ⟨rfl, by2⟩ | ⟨rfl, by2⟩⟩
    · skip
      refine And.intro (fun c9 => absurd c9 (by decide)) (fun _ => ?_)
      have k24 : (24 : Int32).toInt = 24 := rfl
      refine Exists.intro _ (Exists.intro _ (Exists.intro _ (Exists.intro _ (And.intro (c_X11_isIn (md A0 g h q v f) x3 (1 : Int32) (24 : Int32) ) (And.intro rfl (fun r9 A9 h9 => ?_))))))
      rcases h9 with ⟨y3, rfl, rfl, ⟨rfl, by3⟩ | ⟨rfl, by3⟩⟩
      · skip
        refine And.intro (fun c9 => absurd c9 (by decide)) (fun _ => ?_)
        refine And.intro (Exists.intro _ md_o) (Exists.intro _ (Exists.intro _ (Exists.intro _ (Exists.intro _ (And.intro (c_X11_hasRoom D v f hv hf x2 (by omega)) (And.intro rfl (fun r9 A9 h9 => ?_)))))))
        rcases h9 with ⟨y4, rfl, rfl, ⟨rfl, by4⟩ | ⟨rfl, by4⟩⟩
        · skip
          refine And.intro (fun _ => ?_) (fun c9 => absurd c9 (by decide))
          refine hC.1 2 42 _ _ rfl _ _ _ _ _ ?_
          refine And.intro (Exists.intro _ md_o) (Exists.intro _ (Exists.intro _ (Exists.intro _ (Exists.intro _ (And.intro (U_X11_begins D v f hv hf  ) (And.intro rfl (fun r9 A9 h9 => ?_)))))))
          obtain ⟨v6, f6, rfl, rfl, hv6, hf6, hx6, hg6_0, hg6_1, hg6_12, hg6_13, hg6_14, hg6_15, hg6_7, hg6_8, hg6_9, hg6_10, hg6_11, by5⟩ := h9
          have hw6 : f6 2 = f 2 := hx6.trans rfl
          have hr6_0 : f6 0 = f 0 := hg6_0.trans rfl
          have hr6_1 : f6 1 = f 1 := hg6_1.trans rfl
          have hr6_12 : f6 12 = f 12 := hg6_12.trans rfl
          have hr6_13 : f6 13 = f 13 := hg6_13.trans rfl
          have hr6_14 : f6 14 = f 14 := hg6_14.trans rfl
          have hr6_15 : f6 15 = f 15 := hg6_15.trans rfl
          have hr6_7 : f6 7 = f 7 := hg6_7.trans rfl
          have hr6_8 : f6 8 = f 8 := hg6_8.trans rfl
          have hr6_9 : f6 9 = f 9 := hg6_9.trans rfl
          have hr6_10 : f6 10 = f 10 := hg6_10.trans rfl
          have hr6_11 : f6 11 = f 11 := hg6_11.trans rfl
          have hu7_1 := hv6.2.1
          have hu7_2 := hv6.2.2.1
          have hb_43 := by5.2
          have sq6_0 : (v6 0).toInt = (v 0).toInt := by5.1.1
          have sq6_3 : (v6 3).toInt = (v 3).toInt := by5.1.2.1
          have sq6_4 : (v6 4).toInt = (v 4).toInt := by5.1.2.2.1
          have sq6_5 : (v6 5).toInt = (v 5).toInt := by5.1.2.2.2.1
          have sq6_6 : (v6 6).toInt = (v 6).toInt := by5.1.2.2.2.2.1
          have sp6 := by5.1.2.2.2.2.2
          have ob6 : OB v6 f6 (v 0).toInt (f 0) (f 1) := by5.2
          clear by5
          refine Exists.intro _ (And.intro md_o ?_)
          have hp_52 : ∀ L, rp (v 0) (f 0) (f 1) L → rp (v6 0) (f6 0) (f6 1) L := fun L h => rp_fr h (by omega) hr6_0 hr6_1
          refine And.intro (Exists.intro _ md_o) (Exists.intro _ (Exists.intro _ (Exists.intro _ (Exists.intro _ (And.intro (U_X11_laysFrom D v6 f6 hv6 hf6 (0 : Int32) (v6 0) (by omega) (by omega) (by omega) (by omega)) (And.intro rfl (fun r9 A9 h9 => ?_)))))))
          obtain ⟨v9, f9, rfl, rfl, hv9, hf9, hx9, hg9_0, hg9_1, hg9_3, hg9_4, hg9_12, hg9_13, hg9_14, hg9_15, hg9_7, hg9_8, hg9_9, hg9_10, hg9_11, by8⟩ := h9
          have hw9 : f9 2 = f 2 := hx9.trans hw6
          have hr9_0 : f9 0 = f 0 := hg9_0.trans hr6_0
          have hr9_1 : f9 1 = f 1 := hg9_1.trans hr6_1
          have hr9_12 : f9 12 = f 12 := hg9_12.trans hr6_12
          have hr9_13 : f9 13 = f 13 := hg9_13.trans hr6_13
          have hr9_14 : f9 14 = f 14 := hg9_14.trans hr6_14
          have hr9_15 : f9 15 = f 15 := hg9_15.trans hr6_15
          have hr9_7 : f9 7 = f 7 := hg9_7.trans hr6_7
          have hr9_8 : f9 8 = f 8 := hg9_8.trans hr6_8
          have hr9_9 : f9 9 = f 9 := hg9_9.trans hr6_9
          have hr9_10 : f9 10 = f 10 := hg9_10.trans hr6_10
          have hr9_11 : f9 11 = f 11 := hg9_11.trans hr6_11
          have hu10_2 := hv9.2.2.1
          have hb_52 := by8.2
          have sq9_0 : (v9 0).toInt = (v 0).toInt := by8.1.1.trans sq6_0
          have sq9_1 : (v9 1).toInt = (v6 1).toInt := by8.1.2.1
          have sq9_3 : (v9 3).toInt = (v 3).toInt := by8.1.2.2.1.trans sq6_3
          have sq9_4 : (v9 4).toInt = (v 4).toInt := by8.1.2.2.2.1.trans sq6_4
          have sq9_5 : (v9 5).toInt = (v 5).toInt := by8.1.2.2.2.2.1.trans sq6_5
          have sq9_6 : (v9 6).toInt = (v 6).toInt := by8.1.2.2.2.2.2.1.trans sq6_6
          have sp9 := by8.1.2.2.2.2.2.2
          have ob9 : OB v9 f9 (v 0).toInt (f 0) (f 1) := OB_fr ob6 (by omega) hg9_3 hg9_4
          clear by8
          have lp12 : ∀ (n : Nat) (z4_61 : Int32) (z5_61 : Int32) (v11 : Nat → Int32) (f11 : Nat → Nat → Int32), md_V v11 → md_F f11 → f11 2 = f 2 → f11 0 = f 0 → f11 1 = f 1 → f11 12 = f 12 → f11 13 = f 13 → f11 14 = f 14 → f11 15 = f 15 → f11 7 = f 7 → f11 8 = f 8 → f11 9 = f 9 → f11 10 = f 10 → f11 11 = f 11 → OB v11 f11 (v 0).toInt (f 0) (f 1) → (0 ≤ z5_61.toInt ∧ z5_61.toInt ≤ x2.toInt) → (0 ≤ z4_61.toInt ∧ z4_61.toInt ≤ 10006) → ((v11 0).toInt = (v 0).toInt ∧ (v11 4).toInt = (v 4).toInt ∧ (v11 2).toInt = (v 0).toInt + z5_61.toInt ∧ (v11 3).toInt = (v 3).toInt + z5_61.toInt ∧ (v11 5).toInt = (v 5).toInt) → (z4_61.toInt = ds x1.toInt z5_61.toInt.toNat) → (∀ L, rp (v 0) (f 0) (f 1) L → rp (v11 2) (f11 5) (f11 6) (L ++ nw_l (v 3) (dr_l x1.toInt x3.toInt z5_61.toInt.toNat))) → (v11 6).toInt = (v 6).toInt → 200 - z5_61.toInt < (n : Int) → J 61 [some (.ref h), some (.int x1), some (.int x2), some (.int x3), some (.int z4_61), some (.int z5_61)] [] (md A0 g h q v11 f11) 0 0 := by
            intro n
            induction n with
            | zero =>
              intro z4_61 z5_61 v11 f11 hv11 hf11 hw11 hr11_0 hr11_1 hr11_12 hr11_13 hr11_14 hr11_15 hr11_7 hr11_8 hr11_9 hr11_10 hr11_11 ob11 j0_61 j1_61 j2_61 j3_61 j4_61 j5_61 j6_61
              clear hu7_1 hu7_2 sq6_0 sq6_3 sq6_4 sq6_5 sq6_6 sp6 hu10_2 sq9_0 sq9_1 sq9_3 sq9_4 sq9_5 sq9_6 sp9
              omega
            | succ n ih13 =>
              intro z4_61 z5_61 v11 f11 hv11 hf11 hw11 hr11_0 hr11_1 hr11_12 hr11_13 hr11_14 hr11_15 hr11_7 hr11_8 hr11_9 hr11_10 hr11_11 ob11 j0_61 j1_61 j2_61 j3_61 j4_61 j5_61 j6_61
              clear hu7_1 hu7_2 sq6_0 sq6_3 sq6_4 sq6_5 sq6_6 sp6 hu10_2 sq9_0 sq9_1 sq9_3 sq9_4 sq9_5 sq9_6 sp9
              have lr0 := hr11_0
              have lr1 := hr11_1
              have lv3 : ∃ z9, z9 = v11 3 := ⟨_, rfl⟩
              obtain ⟨g61, eg61⟩ := lv3
              refine hC.1 3 61 _ _ rfl _ _ _ _ _ ?_
              have hu14_0 := hv11.1
              have hu14_1 := hv11.2.1
              have hu14_2 := hv11.2.2.1
              have hu14_3 := hv11.2.2.2.1
              have hu14_4 := hv11.2.2.2.2.1
              refine And.intro (fun c15 => ?_) (fun c15 => ?_)
              · skip
                refine hC.1 4 96 _ _ rfl _ _ _ _ _ ?_
                refine And.intro (Exists.intro _ md_o) (Exists.intro _ (Exists.intro _ (Exists.intro _ (Exists.intro _ (And.intro (U_X11_ends D v11 f11 hv11 hf11  (by omega)) (And.intro rfl (fun r9 A9 h9 => ?_)))))))
                obtain ⟨y16, v17, f17, rfl, rfl, hv17, hf17, hx17, hg17_7, hg17_8, hg17_9, hg17_10, hg17_11, by16⟩ := h9
                have hw17 : f17 2 = f 2 := hx17.trans hw11
                have hr17_7 : f17 7 = f 7 := hg17_7.trans hr11_7
                have hr17_8 : f17 8 = f 8 := hg17_8.trans hr11_8
                have hr17_9 : f17 9 = f 9 := hg17_9.trans hr11_9
                have hr17_10 : f17 10 = f 10 := hg17_10.trans hr11_10
                have hr17_11 : f17 11 = f 11 := hg17_11.trans hr11_11
                have hu18_0 := hv17.1
                have hu18_4 := hv17.2.2.2.2.1
                have hb_97 := by16.2.1
                have sq17_1 : (v17 1).toInt = (v11 1).toInt := by16.1.1
                have sq17_2 : (v17 2).toInt = (v11 2).toInt := by16.1.2.1
                have sq17_3 : (v17 3).toInt = (v11 3).toInt := by16.1.2.2.1
                have sq17_6 : (v17 6).toInt = (v11 6).toInt := by16.1.2.2.2.1
                have sp17 := by16.1.2.2.2.2
                have hm_9 := HM_fr by16.2.2.1 hr11_12 hr11_13 hr11_14 hr11_15
                have ha_9 := by16.2.2.2.1 _ _ _ ob11
                have h5_9 := by16.2.2.2.2
                clear by16
                exact ⟨rfl, fun e9 => absurd e9 (by decide), rfl, y16, v17, f17, rfl, rfl, hv17, hf17, hw17, hr17_7, hr17_8, hr17_9, hr17_10, hr17_11, by first | omega | (dsimp only; omega) | trivial, by refine ⟨?_, ?_, ?_⟩; (intro L hL; have hl := hL.1; rw [ed_draw, if_pos (by omega)]; have t2 := j4_61 L hL; rw [show z5_61.toInt.toNat = x2.toInt.toNat by omega] at t2; exact ⟨hb_97 _ t2, by show _ = _ + (1 : Int); omega, by show _ = _ + (1 : Int) * _; omega⟩); (first | (exact Or.inr ⟨by omega, hm_9⟩) | (exact Or.inl ⟨by omega, hr_missing, hr_missing, hr_missing, hr_missing⟩)); (first | (exact hq_9) | (exact Or.inr ⟨by omega, ha_9, h5_9.trans (by congr 1; exact pm_eqI (by omega))⟩) | (exact Or.inl ⟨rfl, rfl, rfl⟩))⟩
              · skip
                have k137 : (137 : Int32).toInt = 137 := rfl
                intro m19 em_72
                try have e19 : m19.toInt = (137) * (z4_61).toInt := by rw [em_72]; exact pm_mulk _ _ (137) rfl (by omega) (by omega)
                have k71 : (71 : Int32).toInt = 71 := rfl
                intro m20 em_75
                try have e20 : m20.toInt = (m19).toInt + (71) := by rw [em_75]; exact pm_addc _ _ (71) rfl (by omega) (by omega)
                have k10007 : (10007 : Int32).toInt = 10007 := rfl
                refine And.intro (by decide) ?_
                intro m21 em_79
                have e21 : 0 ≤ m21.toInt ∧ m21.toInt < 10007 ∧ m21.toInt = (m20).toInt % 10007 := by rw [em_79]; exact pm_remc _ _ 10007 rfl (by omega) (by decide)
                have hd1 : ds x1.toInt (z5_61.toInt.toNat + 1) = m21.toInt := by show (137 * ds x1.toInt z5_61.toInt.toNat + 71) % 10007 = _; rw [← j3_61]; omega
                refine And.intro (fun e9 => by have e8 := congrArg Int32.toInt e9; have e7 : (0 : Int32).toInt = 0 := rfl; omega) ?_
                intro m22 em_86
                try have e22 := pm_rem m21 x3 (by omega) (by omega)
                try rw [← em_86] at e22
                obtain ⟨cc9, hcc9⟩ : ∃ z9, z9 = m22 := ⟨_, rfl⟩
                have ecc := pm_rem m21 x3 (by omega) (by omega)
                rw [← em_86, ← hcc9] at ecc
                refine And.intro (Exists.intro _ md_o) (Exists.intro _ (Exists.intro _ (Exists.intro _ (Exists.intro _ (And.intro (U_X11_laysNew D v11 f11 hv11 hf11 m22 (by omega) (by omega) (by omega)) (And.intro rfl (fun r9 A9 h9 => ?_)))))))
                obtain ⟨v24, f24, rfl, rfl, hv24, hf24, hx24, hg24_0, hg24_1, hg24_3, hg24_4, hg24_12, hg24_13, hg24_14, hg24_15, hg24_7, hg24_8, hg24_9, hg24_10, hg24_11, by23⟩ := h9
                have hw24 : f24 2 = f 2 := hx24.trans hw11
                have hr24_0 : f24 0 = f 0 := hg24_0.trans hr11_0
                have hr24_1 : f24 1 = f 1 := hg24_1.trans hr11_1
                have hr24_12 : f24 12 = f 12 := hg24_12.trans hr11_12
                have hr24_13 : f24 13 = f 13 := hg24_13.trans hr11_13
                have hr24_14 : f24 14 = f 14 := hg24_14.trans hr11_14
                have hr24_15 : f24 15 = f 15 := hg24_15.trans hr11_15
                have hr24_7 : f24 7 = f 7 := hg24_7.trans hr11_7
                have hr24_8 : f24 8 = f 8 := hg24_8.trans hr11_8
                have hr24_9 : f24 9 = f 9 := hg24_9.trans hr11_9
                have hr24_10 : f24 10 = f 10 := hg24_10.trans hr11_10
                have hr24_11 : f24 11 = f 11 := hg24_11.trans hr11_11
                have hu25_2 := hv24.2.2.1
                have hu25_3 := hv24.2.2.2.1
                have hb_87 := by23.2
                have sq24_0 : (v24 0).toInt = (v11 0).toInt := by23.1.1
                have sq24_1 : (v24 1).toInt = (v11 1).toInt := by23.1.2.1
                have sq24_4 : (v24 4).toInt = (v11 4).toInt := by23.1.2.2.1
                have sq24_5 : (v24 5).toInt = (v11 5).toInt := by23.1.2.2.2.1
                have sq24_6 : (v24 6).toInt = (v11 6).toInt := by23.1.2.2.2.2.1
                have sp24 := by23.1.2.2.2.2.2
                have ob24 : OB v24 f24 (v 0).toInt (f 0) (f 1) := OB_fr ob11 (by omega) hg24_3 hg24_4
                have hb9 := by23.2
                clear by23
                intro m26 em_90
                try have e26 : m26.toInt = (z5_61).toInt + (1) := by rw [em_90]; exact pm_addc _ _ (1) rfl (by omega) (by omega)
                exact ih13 m21 m26 v24 f24 hv24 hf24 hw24 hr24_0 hr24_1 hr24_12 hr24_13 hr24_14 hr24_15 hr24_7 hr24_8 hr24_9 hr24_10 hr24_11 ob24 (by omega) (by omega) (by omega) (by rw [show m26.toInt.toNat = z5_61.toInt.toNat + 1 by omega, hd1]) (by intro L hL; have hl := hL.1; rw [show m26.toInt.toNat = z5_61.toInt.toNat + 1 by omega, dr_s, hd1, nw_app (g2 := g61) (by rw [eg61, dr_len]; omega) (by rw [dr_len]; omega), ← List.append_assoc]; have h4 := hb9 _ g61 (by rw [eg61]) (j4_61 L hL); have h5 : Int32.ofInt (m21.toInt % x3.toInt) = cc9 := (by rw [← ecc.2.2, Int32.ofInt_toInt]); rw [h5, hcc9]; exact h4) (by omega) (by omega)
          exact lp12 (200 - (0 : Int32).toInt).toNat.succ x1 (0 : Int32) v9 f9 hv9 hf9 hw9 hr9_0 hr9_1 hr9_12 hr9_13 hr9_14 hr9_15 hr9_7 hr9_8 hr9_9 hr9_10 hr9_11 ob9 (by omega) (by omega) (by omega) (by rfl) (by intro L hL; have hl := hL.1; show rp _ _ _ (L ++ []); rw [List.append_nil]; have t1 := hb_52 L [] 0 L.length (hp_52 L hL) rfl (by omega) (by omega) (by omega) (rp_0 (by omega)); rw [List.nil_append, si_all] at t1; exact t1) (by omega) (by omega)
        · skip
          refine And.intro (fun c9 => absurd c9 (by decide)) (fun _ => ?_)
          refine hC.1 1 40 _ _ rfl _ _ _ _ _ ?_
          have km1 : (-1 : Int32).toInt = -1 := rfl
          exact ⟨rfl, fun e9 => absurd e9 (by decide), rfl, (-1 : Int32), v, f, rfl, rfl, hv, hf, rfl, rfl, rfl, rfl, rfl, rfl, by first | omega | (dsimp only; omega) | trivial, by refine ⟨?_, ?_, ?_⟩; (intro L hL; have hl := hL.1; rw [ed_draw, if_neg (by omega)]; exact ⟨hL, by show _ = _ + (0 : Int); omega, by show _ = _ + (0 : Int) * _; omega⟩); (first | (exact Or.inr ⟨by omega, hm_9⟩) | (exact Or.inl ⟨by omega, rfl, rfl, rfl, rfl⟩)); (first | (exact hq_9) | (exact Or.inr ⟨by omega, ha_9, h5_9.trans (by congr 1; exact pm_eqI (by omega))⟩) | (exact Or.inl ⟨rfl, rfl, rfl⟩))⟩
      · skip
        refine And.intro (fun _ => ?_) (fun c9 => absurd c9 (by decide))
        refine hC.1 1 40 _ _ rfl _ _ _ _ _ ?_
        have km1 : (-1 : Int32).toInt = -1 := rfl
        exact ⟨rfl, fun e9 => absurd e9 (by decide), rfl, (-1 : Int32), v, f, rfl, rfl, hv, hf, rfl, rfl, rfl, rfl, rfl, rfl, by first | omega | (dsimp only; omega) | trivial, by refine ⟨?_, ?_, ?_⟩; (intro L hL; have hl := hL.1; rw [ed_draw, if_neg (by omega)]; exact ⟨hL, by show _ = _ + (0 : Int); omega, by show _ = _ + (0 : Int) * _; omega⟩); (first | (exact Or.inr ⟨by omega, hm_9⟩) | (exact Or.inl ⟨by omega, rfl, rfl, rfl, rfl⟩)); (first | (exact hq_9) | (exact Or.inr ⟨by omega, ha_9, h5_9.trans (by congr 1; exact pm_eqI (by omega))⟩) | (exact Or.inl ⟨rfl, rfl, rfl⟩))⟩
    · skip
      refine And.intro (fun _ => ?_) (fun c9 => absurd c9 (by decide))
      refine hC.1 1 40 _ _ rfl _ _ _ _ _ ?_
      have km1 : (-1 : Int32).toInt = -1 := rfl
      exact ⟨rfl, fun e9 => absurd e9 (by decide), rfl, (-1 : Int32), v, f, rfl, rfl, hv, hf, rfl, rfl, rfl, rfl, rfl, rfl, by first | omega | (dsimp only; omega) | trivial, by refine ⟨?_, ?_, ?_⟩; (intro L hL; have hl := hL.1; rw [ed_draw, if_neg (by omega)]; exact ⟨hL, by show _ = _ + (0 : Int); omega, by show _ = _ + (0 : Int) * _; omega⟩); (first | (exact Or.inr ⟨by omega, hm_9⟩) | (exact Or.inl ⟨by omega, rfl, rfl, rfl, rfl⟩)); (first | (exact hq_9) | (exact Or.inr ⟨by omega, ha_9, h5_9.trans (by congr 1; exact pm_eqI (by omega))⟩) | (exact Or.inl ⟨rfl, rfl, rfl⟩))⟩
  · skip
    refine And.intro (fun _ => ?_) (fun c9 => absurd c9 (by decide))
    refine hC.1 1 40 _ _ rfl _ _ _ _ _ ?_
    have km1 : (-1 : Int32).toInt = -1 := rfl
    exact ⟨rfl, fun e9 => absurd e9 (by decide), rfl, (-1 : Int32), v, f, rfl, rfl, hv, hf, rfl, rfl, rfl, rfl, rfl, rfl, by first | omega | (dsimp only; omega) | trivial, by refine ⟨?_, ?_, ?_⟩; (intro L hL; have hl := hL.1; rw [ed_draw, if_neg (by omega)]; exact ⟨hL, by show _ = _ + (0 : Int); omega, by show _ = _ + (0 : Int) * _; omega⟩); (first | (exact Or.inr ⟨by omega, hm_9⟩) | (exact Or.inl ⟨by omega, rfl, rfl, rfl, rfl⟩)); (first | (exact hq_9) | (exact Or.inr ⟨by omega, ha_9, h5_9.trans (by congr 1; exact pm_eqI (by omega))⟩) | (exact Or.inl ⟨rfl, rfl, rfl⟩))⟩

end
end
section
section
variable {l : Launch} {g : pm_G} {A0 : pm_H} {h : Nat} {q : Nat → Nat}
set_option maxRecDepth 100000 in
set_option maxHeartbeats 2000000 in
theorem U_X11_sort (D : md_D h q) (v : Nat → Int32) (f : Nat → Nat → Int32) (hv : md_V v) (hf : md_F f) (x1 : Int32) (x2 : Int32) (p0 : (v 4).toInt < 100000) : pm_Mt l g 190 4 0 0 [.ref h, .int x1, .int x2] (md A0 g h q v f) (md_Qw A0 g h q f (fun r v2 f2 => f2 7 = f 7 ∧ f2 8 = f 8 ∧ f2 9 = f 9 ∧ f2 10 = f 10 ∧ f2 11 = f 11 ∧ ((v2 6).toInt = (v 6).toInt ∧ (v2 4).toInt ≤ (v 4).toInt + 1 ∧ (v 4).toInt ≤ (v2 4).toInt) ∧ ((∀ L, rp (v 0) (f 0) (f 1) L → rp (v2 0) (f2 0) (f2 1) ((ed_sort L x1 x2).getD L) ∧ (v2 4).toInt = (v 4).toInt + edn (ed_sort L x1 x2) ∧ (v2 3).toInt = (v 3).toInt + edn (ed_sort L x1 x2) * (0)) ∧ (HMe (v 4).toInt f v2 f2 r.toInt) ∧ (((v2 4).toInt = (v 4).toInt ∧ r.toInt = -1 ∧ v2 5 = v 5) ∨ ((v2 4).toInt = (v 4).toInt + 1 ∧ r.toInt = (tcN (v 0).toInt (f 0) (f 1) (f2 0) (f2 1) (v2 0).toInt.toNat : Int) ∧ v2 5 = v 5 + r))))) := by
  refine mt_X11_sort rfl (fun J hC => ?_)
  have hv9 := hv
  unfold md_V at hv9
  have rg_x1 := pm_rng x1
  have rg_x2 := pm_rng x2
  refine hC.1 0 0 _ _ rfl _ _ _ _ _ ?_
  refine And.intro (Exists.intro _ md_o) (Exists.intro _ (Exists.intro _ (Exists.intro _ (Exists.intro _ (And.intro (c_X11_isSpan D v f hv hf x1 x2 ) (And.intro rfl (fun r9 A9 h9 => ?_)))))))
  rcases h9 with ⟨y1, rfl, rfl, ⟨rfl, by1⟩ | ⟨rfl, by1⟩⟩
  · skip
    have k1 : (1 : Int32).toInt = 1 := rfl
    refine And.intro (fun _ => ?_) (fun c9 => absurd c9 (by decide))
    refine hC.1 1 11 _ _ rfl _ _ _ _ _ ?_
    refine And.intro (Exists.intro _ md_o) (Exists.intro _ (Exists.intro _ (Exists.intro _ (Exists.intro _ (And.intro (U_X11_begins D v f hv hf  ) (And.intro rfl (fun r9 A9 h9 => ?_)))))))
    obtain ⟨v3, f3, rfl, rfl, hv3, hf3, hx3, hg3_0, hg3_1, hg3_12, hg3_13, hg3_14, hg3_15, hg3_7, hg3_8, hg3_9, hg3_10, hg3_11, by2⟩ := h9
    have hw3 : f3 2 = f 2 := hx3.trans rfl
    have hr3_0 : f3 0 = f 0 := hg3_0.trans rfl
    have hr3_1 : f3 1 = f 1 := hg3_1.trans rfl
    have hr3_12 : f3 12 = f 12 := hg3_12.trans rfl
    have hr3_13 : f3 13 = f 13 := hg3_13.trans rfl
    have hr3_14 : f3 14 = f 14 := hg3_14.trans rfl
    have hr3_15 : f3 15 = f 15 := hg3_15.trans rfl
    have hr3_7 : f3 7 = f 7 := hg3_7.trans rfl
    have hr3_8 : f3 8 = f 8 := hg3_8.trans rfl
    have hr3_9 : f3 9 = f 9 := hg3_9.trans rfl
    have hr3_10 : f3 10 = f 10 := hg3_10.trans rfl
    have hr3_11 : f3 11 = f 11 := hg3_11.trans rfl
    have hu4_1 := hv3.2.1
    have hu4_2 := hv3.2.2.1
    have hb_12 := by2.2
    have sq3_0 : (v3 0).toInt = (v 0).toInt := by2.1.1
    have sq3_3 : (v3 3).toInt = (v 3).toInt := by2.1.2.1
    have sq3_4 : (v3 4).toInt = (v 4).toInt := by2.1.2.2.1
    have sq3_5 : (v3 5).toInt = (v 5).toInt := by2.1.2.2.2.1
    have sq3_6 : (v3 6).toInt = (v 6).toInt := by2.1.2.2.2.2.1
    have sp3 := by2.1.2.2.2.2.2
    have ob3 : OB v3 f3 (v 0).toInt (f 0) (f 1) := by2.2
    clear by2
    have k0 : (0 : Int32).toInt = 0 := rfl
    have hp_18 : ∀ L, rp (v 0) (f 0) (f 1) L → rp (v3 0) (f3 0) (f3 1) L := fun L h => rp_fr h (by omega) hr3_0 hr3_1
    refine And.intro (Exists.intro _ md_o) (Exists.intro _ (Exists.intro _ (Exists.intro _ (Exists.intro _ (And.intro (U_X11_laysFrom D v3 f3 hv3 hf3 (0 : Int32) x1 (by omega) (by omega) (by omega) (by omega)) (And.intro rfl (fun r9 A9 h9 => ?_)))))))
    obtain ⟨v6, f6, rfl, rfl, hv6, hf6, hx6, hg6_0, hg6_1, hg6_3, hg6_4, hg6_12, hg6_13, hg6_14, hg6_15, hg6_7, hg6_8, hg6_9, hg6_10, hg6_11, by5⟩ := h9
    have hw6 : f6 2 = f 2 := hx6.trans hw3
    have hr6_0 : f6 0 = f 0 := hg6_0.trans hr3_0
    have hr6_1 : f6 1 = f 1 := hg6_1.trans hr3_1
    have hr6_12 : f6 12 = f 12 := hg6_12.trans hr3_12
    have hr6_13 : f6 13 = f 13 := hg6_13.trans hr3_13
    have hr6_14 : f6 14 = f 14 := hg6_14.trans hr3_14
    have hr6_15 : f6 15 = f 15 := hg6_15.trans hr3_15
    have hr6_7 : f6 7 = f 7 := hg6_7.trans hr3_7
    have hr6_8 : f6 8 = f 8 := hg6_8.trans hr3_8
    have hr6_9 : f6 9 = f 9 := hg6_9.trans hr3_9
    have hr6_10 : f6 10 = f 10 := hg6_10.trans hr3_10
    have hr6_11 : f6 11 = f 11 := hg6_11.trans hr3_11
    have hu7_2 := hv6.2.2.1
    have hb_18 := by5.2
    have sq6_0 : (v6 0).toInt = (v 0).toInt := by5.1.1.trans sq3_0
    have sq6_1 : (v6 1).toInt = (v3 1).toInt := by5.1.2.1
    have sq6_3 : (v6 3).toInt = (v 3).toInt := by5.1.2.2.1.trans sq3_3
    have sq6_4 : (v6 4).toInt = (v 4).toInt := by5.1.2.2.2.1.trans sq3_4
    have sq6_5 : (v6 5).toInt = (v 5).toInt := by5.1.2.2.2.2.1.trans sq3_5
    have sq6_6 : (v6 6).toInt = (v 6).toInt := by5.1.2.2.2.2.2.1.trans sq3_6
    have sp6 := by5.1.2.2.2.2.2.2
    have ob6 : OB v6 f6 (v 0).toInt (f 0) (f 1) := OB_fr ob3 (by omega) hg6_3 hg6_4
    clear by5
    have lp9 : ∀ (n : Nat) (z3_23 : Int32) (v8 : Nat → Int32) (f8 : Nat → Nat → Int32), md_V v8 → md_F f8 → f8 2 = f 2 → f8 0 = f 0 → f8 1 = f 1 → f8 12 = f 12 → f8 13 = f 13 → f8 14 = f 14 → f8 15 = f 15 → f8 7 = f 7 → f8 8 = f 8 → f8 9 = f 9 → f8 10 = f 10 → f8 11 = f 11 → OB v8 f8 (v 0).toInt (f 0) (f 1) → (0 ≤ z3_23.toInt ∧ z3_23.toInt ≤ 24) → ((v8 0).toInt = (v 0).toInt ∧ (v8 4).toInt = (v 4).toInt ∧ (v8 3).toInt = (v 3).toInt ∧ (v8 5).toInt = (v 5).toInt) → ((v8 2).toInt = x1.toInt + ctLt (f 0) z3_23.toInt x1.toInt.toNat (x2.toInt - x1.toInt + 1).toNat) → (∀ L, rp (v 0) (f 0) (f 1) L → rp (v8 2) (f8 5) (f8 6) (si L 0 x1.toInt ++ st_l (si L x1.toInt (x2.toInt + 1)) z3_23.toInt.toNat)) → (v8 6).toInt = (v 6).toInt → 200 - z3_23.toInt < (n : Int) → J 23 [some (.ref h), some (.int x1), some (.int x2), some (.int z3_23), none] [] (md A0 g h q v8 f8) 0 0 := by
      intro n
      induction n with
      | zero =>
        intro z3_23 v8 f8 hv8 hf8 hw8 hr8_0 hr8_1 hr8_12 hr8_13 hr8_14 hr8_15 hr8_7 hr8_8 hr8_9 hr8_10 hr8_11 ob8 j0_23 j1_23 j2_23 j3_23 j4_23 j5_23
        clear hu4_1 hu4_2 sq3_0 sq3_3 sq3_4 sq3_5 sq3_6 sp3 hu7_2 sq6_0 sq6_1 sq6_3 sq6_4 sq6_5 sq6_6 sp6
        omega
      | succ n ih10 =>
        intro z3_23 v8 f8 hv8 hf8 hw8 hr8_0 hr8_1 hr8_12 hr8_13 hr8_14 hr8_15 hr8_7 hr8_8 hr8_9 hr8_10 hr8_11 ob8 j0_23 j1_23 j2_23 j3_23 j4_23 j5_23
        clear hu4_1 hu4_2 sq3_0 sq3_3 sq3_4 sq3_5 sq3_6 sp3 hu7_2 sq6_0 sq6_1 sq6_3 sq6_4 sq6_5 sq6_6 sp6
        have cl9 := ctLt_le (f 0) z3_23.toInt x1.toInt.toNat (x2.toInt - x1.toInt + 1).toNat
        refine hC.1 2 23 _ _ rfl _ _ _ _ _ ?_
        have hu11_0 := hv8.1
        have hu11_1 := hv8.2.1
        have hu11_2 := hv8.2.2.1
        have hu11_3 := hv8.2.2.2.1
        have hu11_4 := hv8.2.2.2.2.1
        have k24 : (24 : Int32).toInt = 24 := rfl
        refine And.intro (fun c12 => ?_) (fun c12 => ?_)
        · skip
          refine hC.1 6 73 _ _ rfl _ _ _ _ _ ?_
          intro m13 em_76
          try have e13 : m13.toInt = (x2).toInt + (1) := by rw [em_76]; exact pm_addc _ _ (1) rfl (by omega) (by omega)
          refine Exists.intro _ (And.intro md_o ?_)
          have hp_81 : ∀ L, rp (v 0) (f 0) (f 1) L → rp (v8 0) (f8 0) (f8 1) L := fun L h => rp_fr h (by omega) hr8_0 hr8_1
          refine And.intro (Exists.intro _ md_o) (Exists.intro _ (Exists.intro _ (Exists.intro _ (Exists.intro _ (And.intro (U_X11_laysFrom D v8 f8 hv8 hf8 m13 (v8 0) (by omega) (by omega) (by omega) (by omega)) (And.intro rfl (fun r9 A9 h9 => ?_)))))))
          obtain ⟨v15, f15, rfl, rfl, hv15, hf15, hx15, hg15_0, hg15_1, hg15_3, hg15_4, hg15_12, hg15_13, hg15_14, hg15_15, hg15_7, hg15_8, hg15_9, hg15_10, hg15_11, by14⟩ := h9
          have hw15 : f15 2 = f 2 := hx15.trans hw8
          have hr15_0 : f15 0 = f 0 := hg15_0.trans hr8_0
          have hr15_1 : f15 1 = f 1 := hg15_1.trans hr8_1
          have hr15_12 : f15 12 = f 12 := hg15_12.trans hr8_12
          have hr15_13 : f15 13 = f 13 := hg15_13.trans hr8_13
          have hr15_14 : f15 14 = f 14 := hg15_14.trans hr8_14
          have hr15_15 : f15 15 = f 15 := hg15_15.trans hr8_15
          have hr15_7 : f15 7 = f 7 := hg15_7.trans hr8_7
          have hr15_8 : f15 8 = f 8 := hg15_8.trans hr8_8
          have hr15_9 : f15 9 = f 9 := hg15_9.trans hr8_9
          have hr15_10 : f15 10 = f 10 := hg15_10.trans hr8_10
          have hr15_11 : f15 11 = f 11 := hg15_11.trans hr8_11
          have hu16_2 := hv15.2.2.1
          have hb_81 := by14.2
          have sq15_0 : (v15 0).toInt = (v8 0).toInt := by14.1.1
          have sq15_1 : (v15 1).toInt = (v8 1).toInt := by14.1.2.1
          have sq15_3 : (v15 3).toInt = (v8 3).toInt := by14.1.2.2.1
          have sq15_4 : (v15 4).toInt = (v8 4).toInt := by14.1.2.2.2.1
          have sq15_5 : (v15 5).toInt = (v8 5).toInt := by14.1.2.2.2.2.1
          have sq15_6 : (v15 6).toInt = (v8 6).toInt := by14.1.2.2.2.2.2.1
          have sp15 := by14.1.2.2.2.2.2.2
          have ob15 : OB v15 f15 (v 0).toInt (f 0) (f 1) := OB_fr ob8 (by omega) hg15_3 hg15_4
          clear by14
          refine And.intro (Exists.intro _ md_o) (Exists.intro _ (Exists.intro _ (Exists.intro _ (Exists.intro _ (And.intro (U_X11_ends D v15 f15 hv15 hf15  (by omega)) (And.intro rfl (fun r9 A9 h9 => ?_)))))))
          obtain ⟨y17, v18, f18, rfl, rfl, hv18, hf18, hx18, hg18_7, hg18_8, hg18_9, hg18_10, hg18_11, by17⟩ := h9
          have hw18 : f18 2 = f 2 := hx18.trans hw15
          have hr18_7 : f18 7 = f 7 := hg18_7.trans hr15_7
          have hr18_8 : f18 8 = f 8 := hg18_8.trans hr15_8
          have hr18_9 : f18 9 = f 9 := hg18_9.trans hr15_9
          have hr18_10 : f18 10 = f 10 := hg18_10.trans hr15_10
          have hr18_11 : f18 11 = f 11 := hg18_11.trans hr15_11
          have hu19_0 := hv18.1
          have hu19_4 := hv18.2.2.2.2.1
          have hb_85 := by17.2.1
          have sq18_1 : (v18 1).toInt = (v8 1).toInt := by17.1.1.trans sq15_1
          have sq18_2 : (v18 2).toInt = (v15 2).toInt := by17.1.2.1
          have sq18_3 : (v18 3).toInt = (v8 3).toInt := by17.1.2.2.1.trans sq15_3
          have sq18_6 : (v18 6).toInt = (v8 6).toInt := by17.1.2.2.2.1.trans sq15_6
          have sp18 := by17.1.2.2.2.2
          have hm_9 := HM_fr by17.2.2.1 hr15_12 hr15_13 hr15_14 hr15_15
          have ha_9 := by17.2.2.2.1 _ _ _ ob15
          have h5_9 := by17.2.2.2.2
          clear by17
          exact ⟨rfl, fun e9 => absurd e9 (by decide), rfl, y17, v18, f18, rfl, rfl, hv18, hf18, hw18, hr18_7, hr18_8, hr18_9, hr18_10, hr18_11, by first | omega | (dsimp only; omega) | trivial, by refine ⟨?_, ?_, ?_⟩; (intro L hL; have hl := hL.1; rw [ed_sort, if_pos (by omega)]; have t2 := j3_23 L hL; rw [show z3_23.toInt.toNat = 24 by omega] at t2; have t3 := hb_81 L _ (x2.toInt + 1) L.length (hp_81 L hL) (by omega) (by omega) (by omega) (by omega) t2; exact ⟨hb_85 _ t3, by show _ = _ + (1 : Int); omega, by show _ = _ + (1 : Int) * _; omega⟩); (first | (exact Or.inr ⟨by omega, hm_9⟩) | (exact Or.inl ⟨by omega, hr_missing, hr_missing, hr_missing, hr_missing⟩)); (first | (exact hq_9) | (exact Or.inr ⟨by omega, ha_9, h5_9.trans (by congr 1; exact pm_eqI (by omega))⟩) | (exact Or.inl ⟨rfl, rfl, rfl⟩))⟩
        · skip
          have lp21 : ∀ (n : Nat) (z4_32 : Int32) (v20 : Nat → Int32) (f20 : Nat → Nat → Int32), md_V v20 → md_F f20 → f20 2 = f 2 → f20 0 = f 0 → f20 1 = f 1 → f20 12 = f 12 → f20 13 = f 13 → f20 14 = f 14 → f20 15 = f 15 → f20 7 = f 7 → f20 8 = f 8 → f20 9 = f 9 → f20 10 = f 10 → f20 11 = f 11 → OB v20 f20 (v 0).toInt (f 0) (f 1) → (x1.toInt ≤ z4_32.toInt ∧ z4_32.toInt ≤ x2.toInt + 1) → ((v20 0).toInt = (v 0).toInt ∧ (v20 4).toInt = (v 4).toInt ∧ (v20 3).toInt = (v 3).toInt ∧ (v20 5).toInt = (v 5).toInt) → ((v20 2).toInt = x1.toInt + soN (f 0) z3_23.toInt x1.toInt.toNat (z4_32.toInt - x1.toInt).toNat (x2.toInt - x1.toInt + 1).toNat) → (∀ L, rp (v 0) (f 0) (f 1) L → rp (v20 2) (f20 5) (f20 6) (si L 0 x1.toInt ++ (st_l (si L x1.toInt (x2.toInt + 1)) z3_23.toInt.toNat ++ (si L x1.toInt z4_32.toInt).filter (fun p => decide (p.1.toInt = z3_23.toInt))))) → (v20 6).toInt = (v 6).toInt → 200 - z4_32.toInt < (n : Int) → J 32 [some (.ref h), some (.int x1), some (.int x2), some (.int z3_23), some (.int z4_32)] [] (md A0 g h q v20 f20) 0 0 := by
            intro n
            induction n with
            | zero =>
              intro z4_32 v20 f20 hv20 hf20 hw20 hr20_0 hr20_1 hr20_12 hr20_13 hr20_14 hr20_15 hr20_7 hr20_8 hr20_9 hr20_10 hr20_11 ob20 j0_32 j1_32 j2_32 j3_32 j4_32 j5_32
              clear hu11_0 hu11_1 hu11_2 hu11_3 hu11_4
              omega
            | succ n ih22 =>
              intro z4_32 v20 f20 hv20 hf20 hw20 hr20_0 hr20_1 hr20_12 hr20_13 hr20_14 hr20_15 hr20_7 hr20_8 hr20_9 hr20_10 hr20_11 ob20 j0_32 j1_32 j2_32 j3_32 j4_32 j5_32
              clear hu11_0 hu11_1 hu11_2 hu11_3 hu11_4
              have lr0 := hr20_0
              have lr1 := hr20_1
              refine hC.1 3 32 _ _ rfl _ _ _ _ _ ?_
              have hu23_0 := hv20.1
              have hu23_1 := hv20.2.1
              have hu23_2 := hv20.2.2.1
              have hu23_3 := hv20.2.2.2.1
              have hu23_4 := hv20.2.2.2.2.1
              refine And.intro (fun c24 => ?_) (fun c24 => ?_)
              · skip
                refine hC.1 5 67 _ _ rfl _ _ _ _ _ ?_
                intro m25 em_67
                try have e25 : m25.toInt = (z3_23).toInt + (1) := by rw [em_67]; exact pm_addc _ _ (1) rfl (by omega) (by omega)
                exact hC.2 [false, false, false, false, true] _ _ _ _ _ _ (ih10 m25 v20 f20 hv20 hf20 hw20 hr20_0 hr20_1 hr20_12 hr20_13 hr20_14 hr20_15 hr20_7 hr20_8 hr20_9 hr20_10 hr20_11 ob20 (by omega) (by omega) (by rw [j2_32, show (z4_32.toInt - x1.toInt).toNat = (x2.toInt - x1.toInt + 1).toNat by omega, so_e, show m25.toInt = z3_23.toInt + 1 by omega]) (by intro L hL; have hl := hL.1; have t9 := j3_32 L hL; rw [show z4_32.toInt = x2.toInt + 1 by omega] at t9; rw [show m25.toInt.toNat = z3_23.toInt.toNat + 1 by omega]; show rp _ _ _ (_ ++ (st_l _ _ ++ List.filter (fun p => decide (p.1.toInt = ((z3_23.toInt.toNat : Nat) : Int))) _)); rw [show ((z3_23.toInt.toNat : Nat) : Int) = z3_23.toInt by omega]; exact t9) (by omega) (by omega))
              · skip
                refine Exists.intro _ (And.intro md_o ?_)
                refine Exists.intro _ (Exists.intro _ (And.intro (Or.inl (md_a_colours D)) (And.intro (by omega) ?_)))
                have w26 : (0 : Int) ≤ (f20 0 (z4_32).toInt.toNat).toInt ∧ (f20 0 (z4_32).toInt.toNat).toInt ≤ (23 : Int) := hf20 0 _
                refine And.intro (fun c27 => ?_) (fun c27 => ?_)
                · skip
                  have dc27 := pm_neI c27
                  refine hC.1 4 61 _ _ rfl _ _ _ _ _ ?_
                  intro m28 em_61
                  try have e28 : m28.toInt = (z4_32).toInt + (1) := by rw [em_61]; exact pm_addc _ _ (1) rfl (by omega) (by omega)
                  exact ih22 m28 v20 f20 hv20 hf20 hw20 hr20_0 hr20_1 hr20_12 hr20_13 hr20_14 hr20_15 hr20_7 hr20_8 hr20_9 hr20_10 hr20_11 ob20 (by omega) (by omega) (by first | (rw [show (m28.toInt - x1.toInt).toNat = (z4_32.toInt - x1.toInt).toNat + 1 by omega, so9.2]; omega) | (rw [show (m28.toInt - x1.toInt).toNat = (z4_32.toInt - x1.toInt).toNat + 1 by omega, so_n (by rw [show x1.toInt.toNat + (z4_32.toInt - x1.toInt).toNat = z4_32.toInt.toNat by omega, ← hr20_0]; assumption)]; exact j2_32)) (by first | (intro L hL; have hl := hL.1; rw [show m28.toInt = z4_32.toInt + 1 by omega, si_s hL (a := x1.toInt) (z := z4_32.toInt) (by omega) (by omega) (by omega), fl_y (by rw [hc49]), ← List.append_assoc, ← List.append_assoc]; have h4 := hb9 _ (j3_32 L hL); rw [lr1, ← List.append_assoc] at h4; rw [hc49]; exact h4) | (intro L hL; have hl := hL.1; rw [show m28.toInt = z4_32.toInt + 1 by omega, si_s hL (a := x1.toInt) (z := z4_32.toInt) (by omega) (by omega) (by omega), fl_n (by rw [← lr0]; assumption)]; exact j3_32 L hL)) (by omega) (by omega)
                · skip
                  have dc27 : ((f20 0 (z4_32).toInt.toNat)).toInt = (z3_23 : Int32).toInt := congrArg Int32.toInt c27
                  have so9 := so_lt (c := f 0) (x := z3_23.toInt) (l := x1.toInt.toNat) (k := (z4_32.toInt - x1.toInt).toNat) (n := (x2.toInt - x1.toInt + 1).toNat) (by omega) (by rw [show x1.toInt.toNat + (z4_32.toInt - x1.toInt).toNat = z4_32.toInt.toNat by omega, ← hr20_0]; assumption)
                  have hc49 : f 0 z4_32.toInt.toNat = z3_23 := by rw [← hr20_0]; assumption
                  refine Exists.intro _ (And.intro md_o ?_)
                  refine Exists.intro _ (Exists.intro _ (And.intro (Or.inl (md_a_names D)) (And.intro (by omega) ?_)))
                  refine And.intro (Exists.intro _ md_o) (Exists.intro _ (Exists.intro _ (Exists.intro _ (Exists.intro _ (And.intro (U_X11_lays D v20 f20 hv20 hf20 z3_23 (f20 1 (z4_32).toInt.toNat) (by omega) (by omega)) (And.intro rfl (fun r9 A9 h9 => ?_)))))))
                  obtain ⟨v30, f30, rfl, rfl, hv30, hf30, hx30, hg30_0, hg30_1, hg30_3, hg30_4, hg30_12, hg30_13, hg30_14, hg30_15, hg30_7, hg30_8, hg30_9, hg30_10, hg30_11, by29⟩ := h9
                  have hw30 : f30 2 = f 2 := hx30.trans hw20
                  have hr30_0 : f30 0 = f 0 := hg30_0.trans hr20_0
                  have hr30_1 : f30 1 = f 1 := hg30_1.trans hr20_1
                  have hr30_12 : f30 12 = f 12 := hg30_12.trans hr20_12
                  have hr30_13 : f30 13 = f 13 := hg30_13.trans hr20_13
                  have hr30_14 : f30 14 = f 14 := hg30_14.trans hr20_14
                  have hr30_15 : f30 15 = f 15 := hg30_15.trans hr20_15
                  have hr30_7 : f30 7 = f 7 := hg30_7.trans hr20_7
                  have hr30_8 : f30 8 = f 8 := hg30_8.trans hr20_8
                  have hr30_9 : f30 9 = f 9 := hg30_9.trans hr20_9
                  have hr30_10 : f30 10 = f 10 := hg30_10.trans hr20_10
                  have hr30_11 : f30 11 = f 11 := hg30_11.trans hr20_11
                  have hu31_2 := hv30.2.2.1
                  have hb_58 := by29.2
                  have sq30_0 : (v30 0).toInt = (v20 0).toInt := by29.1.1
                  have sq30_1 : (v30 1).toInt = (v20 1).toInt := by29.1.2.1
                  have sq30_3 : (v30 3).toInt = (v20 3).toInt := by29.1.2.2.1
                  have sq30_4 : (v30 4).toInt = (v20 4).toInt := by29.1.2.2.2.1
                  have sq30_5 : (v30 5).toInt = (v20 5).toInt := by29.1.2.2.2.2.1
                  have sq30_6 : (v30 6).toInt = (v20 6).toInt := by29.1.2.2.2.2.2.1
                  have sp30 := by29.1.2.2.2.2.2.2
                  have ob30 : OB v30 f30 (v 0).toInt (f 0) (f 1) := OB_fr ob20 (by omega) hg30_3 hg30_4
                  have hb9 := by29.2
                  clear by29
                  refine hC.1 4 61 _ _ rfl _ _ _ _ _ ?_
                  intro m32 em_61
                  try have e32 : m32.toInt = (z4_32).toInt + (1) := by rw [em_61]; exact pm_addc _ _ (1) rfl (by omega) (by omega)
                  exact ih22 m32 v30 f30 hv30 hf30 hw30 hr30_0 hr30_1 hr30_12 hr30_13 hr30_14 hr30_15 hr30_7 hr30_8 hr30_9 hr30_10 hr30_11 ob30 (by omega) (by omega) (by first | (rw [show (m32.toInt - x1.toInt).toNat = (z4_32.toInt - x1.toInt).toNat + 1 by omega, so9.2]; omega) | (rw [show (m32.toInt - x1.toInt).toNat = (z4_32.toInt - x1.toInt).toNat + 1 by omega, so_n (by rw [show x1.toInt.toNat + (z4_32.toInt - x1.toInt).toNat = z4_32.toInt.toNat by omega, ← hr30_0]; assumption)]; exact j2_32)) (by first | (intro L hL; have hl := hL.1; rw [show m32.toInt = z4_32.toInt + 1 by omega, si_s hL (a := x1.toInt) (z := z4_32.toInt) (by omega) (by omega) (by omega), fl_y (by rw [hc49]), ← List.append_assoc, ← List.append_assoc]; have h4 := hb9 _ (j3_32 L hL); rw [lr1, ← List.append_assoc] at h4; rw [hc49]; exact h4) | (intro L hL; have hl := hL.1; rw [show m32.toInt = z4_32.toInt + 1 by omega, si_s hL (a := x1.toInt) (z := z4_32.toInt) (by omega) (by omega) (by omega), fl_n (by rw [← lr0]; assumption)]; exact j3_32 L hL)) (by omega) (by omega)
          exact lp21 (200 - x1.toInt).toNat.succ x1 v8 f8 hv8 hf8 hw8 hr8_0 hr8_1 hr8_12 hr8_13 hr8_14 hr8_15 hr8_7 hr8_8 hr8_9 hr8_10 hr8_11 ob8 (by omega) (by omega) (by rw [j2_23, show (x1.toInt - x1.toInt).toNat = 0 by omega, so_0]) (by intro L hL; have hl := hL.1; rw [si_n (L := L) (a := x1.toInt) (b := x1.toInt) (Int.le_refl _)]; show rp _ _ _ (_ ++ (_ ++ [])); rw [List.append_nil]; exact j3_23 L hL) (by omega) (by omega)
    exact lp9 (200 - (0 : Int32).toInt).toNat.succ (0 : Int32) v6 f6 hv6 hf6 hw6 hr6_0 hr6_1 hr6_12 hr6_13 hr6_14 hr6_15 hr6_7 hr6_8 hr6_9 hr6_10 hr6_11 ob6 (by omega) (by omega) (by have h9 : ctLt (f 0) (0 : Int32).toInt x1.toInt.toNat (x2.toInt - x1.toInt + 1).toNat = 0 := ctLt_0 _ _ (fun j => (hf 0 j).1) _; rw [h9]; omega) (by intro L hL; have hl := hL.1; have t1 := hb_18 L [] 0 x1.toInt (hp_18 L hL) rfl rfl (by omega) (by omega) (rp_0 (by omega)); rw [List.nil_append] at t1; show rp _ _ _ (si L 0 x1.toInt ++ []); rw [List.append_nil]; exact t1) (by omega) (by omega)
  · skip
    have k0 : (0 : Int32).toInt = 0 := rfl
    refine And.intro (fun c9 => absurd c9 (by decide)) (fun _ => ?_)
    have km1 : (-1 : Int32).toInt = -1 := rfl
    exact ⟨rfl, fun e9 => absurd e9 (by decide), rfl, (-1 : Int32), v, f, rfl, rfl, hv, hf, rfl, rfl, rfl, rfl, rfl, rfl, by first | omega | (dsimp only; omega) | trivial, by refine ⟨?_, ?_, ?_⟩; (intro L hL; have hl := hL.1; rw [ed_sort, if_neg (by omega)]; exact ⟨hL, by show _ = _ + (0 : Int); omega, by show _ = _ + (0 : Int) * _; omega⟩); (first | (exact Or.inr ⟨by omega, hm_9⟩) | (exact Or.inl ⟨by omega, rfl, rfl, rfl, rfl⟩)); (first | (exact hq_9) | (exact Or.inr ⟨by omega, ha_9, h5_9.trans (by congr 1; exact pm_eqI (by omega))⟩) | (exact Or.inl ⟨rfl, rfl, rfl⟩))⟩

end
end
section
section
variable {l : Launch} {g : pm_G} {A0 : pm_H} {h : Nat} {q : Nat → Nat}
set_option maxRecDepth 100000 in
set_option maxHeartbeats 2000000 in
theorem U_X11_recolours (D : md_D h q) (v : Nat → Int32) (f : Nat → Nat → Int32) (hv : md_V v) (hf : md_F f) (x1 : Int32) (x2 : Int32) (x3 : Int32) (x4 : Int32) (x5 : Int32) (p0 : (v 4).toInt < 100000) (p1 : -1 ≤ x3.toInt ∧ x3.toInt ≤ 23) (p2 : 0 ≤ x4.toInt ∧ x4.toInt ≤ 23) : pm_Mt l g 171 4 0 0 [.ref h, .int x1, .int x2, .int x3, .int x4, .int x5] (md A0 g h q v f) (md_Qw A0 g h q f (fun r v2 f2 => f2 7 = f 7 ∧ f2 8 = f 8 ∧ f2 9 = f 9 ∧ f2 10 = f 10 ∧ f2 11 = f 11 ∧ ((v2 3).toInt = (v 3).toInt ∧ (v2 6).toInt = (v 6).toInt ∧ (v2 4).toInt = (v 4).toInt + 1) ∧ ((∀ (L : List pl_P) (h9 : Int32 → Int32), rp (v 0) (f 0) (f 1) L → (∀ c9, h9 c9 = if x3 = -1 ∨ c9 = x3 then x4 else if ¬ x5 = 0 ∧ c9 = x4 then x3 else c9) → 0 ≤ x1.toInt → x1.toInt ≤ x2.toInt + 1 → x2.toInt < (L.length : Int) → rp (v2 0) (f2 0) (f2 1) (rc_l L x1.toInt x2.toInt h9)) ∧ (HM f v2 f2 r.toInt) ∧ (((v2 4).toInt = (v 4).toInt ∧ r.toInt = -1 ∧ v2 5 = v 5) ∨ ((v2 4).toInt = (v 4).toInt + 1 ∧ r.toInt = (tcN (v 0).toInt (f 0) (f 1) (f2 0) (f2 1) (v2 0).toInt.toNat : Int) ∧ v2 5 = v 5 + r))))) := by
  refine mt_X11_recolours rfl (fun J hC => ?_)
  have hv9 := hv
  unfold md_V at hv9
  have rg_x1 := pm_rng x1
  have rg_x2 := pm_rng x2
  have rg_x3 := pm_rng x3
  have rg_x4 := pm_rng x4
  have rg_x5 := pm_rng x5
  refine hC.1 0 0 _ _ rfl _ _ _ _ _ ?_
  refine And.intro (Exists.intro _ md_o) (Exists.intro _ (Exists.intro _ (Exists.intro _ (Exists.intro _ (And.intro (U_X11_begins D v f hv hf  ) (And.intro rfl (fun r9 A9 h9 => ?_)))))))
  obtain ⟨v2, f2, rfl, rfl, hv2, hf2, hx2, hg2_0, hg2_1, hg2_12, hg2_13, hg2_14, hg2_15, hg2_7, hg2_8, hg2_9, hg2_10, hg2_11, by1⟩ := h9
  have hw2 : f2 2 = f 2 := hx2.trans rfl
  have hr2_0 : f2 0 = f 0 := hg2_0.trans rfl
  have hr2_1 : f2 1 = f 1 := hg2_1.trans rfl
  have hr2_12 : f2 12 = f 12 := hg2_12.trans rfl
  have hr2_13 : f2 13 = f 13 := hg2_13.trans rfl
  have hr2_14 : f2 14 = f 14 := hg2_14.trans rfl
  have hr2_15 : f2 15 = f 15 := hg2_15.trans rfl
  have hr2_7 : f2 7 = f 7 := hg2_7.trans rfl
  have hr2_8 : f2 8 = f 8 := hg2_8.trans rfl
  have hr2_9 : f2 9 = f 9 := hg2_9.trans rfl
  have hr2_10 : f2 10 = f 10 := hg2_10.trans rfl
  have hr2_11 : f2 11 = f 11 := hg2_11.trans rfl
  have hu3_1 := hv2.2.1
  have hu3_2 := hv2.2.2.1
  have hb_1 := by1.2
  have sq2_0 : (v2 0).toInt = (v 0).toInt := by1.1.1
  have sq2_3 : (v2 3).toInt = (v 3).toInt := by1.1.2.1
  have sq2_4 : (v2 4).toInt = (v 4).toInt := by1.1.2.2.1
  have sq2_5 : (v2 5).toInt = (v 5).toInt := by1.1.2.2.2.1
  have sq2_6 : (v2 6).toInt = (v 6).toInt := by1.1.2.2.2.2.1
  have sp2 := by1.1.2.2.2.2.2
  have ob2 : OB v2 f2 (v 0).toInt (f 0) (f 1) := by1.2
  clear by1
  have k0 : (0 : Int32).toInt = 0 := rfl
  have lp5 : ∀ (n : Nat) (z6_7 : Int32) (v4 : Nat → Int32) (f4 : Nat → Nat → Int32), md_V v4 → md_F f4 → f4 2 = f 2 → f4 0 = f 0 → f4 1 = f 1 → f4 12 = f 12 → f4 13 = f 13 → f4 14 = f 14 → f4 15 = f 15 → f4 7 = f 7 → f4 8 = f 8 → f4 9 = f 9 → f4 10 = f 10 → f4 11 = f 11 → OB v4 f4 (v 0).toInt (f 0) (f 1) → (0 ≤ z6_7.toInt ∧ z6_7.toInt ≤ (v 0).toInt) → ((v4 0).toInt = (v 0).toInt ∧ (v4 4).toInt = (v 4).toInt ∧ (v4 2).toInt = z6_7.toInt ∧ (v4 5).toInt = (v 5).toInt) → (∀ (L : List pl_P) (h9 : Int32 → Int32), rp (v 0) (f 0) (f 1) L → (∀ c9, h9 c9 = if x3 = -1 ∨ c9 = x3 then x4 else if ¬ x5 = 0 ∧ c9 = x4 then x3 else c9) → 0 ≤ x1.toInt → x1.toInt ≤ x2.toInt + 1 → x2.toInt < (L.length : Int) → rp (v4 2) (f4 5) (f4 6) (rc_p L x1.toInt x2.toInt h9 z6_7.toInt)) → (v4 3).toInt = (v 3).toInt → (v4 6).toInt = (v 6).toInt → 200 - z6_7.toInt < (n : Int) → J 7 [some (.ref h), some (.int x1), some (.int x2), some (.int x3), some (.int x4), some (.int x5), some (.int z6_7), none, none, none] [] (md A0 g h q v4 f4) 0 0 := by
    intro n
    induction n with
    | zero =>
      intro z6_7 v4 f4 hv4 hf4 hw4 hr4_0 hr4_1 hr4_12 hr4_13 hr4_14 hr4_15 hr4_7 hr4_8 hr4_9 hr4_10 hr4_11 ob4 j0_7 j1_7 j2_7 j3_7 j4_7 j5_7
      clear hu3_1 hu3_2 sq2_0 sq2_3 sq2_4 sq2_5 sq2_6 sp2
      omega
    | succ n ih6 =>
      intro z6_7 v4 f4 hv4 hf4 hw4 hr4_0 hr4_1 hr4_12 hr4_13 hr4_14 hr4_15 hr4_7 hr4_8 hr4_9 hr4_10 hr4_11 ob4 j0_7 j1_7 j2_7 j3_7 j4_7 j5_7
      clear hu3_1 hu3_2 sq2_0 sq2_3 sq2_4 sq2_5 sq2_6 sp2
      have lr0 := hr4_0
      have lr1 := hr4_1
      refine hC.1 1 7 _ _ rfl _ _ _ _ _ ?_
      have hu7_0 := hv4.1
      have hu7_1 := hv4.2.1
      have hu7_2 := hv4.2.2.1
      have hu7_4 := hv4.2.2.2.2.1
      refine Exists.intro _ (And.intro md_o ?_)
      refine And.intro (fun c8 => ?_) (fun c8 => ?_)
      · skip
        refine hC.1 7 99 _ _ rfl _ _ _ _ _ ?_
        refine And.intro (Exists.intro _ md_o) (Exists.intro _ (Exists.intro _ (Exists.intro _ (Exists.intro _ (And.intro (U_X11_ends D v4 f4 hv4 hf4  (by omega)) (And.intro rfl (fun r9 A9 h9 => ?_)))))))
        obtain ⟨y9, v10, f10, rfl, rfl, hv10, hf10, hx10, hg10_7, hg10_8, hg10_9, hg10_10, hg10_11, by9⟩ := h9
        have hw10 : f10 2 = f 2 := hx10.trans hw4
        have hr10_7 : f10 7 = f 7 := hg10_7.trans hr4_7
        have hr10_8 : f10 8 = f 8 := hg10_8.trans hr4_8
        have hr10_9 : f10 9 = f 9 := hg10_9.trans hr4_9
        have hr10_10 : f10 10 = f 10 := hg10_10.trans hr4_10
        have hr10_11 : f10 11 = f 11 := hg10_11.trans hr4_11
        have hu11_0 := hv10.1
        have hu11_4 := hv10.2.2.2.2.1
        have hb_100 := by9.2.1
        have sq10_1 : (v10 1).toInt = (v4 1).toInt := by9.1.1
        have sq10_2 : (v10 2).toInt = (v4 2).toInt := by9.1.2.1
        have sq10_3 : (v10 3).toInt = (v4 3).toInt := by9.1.2.2.1
        have sq10_6 : (v10 6).toInt = (v4 6).toInt := by9.1.2.2.2.1
        have sp10 := by9.1.2.2.2.2
        have hm_9 := HM_fr by9.2.2.1 hr4_12 hr4_13 hr4_14 hr4_15
        have ha_9 := by9.2.2.2.1 _ _ _ ob4
        have h5_9 := by9.2.2.2.2
        clear by9
        exact ⟨rfl, fun e9 => absurd e9 (by decide), rfl, y9, v10, f10, rfl, rfl, hv10, hf10, hw10, hr10_7, hr10_8, hr10_9, hr10_10, hr10_11, by first | omega | (dsimp only; omega) | trivial, by refine ⟨?_, ?_, ?_⟩; (intro L h9 hL hH h1 h2 h3; have hl := hL.1; have t2 := j2_7 L h9 hL hH h1 h2 h3; rw [show z6_7.toInt = (L.length : Int) by omega, rc_e h1 h2 h3] at t2; exact hb_100 _ t2); (exact hm_9); (first | (exact hq_9) | (exact Or.inr ⟨by omega, ha_9, h5_9.trans (by congr 1; exact pm_eqI (by omega))⟩) | (exact Or.inl ⟨rfl, rfl, rfl⟩))⟩
      · skip
        refine Exists.intro _ (And.intro md_o ?_)
        refine Exists.intro _ (Exists.intro _ (And.intro (Or.inl (md_a_colours D)) (And.intro (by omega) ?_)))
        have w12 : (0 : Int) ≤ (f4 0 (z6_7).toInt.toNat).toInt ∧ (f4 0 (z6_7).toInt.toNat).toInt ≤ (23 : Int) := hf4 0 _
        refine Exists.intro _ (Exists.intro _ (Exists.intro _ (Exists.intro _ (And.intro (c_X11_isIn (md A0 g h q v4 f4) z6_7 x1 x2 ) (And.intro rfl (fun r9 A9 h9 => ?_))))))
        rcases h9 with ⟨y13, rfl, rfl, ⟨rfl, by13⟩ | ⟨rfl, by13⟩⟩
        · skip
          have k1 : (1 : Int32).toInt = 1 := rfl
          refine And.intro (fun _ => ?_) (fun c9 => absurd c9 (by decide))
          refine hC.1 2 44 _ _ rfl _ _ _ _ _ ?_
          have km1 : (-1 : Int32).toInt = -1 := rfl
          refine And.intro (fun c14 => ?_) (fun c14 => ?_)
          · skip
            have dc14 : (x3).toInt = ((-1 : Int32) : Int32).toInt := congrArg Int32.toInt c14
            refine hC.1 3 55 _ _ rfl _ _ _ _ _ ?_
            refine hC.1 6 78 _ _ rfl _ _ _ _ _ ?_
            refine Exists.intro _ (And.intro md_o ?_)
            refine Exists.intro _ (Exists.intro _ (And.intro (Or.inl (md_a_names D)) (And.intro (by omega) ?_)))
            refine And.intro (Exists.intro _ md_o) (Exists.intro _ (Exists.intro _ (Exists.intro _ (Exists.intro _ (And.intro (U_X11_lays D v4 f4 hv4 hf4 x4 (f4 1 (z6_7).toInt.toNat) (by omega) (by omega)) (And.intro rfl (fun r9 A9 h9 => ?_)))))))
            obtain ⟨v16, f16, rfl, rfl, hv16, hf16, hx16, hg16_0, hg16_1, hg16_3, hg16_4, hg16_12, hg16_13, hg16_14, hg16_15, hg16_7, hg16_8, hg16_9, hg16_10, hg16_11, by15⟩ := h9
            have hw16 : f16 2 = f 2 := hx16.trans hw4
            have hr16_0 : f16 0 = f 0 := hg16_0.trans hr4_0
            have hr16_1 : f16 1 = f 1 := hg16_1.trans hr4_1
            have hr16_12 : f16 12 = f 12 := hg16_12.trans hr4_12
            have hr16_13 : f16 13 = f 13 := hg16_13.trans hr4_13
            have hr16_14 : f16 14 = f 14 := hg16_14.trans hr4_14
            have hr16_15 : f16 15 = f 15 := hg16_15.trans hr4_15
            have hr16_7 : f16 7 = f 7 := hg16_7.trans hr4_7
            have hr16_8 : f16 8 = f 8 := hg16_8.trans hr4_8
            have hr16_9 : f16 9 = f 9 := hg16_9.trans hr4_9
            have hr16_10 : f16 10 = f 10 := hg16_10.trans hr4_10
            have hr16_11 : f16 11 = f 11 := hg16_11.trans hr4_11
            have hu17_2 := hv16.2.2.1
            have hb_90 := by15.2
            have sq16_0 : (v16 0).toInt = (v4 0).toInt := by15.1.1
            have sq16_1 : (v16 1).toInt = (v4 1).toInt := by15.1.2.1
            have sq16_3 : (v16 3).toInt = (v4 3).toInt := by15.1.2.2.1
            have sq16_4 : (v16 4).toInt = (v4 4).toInt := by15.1.2.2.2.1
            have sq16_5 : (v16 5).toInt = (v4 5).toInt := by15.1.2.2.2.2.1
            have sq16_6 : (v16 6).toInt = (v4 6).toInt := by15.1.2.2.2.2.2.1
            have sp16 := by15.1.2.2.2.2.2.2
            have ob16 : OB v16 f16 (v 0).toInt (f 0) (f 1) := OB_fr ob4 (by omega) hg16_3 hg16_4
            have hb9 := by15.2
            clear by15
            intro m18 em_93
            try have e18 : m18.toInt = (z6_7).toInt + (1) := by rw [em_93]; exact pm_addc _ _ (1) rfl (by omega) (by omega)
            exact hC.2 [false, false, false, false, false, false, false, true, true, true] _ _ _ _ _ _ (ih6 m18 v16 f16 hv16 hf16 hw16 hr16_0 hr16_1 hr16_12 hr16_13 hr16_14 hr16_15 hr16_7 hr16_8 hr16_9 hr16_10 hr16_11 ob16 (by omega) (by omega) (by intro L h9 hL hH h1 h2 h3; have hl := hL.1; have hL2 := rp_fr hL (n2 := v16 0) (by omega) lr0 lr1; rw [show m18.toInt = z6_7.toInt + 1 by omega, rc_s hL2 h1 h2 h3 (by omega) (by omega)]; have h4 := hb9 _ (j2_7 L h9 hL hH h1 h2 h3); first | (rw [if_neg (by omega)]; exact h4) | (rw [if_pos (by omega), hH, if_pos (Or.inl (by assumption))]; exact h4) | (rw [if_pos (by omega), hH, if_pos (Or.inr (by assumption))]; exact h4) | (rw [if_pos (by omega), hH, if_neg (fun h8 => h8.elim (by assumption) (by assumption)), if_pos ⟨by assumption, by assumption⟩]; exact h4) | (rw [if_pos (by omega), hH, if_neg (fun h8 => h8.elim (by assumption) (by assumption)), if_neg (fun h8 => absurd h8.2 (by assumption))]; exact h4) | (rw [if_pos (by omega), hH, if_neg (fun h8 => h8.elim (by assumption) (by assumption)), if_neg (fun h8 => h8.1 (by assumption))]; exact h4)) (by omega) (by omega) (by omega))
          · skip
            have dc14 := pm_neI c14
            refine And.intro (fun c19 => ?_) (fun c19 => ?_)
            · skip
              have dc19 := pm_neI c19
              refine hC.1 4 60 _ _ rfl _ _ _ _ _ ?_
              refine And.intro (fun c20 => ?_) (fun c20 => ?_)
              · skip
                have dc20 : (x5).toInt = (0 : Int32).toInt := congrArg Int32.toInt c20
                refine hC.1 5 76 _ _ rfl _ _ _ _ _ ?_
                refine hC.1 6 78 _ _ rfl _ _ _ _ _ ?_
                refine Exists.intro _ (And.intro md_o ?_)
                refine Exists.intro _ (Exists.intro _ (And.intro (Or.inl (md_a_names D)) (And.intro (by omega) ?_)))
                refine And.intro (Exists.intro _ md_o) (Exists.intro _ (Exists.intro _ (Exists.intro _ (Exists.intro _ (And.intro (U_X11_lays D v4 f4 hv4 hf4 (f4 0 (z6_7).toInt.toNat) (f4 1 (z6_7).toInt.toNat) (by omega) (by omega)) (And.intro rfl (fun r9 A9 h9 => ?_)))))))
                obtain ⟨v22, f22, rfl, rfl, hv22, hf22, hx22, hg22_0, hg22_1, hg22_3, hg22_4, hg22_12, hg22_13, hg22_14, hg22_15, hg22_7, hg22_8, hg22_9, hg22_10, hg22_11, by21⟩ := h9
                have hw22 : f22 2 = f 2 := hx22.trans hw4
                have hr22_0 : f22 0 = f 0 := hg22_0.trans hr4_0
                have hr22_1 : f22 1 = f 1 := hg22_1.trans hr4_1
                have hr22_12 : f22 12 = f 12 := hg22_12.trans hr4_12
                have hr22_13 : f22 13 = f 13 := hg22_13.trans hr4_13
                have hr22_14 : f22 14 = f 14 := hg22_14.trans hr4_14
                have hr22_15 : f22 15 = f 15 := hg22_15.trans hr4_15
                have hr22_7 : f22 7 = f 7 := hg22_7.trans hr4_7
                have hr22_8 : f22 8 = f 8 := hg22_8.trans hr4_8
                have hr22_9 : f22 9 = f 9 := hg22_9.trans hr4_9
                have hr22_10 : f22 10 = f 10 := hg22_10.trans hr4_10
                have hr22_11 : f22 11 = f 11 := hg22_11.trans hr4_11
                have hu23_2 := hv22.2.2.1
                have hb_90 := by21.2
                have sq22_0 : (v22 0).toInt = (v4 0).toInt := by21.1.1
                have sq22_1 : (v22 1).toInt = (v4 1).toInt := by21.1.2.1
                have sq22_3 : (v22 3).toInt = (v4 3).toInt := by21.1.2.2.1
                have sq22_4 : (v22 4).toInt = (v4 4).toInt := by21.1.2.2.2.1
                have sq22_5 : (v22 5).toInt = (v4 5).toInt := by21.1.2.2.2.2.1
                have sq22_6 : (v22 6).toInt = (v4 6).toInt := by21.1.2.2.2.2.2.1
                have sp22 := by21.1.2.2.2.2.2.2
                have ob22 : OB v22 f22 (v 0).toInt (f 0) (f 1) := OB_fr ob4 (by omega) hg22_3 hg22_4
                have hb9 := by21.2
                clear by21
                intro m24 em_93
                try have e24 : m24.toInt = (z6_7).toInt + (1) := by rw [em_93]; exact pm_addc _ _ (1) rfl (by omega) (by omega)
                exact hC.2 [false, false, false, false, false, false, false, true, true, true] _ _ _ _ _ _ (ih6 m24 v22 f22 hv22 hf22 hw22 hr22_0 hr22_1 hr22_12 hr22_13 hr22_14 hr22_15 hr22_7 hr22_8 hr22_9 hr22_10 hr22_11 ob22 (by omega) (by omega) (by intro L h9 hL hH h1 h2 h3; have hl := hL.1; have hL2 := rp_fr hL (n2 := v22 0) (by omega) lr0 lr1; rw [show m24.toInt = z6_7.toInt + 1 by omega, rc_s hL2 h1 h2 h3 (by omega) (by omega)]; have h4 := hb9 _ (j2_7 L h9 hL hH h1 h2 h3); first | (rw [if_neg (by omega)]; exact h4) | (rw [if_pos (by omega), hH, if_pos (Or.inl (by assumption))]; exact h4) | (rw [if_pos (by omega), hH, if_pos (Or.inr (by assumption))]; exact h4) | (rw [if_pos (by omega), hH, if_neg (fun h8 => h8.elim (by assumption) (by assumption)), if_pos ⟨by assumption, by assumption⟩]; exact h4) | (rw [if_pos (by omega), hH, if_neg (fun h8 => h8.elim (by assumption) (by assumption)), if_neg (fun h8 => absurd h8.2 (by assumption))]; exact h4) | (rw [if_pos (by omega), hH, if_neg (fun h8 => h8.elim (by assumption) (by assumption)), if_neg (fun h8 => h8.1 (by assumption))]; exact h4)) (by omega) (by omega) (by omega))
              · skip
                have dc20 := pm_neI c20
                refine And.intro (fun c25 => ?_) (fun c25 => ?_)
                · skip
                  have dc25 := pm_neI c25
                  refine hC.1 5 76 _ _ rfl _ _ _ _ _ ?_
                  refine hC.1 6 78 _ _ rfl _ _ _ _ _ ?_
                  refine Exists.intro _ (And.intro md_o ?_)
                  refine Exists.intro _ (Exists.intro _ (And.intro (Or.inl (md_a_names D)) (And.intro (by omega) ?_)))
                  refine And.intro (Exists.intro _ md_o) (Exists.intro _ (Exists.intro _ (Exists.intro _ (Exists.intro _ (And.intro (U_X11_lays D v4 f4 hv4 hf4 (f4 0 (z6_7).toInt.toNat) (f4 1 (z6_7).toInt.toNat) (by omega) (by omega)) (And.intro rfl (fun r9 A9 h9 => ?_)))))))
                  obtain ⟨v27, f27, rfl, rfl, hv27, hf27, hx27, hg27_0, hg27_1, hg27_3, hg27_4, hg27_12, hg27_13, hg27_14, hg27_15, hg27_7, hg27_8, hg27_9, hg27_10, hg27_11, by26⟩ := h9
                  have hw27 : f27 2 = f 2 := hx27.trans hw4
                  have hr27_0 : f27 0 = f 0 := hg27_0.trans hr4_0
                  have hr27_1 : f27 1 = f 1 := hg27_1.trans hr4_1
                  have hr27_12 : f27 12 = f 12 := hg27_12.trans hr4_12
                  have hr27_13 : f27 13 = f 13 := hg27_13.trans hr4_13
                  have hr27_14 : f27 14 = f 14 := hg27_14.trans hr4_14
                  have hr27_15 : f27 15 = f 15 := hg27_15.trans hr4_15
                  have hr27_7 : f27 7 = f 7 := hg27_7.trans hr4_7
                  have hr27_8 : f27 8 = f 8 := hg27_8.trans hr4_8
                  have hr27_9 : f27 9 = f 9 := hg27_9.trans hr4_9
                  have hr27_10 : f27 10 = f 10 := hg27_10.trans hr4_10
                  have hr27_11 : f27 11 = f 11 := hg27_11.trans hr4_11
                  have hu28_2 := hv27.2.2.1
                  have hb_90 := by26.2
                  have sq27_0 : (v27 0).toInt = (v4 0).toInt := by26.1.1
                  have sq27_1 : (v27 1).toInt = (v4 1).toInt := by26.1.2.1
                  have sq27_3 : (v27 3).toInt = (v4 3).toInt := by26.1.2.2.1
                  have sq27_4 : (v27 4).toInt = (v4 4).toInt := by26.1.2.2.2.1
                  have sq27_5 : (v27 5).toInt = (v4 5).toInt := by26.1.2.2.2.2.1
                  have sq27_6 : (v27 6).toInt = (v4 6).toInt := by26.1.2.2.2.2.2.1
                  have sp27 := by26.1.2.2.2.2.2.2
                  have ob27 : OB v27 f27 (v 0).toInt (f 0) (f 1) := OB_fr ob4 (by omega) hg27_3 hg27_4
                  have hb9 := by26.2
                  clear by26
                  intro m29 em_93
                  try have e29 : m29.toInt = (z6_7).toInt + (1) := by rw [em_93]; exact pm_addc _ _ (1) rfl (by omega) (by omega)
                  exact hC.2 [false, false, false, false, false, false, false, true, true, true] _ _ _ _ _ _ (ih6 m29 v27 f27 hv27 hf27 hw27 hr27_0 hr27_1 hr27_12 hr27_13 hr27_14 hr27_15 hr27_7 hr27_8 hr27_9 hr27_10 hr27_11 ob27 (by omega) (by omega) (by intro L h9 hL hH h1 h2 h3; have hl := hL.1; have hL2 := rp_fr hL (n2 := v27 0) (by omega) lr0 lr1; rw [show m29.toInt = z6_7.toInt + 1 by omega, rc_s hL2 h1 h2 h3 (by omega) (by omega)]; have h4 := hb9 _ (j2_7 L h9 hL hH h1 h2 h3); first | (rw [if_neg (by omega)]; exact h4) | (rw [if_pos (by omega), hH, if_pos (Or.inl (by assumption))]; exact h4) | (rw [if_pos (by omega), hH, if_pos (Or.inr (by assumption))]; exact h4) | (rw [if_pos (by omega), hH, if_neg (fun h8 => h8.elim (by assumption) (by assumption)), if_pos ⟨by assumption, by assumption⟩]; exact h4) | (rw [if_pos (by omega), hH, if_neg (fun h8 => h8.elim (by assumption) (by assumption)), if_neg (fun h8 => absurd h8.2 (by assumption))]; exact h4) | (rw [if_pos (by omega), hH, if_neg (fun h8 => h8.elim (by assumption) (by assumption)), if_neg (fun h8 => h8.1 (by assumption))]; exact h4)) (by omega) (by omega) (by omega))
                · skip
                  have dc25 : ((f4 0 (z6_7).toInt.toNat)).toInt = (x4 : Int32).toInt := congrArg Int32.toInt c25
                  refine hC.1 6 78 _ _ rfl _ _ _ _ _ ?_
                  refine Exists.intro _ (And.intro md_o ?_)
                  refine Exists.intro _ (Exists.intro _ (And.intro (Or.inl (md_a_names D)) (And.intro (by omega) ?_)))
                  refine And.intro (Exists.intro _ md_o) (Exists.intro _ (Exists.intro _ (Exists.intro _ (Exists.intro _ (And.intro (U_X11_lays D v4 f4 hv4 hf4 x3 (f4 1 (z6_7).toInt.toNat) (by omega) (by omega)) (And.intro rfl (fun r9 A9 h9 => ?_)))))))
                  obtain ⟨v31, f31, rfl, rfl, hv31, hf31, hx31, hg31_0, hg31_1, hg31_3, hg31_4, hg31_12, hg31_13, hg31_14, hg31_15, hg31_7, hg31_8, hg31_9, hg31_10, hg31_11, by30⟩ := h9
                  have hw31 : f31 2 = f 2 := hx31.trans hw4
                  have hr31_0 : f31 0 = f 0 := hg31_0.trans hr4_0
                  have hr31_1 : f31 1 = f 1 := hg31_1.trans hr4_1
                  have hr31_12 : f31 12 = f 12 := hg31_12.trans hr4_12
                  have hr31_13 : f31 13 = f 13 := hg31_13.trans hr4_13
                  have hr31_14 : f31 14 = f 14 := hg31_14.trans hr4_14
                  have hr31_15 : f31 15 = f 15 := hg31_15.trans hr4_15
                  have hr31_7 : f31 7 = f 7 := hg31_7.trans hr4_7
                  have hr31_8 : f31 8 = f 8 := hg31_8.trans hr4_8
                  have hr31_9 : f31 9 = f 9 := hg31_9.trans hr4_9
                  have hr31_10 : f31 10 = f 10 := hg31_10.trans hr4_10
                  have hr31_11 : f31 11 = f 11 := hg31_11.trans hr4_11
                  have hu32_2 := hv31.2.2.1
                  have hb_90 := by30.2
                  have sq31_0 : (v31 0).toInt = (v4 0).toInt := by30.1.1
                  have sq31_1 : (v31 1).toInt = (v4 1).toInt := by30.1.2.1
                  have sq31_3 : (v31 3).toInt = (v4 3).toInt := by30.1.2.2.1
                  have sq31_4 : (v31 4).toInt = (v4 4).toInt := by30.1.2.2.2.1
                  have sq31_5 : (v31 5).toInt = (v4 5).toInt := by30.1.2.2.2.2.1
                  have sq31_6 : (v31 6).toInt = (v4 6).toInt := by30.1.2.2.2.2.2.1
                  have sp31 := by30.1.2.2.2.2.2.2
                  have ob31 : OB v31 f31 (v 0).toInt (f 0) (f 1) := OB_fr ob4 (by omega) hg31_3 hg31_4
                  have hb9 := by30.2
                  clear by30
                  intro m33 em_93
                  try have e33 : m33.toInt = (z6_7).toInt + (1) := by rw [em_93]; exact pm_addc _ _ (1) rfl (by omega) (by omega)
                  exact hC.2 [false, false, false, false, false, false, false, true, true, true] _ _ _ _ _ _ (ih6 m33 v31 f31 hv31 hf31 hw31 hr31_0 hr31_1 hr31_12 hr31_13 hr31_14 hr31_15 hr31_7 hr31_8 hr31_9 hr31_10 hr31_11 ob31 (by omega) (by omega) (by intro L h9 hL hH h1 h2 h3; have hl := hL.1; have hL2 := rp_fr hL (n2 := v31 0) (by omega) lr0 lr1; rw [show m33.toInt = z6_7.toInt + 1 by omega, rc_s hL2 h1 h2 h3 (by omega) (by omega)]; have h4 := hb9 _ (j2_7 L h9 hL hH h1 h2 h3); first | (rw [if_neg (by omega)]; exact h4) | (rw [if_pos (by omega), hH, if_pos (Or.inl (by assumption))]; exact h4) | (rw [if_pos (by omega), hH, if_pos (Or.inr (by assumption))]; exact h4) | (rw [if_pos (by omega), hH, if_neg (fun h8 => h8.elim (by assumption) (by assumption)), if_pos ⟨by assumption, by assumption⟩]; exact h4) | (rw [if_pos (by omega), hH, if_neg (fun h8 => h8.elim (by assumption) (by assumption)), if_neg (fun h8 => absurd h8.2 (by assumption))]; exact h4) | (rw [if_pos (by omega), hH, if_neg (fun h8 => h8.elim (by assumption) (by assumption)), if_neg (fun h8 => h8.1 (by assumption))]; exact h4)) (by omega) (by omega) (by omega))
            · skip
              have dc19 : ((f4 0 (z6_7).toInt.toNat)).toInt = (x3 : Int32).toInt := congrArg Int32.toInt c19
              refine hC.1 3 55 _ _ rfl _ _ _ _ _ ?_
              refine hC.1 6 78 _ _ rfl _ _ _ _ _ ?_
              refine Exists.intro _ (And.intro md_o ?_)
              refine Exists.intro _ (Exists.intro _ (And.intro (Or.inl (md_a_names D)) (And.intro (by omega) ?_)))
              refine And.intro (Exists.intro _ md_o) (Exists.intro _ (Exists.intro _ (Exists.intro _ (Exists.intro _ (And.intro (U_X11_lays D v4 f4 hv4 hf4 x4 (f4 1 (z6_7).toInt.toNat) (by omega) (by omega)) (And.intro rfl (fun r9 A9 h9 => ?_)))))))
              obtain ⟨v35, f35, rfl, rfl, hv35, hf35, hx35, hg35_0, hg35_1, hg35_3, hg35_4, hg35_12, hg35_13, hg35_14, hg35_15, hg35_7, hg35_8, hg35_9, hg35_10, hg35_11, by34⟩ := h9
              have hw35 : f35 2 = f 2 := hx35.trans hw4
              have hr35_0 : f35 0 = f 0 := hg35_0.trans hr4_0
              have hr35_1 : f35 1 = f 1 := hg35_1.trans hr4_1
              have hr35_12 : f35 12 = f 12 := hg35_12.trans hr4_12
              have hr35_13 : f35 13 = f 13 := hg35_13.trans hr4_13
              have hr35_14 : f35 14 = f 14 := hg35_14.trans hr4_14
              have hr35_15 : f35 15 = f 15 := hg35_15.trans hr4_15
              have hr35_7 : f35 7 = f 7 := hg35_7.trans hr4_7
              have hr35_8 : f35 8 = f 8 := hg35_8.trans hr4_8
              have hr35_9 : f35 9 = f 9 := hg35_9.trans hr4_9
              have hr35_10 : f35 10 = f 10 := hg35_10.trans hr4_10
              have hr35_11 : f35 11 = f 11 := hg35_11.trans hr4_11
              have hu36_2 := hv35.2.2.1
              have hb_90 := by34.2
              have sq35_0 : (v35 0).toInt = (v4 0).toInt := by34.1.1
              have sq35_1 : (v35 1).toInt = (v4 1).toInt := by34.1.2.1
              have sq35_3 : (v35 3).toInt = (v4 3).toInt := by34.1.2.2.1
              have sq35_4 : (v35 4).toInt = (v4 4).toInt := by34.1.2.2.2.1
              have sq35_5 : (v35 5).toInt = (v4 5).toInt := by34.1.2.2.2.2.1
              have sq35_6 : (v35 6).toInt = (v4 6).toInt := by34.1.2.2.2.2.2.1
              have sp35 := by34.1.2.2.2.2.2.2
              have ob35 : OB v35 f35 (v 0).toInt (f 0) (f 1) := OB_fr ob4 (by omega) hg35_3 hg35_4
              have hb9 := by34.2
              clear by34
              intro m37 em_93
              try have e37 : m37.toInt = (z6_7).toInt + (1) := by rw [em_93]; exact pm_addc _ _ (1) rfl (by omega) (by omega)
              exact hC.2 [false, false, false, false, false, false, false, true, true, true] _ _ _ _ _ _ (ih6 m37 v35 f35 hv35 hf35 hw35 hr35_0 hr35_1 hr35_12 hr35_13 hr35_14 hr35_15 hr35_7 hr35_8 hr35_9 hr35_10 hr35_11 ob35 (by omega) (by omega) (by intro L h9 hL hH h1 h2 h3; have hl := hL.1; have hL2 := rp_fr hL (n2 := v35 0) (by omega) lr0 lr1; rw [show m37.toInt = z6_7.toInt + 1 by omega, rc_s hL2 h1 h2 h3 (by omega) (by omega)]; have h4 := hb9 _ (j2_7 L h9 hL hH h1 h2 h3); first | (rw [if_neg (by omega)]; exact h4) | (rw [if_pos (by omega), hH, if_pos (Or.inl (by assumption))]; exact h4) | (rw [if_pos (by omega), hH, if_pos (Or.inr (by assumption))]; exact h4) | (rw [if_pos (by omega), hH, if_neg (fun h8 => h8.elim (by assumption) (by assumption)), if_pos ⟨by assumption, by assumption⟩]; exact h4) | (rw [if_pos (by omega), hH, if_neg (fun h8 => h8.elim (by assumption) (by assumption)), if_neg (fun h8 => absurd h8.2 (by assumption))]; exact h4) | (rw [if_pos (by omega), hH, if_neg (fun h8 => h8.elim (by assumption) (by assumption)), if_neg (fun h8 => h8.1 (by assumption))]; exact h4)) (by omega) (by omega) (by omega))
        · skip
          refine And.intro (fun c9 => absurd c9 (by decide)) (fun _ => ?_)
          refine hC.1 6 78 _ _ rfl _ _ _ _ _ ?_
          refine Exists.intro _ (And.intro md_o ?_)
          refine Exists.intro _ (Exists.intro _ (And.intro (Or.inl (md_a_names D)) (And.intro (by omega) ?_)))
          refine And.intro (Exists.intro _ md_o) (Exists.intro _ (Exists.intro _ (Exists.intro _ (Exists.intro _ (And.intro (U_X11_lays D v4 f4 hv4 hf4 (f4 0 (z6_7).toInt.toNat) (f4 1 (z6_7).toInt.toNat) (by omega) (by omega)) (And.intro rfl (fun r9 A9 h9 => ?_)))))))
          obtain ⟨v39, f39, rfl, rfl, hv39, hf39, hx39, hg39_0, hg39_1, hg39_3, hg39_4, hg39_12, hg39_13, hg39_14, hg39_15, hg39_7, hg39_8, hg39_9, hg39_10, hg39_11, by38⟩ := h9
          have hw39 : f39 2 = f 2 := hx39.trans hw4
          have hr39_0 : f39 0 = f 0 := hg39_0.trans hr4_0
          have hr39_1 : f39 1 = f 1 := hg39_1.trans hr4_1
          have hr39_12 : f39 12 = f 12 := hg39_12.trans hr4_12
          have hr39_13 : f39 13 = f 13 := hg39_13.trans hr4_13
          have hr39_14 : f39 14 = f 14 := hg39_14.trans hr4_14
          have hr39_15 : f39 15 = f 15 := hg39_15.trans hr4_15
          have hr39_7 : f39 7 = f 7 := hg39_7.trans hr4_7
          have hr39_8 : f39 8 = f 8 := hg39_8.trans hr4_8
          have hr39_9 : f39 9 = f 9 := hg39_9.trans hr4_9
          have hr39_10 : f39 10 = f 10 := hg39_10.trans hr4_10
          have hr39_11 : f39 11 = f 11 := hg39_11.trans hr4_11
          have hu40_2 := hv39.2.2.1
          have hb_90 := by38.2
          have sq39_0 : (v39 0).toInt = (v4 0).toInt := by38.1.1
          have sq39_1 : (v39 1).toInt = (v4 1).toInt := by38.1.2.1
          have sq39_3 : (v39 3).toInt = (v4 3).toInt := by38.1.2.2.1
          have sq39_4 : (v39 4).toInt = (v4 4).toInt := by38.1.2.2.2.1
          have sq39_5 : (v39 5).toInt = (v4 5).toInt := by38.1.2.2.2.2.1
          have sq39_6 : (v39 6).toInt = (v4 6).toInt := by38.1.2.2.2.2.2.1
          have sp39 := by38.1.2.2.2.2.2.2
          have ob39 : OB v39 f39 (v 0).toInt (f 0) (f 1) := OB_fr ob4 (by omega) hg39_3 hg39_4
          have hb9 := by38.2
          clear by38
          have k1 : (1 : Int32).toInt = 1 := rfl
          intro m41 em_93
          try have e41 : m41.toInt = (z6_7).toInt + (1) := by rw [em_93]; exact pm_addc _ _ (1) rfl (by omega) (by omega)
          exact hC.2 [false, false, false, false, false, false, false, true, true, true] _ _ _ _ _ _ (ih6 m41 v39 f39 hv39 hf39 hw39 hr39_0 hr39_1 hr39_12 hr39_13 hr39_14 hr39_15 hr39_7 hr39_8 hr39_9 hr39_10 hr39_11 ob39 (by omega) (by omega) (by intro L h9 hL hH h1 h2 h3; have hl := hL.1; have hL2 := rp_fr hL (n2 := v39 0) (by omega) lr0 lr1; rw [show m41.toInt = z6_7.toInt + 1 by omega, rc_s hL2 h1 h2 h3 (by omega) (by omega)]; have h4 := hb9 _ (j2_7 L h9 hL hH h1 h2 h3); first | (rw [if_neg (by omega)]; exact h4) | (rw [if_pos (by omega), hH, if_pos (Or.inl (by assumption))]; exact h4) | (rw [if_pos (by omega), hH, if_pos (Or.inr (by assumption))]; exact h4) | (rw [if_pos (by omega), hH, if_neg (fun h8 => h8.elim (by assumption) (by assumption)), if_pos ⟨by assumption, by assumption⟩]; exact h4) | (rw [if_pos (by omega), hH, if_neg (fun h8 => h8.elim (by assumption) (by assumption)), if_neg (fun h8 => absurd h8.2 (by assumption))]; exact h4) | (rw [if_pos (by omega), hH, if_neg (fun h8 => h8.elim (by assumption) (by assumption)), if_neg (fun h8 => h8.1 (by assumption))]; exact h4)) (by omega) (by omega) (by omega))
  exact lp5 (200 - (0 : Int32).toInt).toNat.succ (0 : Int32) v2 f2 hv2 hf2 hw2 hr2_0 hr2_1 hr2_12 hr2_13 hr2_14 hr2_15 hr2_7 hr2_8 hr2_9 hr2_10 hr2_11 ob2 (by omega) (by omega) (by intro L h9 hL hH h1 h2 h3; rw [rc_0 h1 h2]; exact rp_0 (by omega)) (by omega) (by omega) (by omega)

set_option maxRecDepth 100000 in
set_option maxHeartbeats 2000000 in
theorem U_X11_put (D : md_D h q) (v : Nat → Int32) (f : Nat → Nat → Int32) (hv : md_V v) (hf : md_F f) (x1 : Int32) (x2 : Int32) (p0 : (v 4).toInt < 100000) : pm_Mt l g 167 5 0 0 [.ref h, .int x1, .int x2] (md A0 g h q v f) (md_Qw A0 g h q f (fun r v2 f2 => f2 7 = f 7 ∧ f2 8 = f 8 ∧ f2 9 = f 9 ∧ f2 10 = f 10 ∧ f2 11 = f 11 ∧ ((v2 6).toInt = (v 6).toInt ∧ (v2 4).toInt ≤ (v 4).toInt + 1 ∧ (v 4).toInt ≤ (v2 4).toInt) ∧ ((∀ L, rp (v 0) (f 0) (f 1) L → rp (v2 0) (f2 0) (f2 1) ((ed_paint L x1 x1 x2).getD L) ∧ (v2 4).toInt = (v 4).toInt + edn (ed_paint L x1 x1 x2) ∧ (v2 3).toInt = (v 3).toInt + edn (ed_paint L x1 x1 x2) * (0)) ∧ (HMe (v 4).toInt f v2 f2 r.toInt) ∧ (((v2 4).toInt = (v 4).toInt ∧ r.toInt = -1 ∧ v2 5 = v 5) ∨ ((v2 4).toInt = (v 4).toInt + 1 ∧ r.toInt = (tcN (v 0).toInt (f 0) (f 1) (f2 0) (f2 1) (v2 0).toInt.toNat : Int) ∧ v2 5 = v 5 + r))))) := by
  refine mt_X11_put rfl (fun J hC => ?_)
  have hv9 := hv
  unfold md_V at hv9
  have rg_x1 := pm_rng x1
  have rg_x2 := pm_rng x2
  refine hC.1 0 0 _ _ rfl _ _ _ _ _ ?_
  refine And.intro (Exists.intro _ md_o) (Exists.intro _ (Exists.intro _ (Exists.intro _ (Exists.intro _ (And.intro (c_X11_isPlace D v f hv hf x1 ) (And.intro rfl (fun r9 A9 h9 => ?_)))))))
  rcases h9 with ⟨y1, rfl, rfl, ⟨rfl, by1⟩ | ⟨rfl, by1⟩⟩
  · skip
    have k1 : (1 : Int32).toInt = 1 := rfl
    refine And.intro (fun c9 => absurd c9 (by decide)) (fun _ => ?_)
    refine Exists.intro _ (Exists.intro _ (Exists.intro _ (Exists.intro _ (And.intro (c_X11_isColour (md A0 g h q v f) x2 ) (And.intro rfl (fun r9 A9 h9 => ?_))))))
    rcases h9 with ⟨y2, rfl, rfl, ⟨rfl, by2⟩ | ⟨rfl, by2⟩⟩
    · skip
      refine And.intro (fun c9 => absurd c9 (by decide)) (fun _ => ?_)
      have km1 : (-1 : Int32).toInt = -1 := rfl
      have k0 : (0 : Int32).toInt = 0 := rfl
      have hp_21 : ∀ L, rp (v 0) (f 0) (f 1) L → rp (v 0) (f 0) (f 1) L := fun L h => rp_fr h (by omega) rfl rfl
      refine And.intro (Exists.intro _ md_o) (Exists.intro _ (Exists.intro _ (Exists.intro _ (Exists.intro _ (And.intro (U_X11_recolours D v f hv hf x1 x1 (-1 : Int32) x2 (0 : Int32) (by omega) (by omega) (by omega)) (And.intro rfl (fun r9 A9 h9 => ?_)))))))
      obtain ⟨y3, v4, f4, rfl, rfl, hv4, hf4, hx4, hg4_7, hg4_8, hg4_9, hg4_10, hg4_11, by3⟩ := h9
      have hw4 : f4 2 = f 2 := hx4.trans rfl
      have hr4_7 : f4 7 = f 7 := hg4_7.trans rfl
      have hr4_8 : f4 8 = f 8 := hg4_8.trans rfl
      have hr4_9 : f4 9 = f 9 := hg4_9.trans rfl
      have hr4_10 : f4 10 = f 10 := hg4_10.trans rfl
      have hr4_11 : f4 11 = f 11 := hg4_11.trans rfl
      have hu5_0 := hv4.1
      have hu5_1 := hv4.2.1
      have hu5_2 := hv4.2.2.1
      have hu5_4 := hv4.2.2.2.2.1
      have hb_21 := by3.2.1
      have sq4_3 : (v4 3).toInt = (v 3).toInt := by3.1.1
      have sq4_6 : (v4 6).toInt = (v 6).toInt := by3.1.2.1
      have sp4 := by3.1.2.2
      have hm_9 := HM_fr by3.2.2.1 rfl rfl rfl rfl
      have hq_9 := by3.2.2.2
      clear by3
      refine hC.1 2 28 _ _ rfl _ _ _ _ _ ?_
      exact ⟨rfl, fun e9 => absurd e9 (by decide), rfl, y3, v4, f4, rfl, rfl, hv4, hf4, hw4, hr4_7, hr4_8, hr4_9, hr4_10, hr4_11, by first | omega | (dsimp only; omega) | trivial, by refine ⟨?_, ?_, ?_⟩; (first | (intro L hL; have hl := hL.1; rw [ed_paint, if_pos (by omega)]; have t9 := hb_21 L (fun _ => x2) (hp_21 L hL) (fun c9 => (if_pos (Or.inl rfl)).symm) (by omega) (by omega) (by omega); exact ⟨t9, by show _ = _ + (1 : Int); omega, by show _ = _ + (1 : Int) * _; omega⟩) | (intro L hL; have hl := hL.1; rw [ed_paint, if_neg (by omega)]; exact ⟨hL, by show _ = _ + (0 : Int); omega, by show _ = _ + (0 : Int) * _; omega⟩)); (first | (exact Or.inr ⟨by omega, hm_9⟩) | (exact Or.inl ⟨by omega, hr_missing, hr_missing, hr_missing, hr_missing⟩)); (first | (exact hq_9) | (exact Or.inr ⟨by omega, ha_9, h5_9.trans (by congr 1; exact pm_eqI (by omega))⟩) | (exact Or.inl ⟨rfl, rfl, rfl⟩))⟩
    · skip
      have k0 : (0 : Int32).toInt = 0 := rfl
      refine And.intro (fun _ => ?_) (fun c9 => absurd c9 (by decide))
      refine hC.1 1 27 _ _ rfl _ _ _ _ _ ?_
      have km1 : (-1 : Int32).toInt = -1 := rfl
      refine hC.1 2 28 _ _ rfl _ _ _ _ _ ?_
      exact ⟨rfl, fun e9 => absurd e9 (by decide), rfl, (-1 : Int32), v, f, rfl, rfl, hv, hf, rfl, rfl, rfl, rfl, rfl, rfl, by first | omega | (dsimp only; omega) | trivial, by refine ⟨?_, ?_, ?_⟩; (first | (intro L hL; have hl := hL.1; rw [ed_paint, if_pos (by omega)]; have t9 := hb_21 L (fun _ => x2) (hp_21 L hL) (fun c9 => (if_pos (Or.inl rfl)).symm) (by omega) (by omega) (by omega); exact ⟨t9, by show _ = _ + (1 : Int); omega, by show _ = _ + (1 : Int) * _; omega⟩) | (intro L hL; have hl := hL.1; rw [ed_paint, if_neg (by omega)]; exact ⟨hL, by show _ = _ + (0 : Int); omega, by show _ = _ + (0 : Int) * _; omega⟩)); (first | (exact Or.inr ⟨by omega, hm_9⟩) | (exact Or.inl ⟨by omega, rfl, rfl, rfl, rfl⟩)); (first | (exact hq_9) | (exact Or.inr ⟨by omega, ha_9, h5_9.trans (by congr 1; exact pm_eqI (by omega))⟩) | (exact Or.inl ⟨rfl, rfl, rfl⟩))⟩
  · skip
    have k0 : (0 : Int32).toInt = 0 := rfl
    refine And.intro (fun _ => ?_) (fun c9 => absurd c9 (by decide))
    refine hC.1 1 27 _ _ rfl _ _ _ _ _ ?_
    have km1 : (-1 : Int32).toInt = -1 := rfl
    refine hC.1 2 28 _ _ rfl _ _ _ _ _ ?_
    exact ⟨rfl, fun e9 => absurd e9 (by decide), rfl, (-1 : Int32), v, f, rfl, rfl, hv, hf, rfl, rfl, rfl, rfl, rfl, rfl, by first | omega | (dsimp only; omega) | trivial, by refine ⟨?_, ?_, ?_⟩; (first | (intro L hL; have hl := hL.1; rw [ed_paint, if_pos (by omega)]; have t9 := hb_21 L (fun _ => x2) (hp_21 L hL) (fun c9 => (if_pos (Or.inl rfl)).symm) (by omega) (by omega) (by omega); exact ⟨t9, by show _ = _ + (1 : Int); omega, by show _ = _ + (1 : Int) * _; omega⟩) | (intro L hL; have hl := hL.1; rw [ed_paint, if_neg (by omega)]; exact ⟨hL, by show _ = _ + (0 : Int); omega, by show _ = _ + (0 : Int) * _; omega⟩)); (first | (exact Or.inr ⟨by omega, hm_9⟩) | (exact Or.inl ⟨by omega, rfl, rfl, rfl, rfl⟩)); (first | (exact hq_9) | (exact Or.inr ⟨by omega, ha_9, h5_9.trans (by congr 1; exact pm_eqI (by omega))⟩) | (exact Or.inl ⟨rfl, rfl, rfl⟩))⟩

end
end
