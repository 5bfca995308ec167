section
section
variable {l : Launch} {g : pm_G} {A0 : pm_H} {K nn dn : Nat} {q : Nat → Nat} {w : Nat → Int32} {e : Nat → Nat → Int32} {v : Nat → Int32} {f : Nat → Nat → Int32}
set_option maxRecDepth 100000 in
set_option maxHeartbeats 2000000 in
theorem c_X6_forMass (hI : cw_I K nn dn q w e) (hs : cw_S v f) {o1 : Nat} (ho1 : cw_ro K o1) (x3 : Int32) (x4 : Int32) (p0 : 0 ≤ x3.toInt ∧ x3.toInt < 160) : pm_Mt l g 105 2 0 0 [.ref (q 5), .ref (q o1), .ref (q 2), .int x3, .int x4] (cw A0 g K nn dn q w e v f) (cw_Qs A0 g K nn dn q w e (fun r v2 f2 => ∃ x : Int32, r = some (.int x) ∧ (True))) := by
  refine mt_X6_forMass rfl (fun J hC => ?_)
  have ro_nn : cw_ro K nn := hI.2.1.2.1
  have ro_dn : cw_ro K dn := hI.2.1.2.2.1
  have hu1 := hI.2.1
  unfold cw_W at hu1
  have rg_x3 := pm_rng x3
  have rg_x4 := pm_rng x4
  have zz0 := cw_sz hI ho1
  show J 0 [some (.ref (q 5)), some (.ref (q o1)), some (.ref (q 2)), some (.int x3), some (.int x4), none] [] (cw A0 g K nn dn q w e v f) 0 0
  refine hC.1 0 0 _ _ rfl _ _ _ _ _ ?_
  refine pq_aload_n2 (pq_iv0_2 ?_)
  refine And.intro (Exists.intro _ (cw_o2 hI.1)) (Exists.intro _ (Exists.intro _ (Exists.intro _ (Exists.intro _ (And.intro (c_X2_clear hI hs  ) (And.intro rfl (fun r9 A9 h9 => ?_)))))))
  rcases h9 with ⟨v3, f3, rfl, hs3, rfl, by2⟩
  refine pq_id0 (pq_iload_n3 (pq_istore [some (.ref (q 5)), some (.ref (q o1)), some (.ref (q 2)), some (.int x3), some (.int x4), some (.int x3)] rfl (pq_nil ?_)))
  have lp5 : ∀ (n : Nat) (z5_7 : Int32) (v4 : Nat → Int32) (f4 : Nat → Nat → Int32), cw_S v4 f4 → (0 ≤ z5_7.toInt ∧ z5_7.toInt ≤ 160) → 200 - z5_7.toInt < (n : Int) → J 7 [some (.ref (q 5)), some (.ref (q o1)), some (.ref (q 2)), some (.int x3), some (.int x4), some (.int z5_7)] [] (cw A0 g K nn dn q w e v4 f4) 0 0 := by
    intro n
    induction n with
    | zero =>
      intro z5_7 v4 f4 hs4 j0_7 j1_7
      omega
    | succ n ih6 =>
      intro z5_7 v4 f4 hs4 j0_7 j1_7
      refine hC.1 1 7 _ _ rfl _ _ _ _ _ ?_
      refine pq_iload5 (pq_aload_n1 (qgr_3 hI.1 ho1 ?_))
      have z7 := cw_sz hI ho1
      refine pq_icmp_ge ?_
      refine And.intro (fun c8 => ?_) (fun c8 => ?_)
      · skip
        refine hC.1 3 45 _ _ rfl _ _ _ _ _ ?_
        have km1 : (-1 : Int32).toInt = -1 := rfl
        refine pq_iconst (pq_iret ?_)
        exact ⟨rfl, fun e9 => absurd e9 (by decide), rfl, v4, f4, rfl, hs4, (-1 : Int32), rfl, by exact True.intro⟩
      · skip
        refine pq_aload_n2 (pq_aload_n1 (qgr_0 hI.1 ho1 (pq_iload5 (qlc_r1 hI.1 ho1 (by omega) ?_))))
        have w9 := cw_col hI ho1 (z5_7).toInt.toNat
        refine pq_iv1_2 ?_
        refine And.intro (Exists.intro _ (cw_o2 hI.1)) (Exists.intro _ (Exists.intro _ (Exists.intro _ (Exists.intro _ (And.intro (c_X2_take hI hs4 (e (o1 + 1) (z5_7).toInt.toNat) (by omega)) (And.intro rfl (fun r9 A9 h9 => ?_)))))))
        rcases h9 with ⟨v11, f11, rfl, hs11, rfl, by10⟩
        refine pq_id0 (pq_aload_n2 (qgc_2_5 hI.1 (pq_iload4 (pq_icmp_lt ?_))))
        refine And.intro (fun c12 => ?_) (fun c12 => ?_)
        · skip
          refine hC.1 2 39 _ _ rfl _ _ _ _ _ ?_
          have k1 : (1 : Int32).toInt = 1 := rfl
          refine pq_iinc (fun zm_9 => [some (.ref (q 5)), some (.ref (q o1)), some (.ref (q 2)), some (.int x3), some (.int x4), some (.int zm_9)]) rfl (fun _ => rfl) ?_
          intro m13 em_39
          try have e13 : m13.toInt = (z5_7).toInt + (1) := by rw [em_39]; exact pm_addc _ _ (1) rfl (by omega) (by omega)
          refine pq_goto ?_
          exact ih6 m13 v11 f11 hs11 (by omega) (by omega)
        · skip
          refine pq_iload5 (pq_iret ?_)
          exact ⟨rfl, fun e9 => absurd e9 (by decide), rfl, v11, f11, rfl, hs11, z5_7, rfl, by exact True.intro⟩
  exact lp5 (200 - x3.toInt).toNat.succ x3 v3 f3 hs3 (by omega) (by omega)

set_option maxRecDepth 100000 in
set_option maxHeartbeats 2000000 in
theorem c_X6_earliestLatest (hI : cw_I K nn dn q w e) (hs : cw_S v f) (x1 : Int32) (x2 : Int32)  : pm_Mt l g 109 1 0 0 [.ref (q 5), .int x1, .int x2] (cw A0 g K nn dn q w e v f) (md_Qp (cw A0 g K nn dn q w e v f) (fun r => True)) := by
  refine mt_X6_earliestLatest rfl (fun J hC => ?_)
  have ro_nn : cw_ro K nn := hI.2.1.2.1
  have ro_dn : cw_ro K dn := hI.2.1.2.2.1
  have hu1 := hI.2.1
  unfold cw_W at hu1
  have rg_x1 := pm_rng x1
  have rg_x2 := pm_rng x2
  show J 0 [some (.ref (q 5)), some (.int x1), some (.int x2), none, none] [] (cw A0 g K nn dn q w e v f) 0 0
  refine hC.1 0 0 _ _ rfl _ _ _ _ _ ?_
  refine pq_iload_n2 (pq_istore_n [some (.ref (q 5)), some (.int x1), some (.int x2), some (.int x2), none] rfl ?_)
  have k0 : (0 : Int32).toInt = 0 := rfl
  refine pq_iconst (pq_istore [some (.ref (q 5)), some (.int x1), some (.int x2), some (.int x2), some (.int (0 : Int32))] rfl (pq_nil ?_))
  have lp3 : ∀ (n : Nat) (z3_5 : Int32) (z4_5 : Int32), (0 ≤ z4_5.toInt ∧ z4_5.toInt ≤ 24) → 200 - z4_5.toInt < (n : Int) → J 5 [some (.ref (q 5)), some (.int x1), some (.int x2), some (.int z3_5), some (.int z4_5)] [] (cw A0 g K nn dn q w e v f) 0 0 := by
    intro n
    induction n with
    | zero =>
      intro z3_5 z4_5 j0_5 j1_5
      omega
    | succ n ih4 =>
      intro z3_5 z4_5 j0_5 j1_5
      refine hC.1 1 5 _ _ rfl _ _ _ _ _ ?_
      refine pq_iload4 ?_
      have k24 : (24 : Int32).toInt = 24 := rfl
      refine pq_bipush (pq_icmp_ge ?_)
      refine And.intro (fun c5 => ?_) (fun c5 => ?_)
      · skip
        refine hC.1 3 39 _ _ rfl _ _ _ _ _ ?_
        refine pq_iload_n3 (pq_iret ?_)
        exact ⟨rfl, fun e9 => absurd e9 (by decide), rfl, z3_5, rfl, rfl, by exact True.intro⟩
      · skip
        refine pq_iload_n1 ?_
        have k1 : (1 : Int32).toInt = 1 := rfl
        refine pq_iconst (pq_iload4 (pq_ishl (pq_iand (pq_icond_eq ?_))))
        refine And.intro (fun c6 => ?_) (fun c6 => ?_)
        · skip
          have dc6 : ((x1 &&& ((1 : Int32) <<< (z4_5 &&& 31)))).toInt = (0 : Int32).toInt := congrArg Int32.toInt c6
          refine hC.1 2 33 _ _ rfl _ _ _ _ _ ?_
          refine pq_iinc (fun zm_9 => [some (.ref (q 5)), some (.int x1), some (.int x2), some (.int z3_5), some (.int zm_9)]) rfl (fun _ => rfl) ?_
          intro m7 em_33
          try have e7 : m7.toInt = (z4_5).toInt + (1) := by rw [em_33]; exact pm_addc _ _ (1) rfl (by omega) (by omega)
          refine pq_goto ?_
          exact ih4 z3_5 m7 (by omega) (by omega)
        · skip
          have dc6 := pm_neI c6
          refine pq_iload_n3 (pq_aload_n0 (qgc_5_0 hI.1 (pq_iload4 (qlc_21 hI.1 (by omega) (pq_is2 ?_)))))
          refine Exists.intro _ (Exists.intro _ (Exists.intro _ (Exists.intro _ (And.intro (c_J9_min_7cf53 (cw A0 g K nn dn q w e v f) z3_5 (f 21 (z4_5).toInt.toNat) ) (And.intro rfl (fun r9 A9 h9 => ?_))))))
          obtain ⟨y8, rfl, rfl, by8⟩ := h9
          refine pq_id1 (pq_istore_n [some (.ref (q 5)), some (.int x1), some (.int x2), some (.int y8), some (.int z4_5)] rfl (pq_nil ?_))
          refine hC.1 2 33 _ _ rfl _ _ _ _ _ ?_
          refine pq_iinc (fun zm_9 => [some (.ref (q 5)), some (.int x1), some (.int x2), some (.int y8), some (.int zm_9)]) rfl (fun _ => rfl) ?_
          intro m10 em_33
          try have e10 : m10.toInt = (z4_5).toInt + (1) := by rw [em_33]; exact pm_addc _ _ (1) rfl (by omega) (by omega)
          refine pq_goto ?_
          exact ih4 y8 m10 (by omega) (by omega)
  exact lp3 (200 - (0 : Int32).toInt).toNat.succ x2 (0 : Int32) (by omega) (by omega)

set_option maxRecDepth 100000 in
set_option maxHeartbeats 2000000 in
theorem c_X6_findShortestWith (hI : cw_I K nn dn q w e) (hs : cw_S v f) {o1 : Nat} (ho1 : cw_ro K o1) (x2 : Int32)  : pm_Mt l g 107 2 0 0 [.ref (q 5), .ref (q o1), .int x2] (cw A0 g K nn dn q w e v f) (cw_Qs A0 g K nn dn q w e (fun r v2 f2 => r = none ∧ (True))) := by
  refine mt_X6_findShortestWith rfl (fun J hC => ?_)
  have ro_nn : cw_ro K nn := hI.2.1.2.1
  have ro_dn : cw_ro K dn := hI.2.1.2.2.1
  have hu1 := hI.2.1
  unfold cw_W at hu1
  have rg_x2 := pm_rng x2
  have zz0 := cw_sz hI ho1
  show J 0 [some (.ref (q 5)), some (.ref (q o1)), some (.int x2), none, none] [] (cw A0 g K nn dn q w e v f) 0 0
  refine hC.1 0 0 _ _ rfl _ _ _ _ _ ?_
  refine pq_aload_n0 (pq_iv0_6 ?_)
  refine And.intro (Exists.intro _ (cw_o5 hI.1)) (Exists.intro _ (Exists.intro _ (Exists.intro _ (Exists.intro _ (And.intro (c_X6_clearFound hI hs  ) (And.intro rfl (fun r9 A9 h9 => ?_)))))))
  rcases h9 with ⟨v3, f3, rfl, hs3, rfl, by2⟩
  refine pq_id0 (pq_aload_n0 ?_)
  have k0 : (0 : Int32).toInt = 0 := rfl
  refine pq_iconst ?_
  refine quc_5_4 hI.1 (fun v4 ev4 => ?_)
  have hs4 : cw_S v4 f3 := by rw [ev4]; exact cw_S_v hs3 10 _ (by decide)
  have ev4_0 : (v4 0).toInt = (v3 0).toInt := by rw [ev4]; rfl
  refine pq_aload_n0 (qgc_5_0 hI.1 ?_)
  have km1 : (-1 : Int32).toInt = -1 := rfl
  refine pq_iconst (pq_is2 ?_)
  refine Exists.intro _ (Exists.intro _ (Exists.intro _ (Exists.intro _ (And.intro (c_fill (cw_a21 hI.1) (by decide) (-1 : Int32)) (And.intro rfl (fun r9 A9 h9 => ?_))))))
  obtain ⟨rfl, rfl⟩ := h9
  rw [cw_s21 hI.1]
  obtain ⟨f5, ef5⟩ : ∃ z9, z9 = va_up f3 21 (fun j => if j < 24 then (-1 : Int32) else f3 21 j) := ⟨_, rfl⟩
  rw [← ef5]
  have hs5 : cw_S v4 f5 := by rw [ef5]; exact cw_S_fr hs4 _ _ (by decide) (by decide)
  refine pq_id0 (pq_iconst (pq_istore_n [some (.ref (q 5)), some (.ref (q o1)), some (.int x2), some (.int (0 : Int32)), none] rfl (pq_nil ?_)))
  have lp7 : ∀ (n : Nat) (z3_19 : Int32) (v6 : Nat → Int32) (f6 : Nat → Nat → Int32), cw_S v6 f6 → (0 ≤ z3_19.toInt ∧ z3_19.toInt ≤ 160) → 200 - z3_19.toInt < (n : Int) → J 19 [some (.ref (q 5)), some (.ref (q o1)), some (.int x2), some (.int z3_19), none] [] (cw A0 g K nn dn q w e v6 f6) 0 0 := by
    intro n
    induction n with
    | zero =>
      intro z3_19 v6 f6 hs6 j0_19 j1_19
      omega
    | succ n ih8 =>
      intro z3_19 v6 f6 hs6 j0_19 j1_19
      refine hC.1 1 19 _ _ rfl _ _ _ _ _ ?_
      refine pq_iload_n3 (pq_aload_n1 (qgr_3 hI.1 ho1 ?_))
      have z9 := cw_sz hI ho1
      refine pq_icmp_ge ?_
      refine And.intro (fun c10 => ?_) (fun c10 => ?_)
      · skip
        refine hC.1 4 107 _ _ rfl _ _ _ _ _ ?_
        refine pq_ret ?_
        exact ⟨rfl, rfl, v6, f6, rfl, hs6, rfl, by exact True.intro⟩
      · skip
        refine pq_aload_n0 (qgc_5_0 hI.1 (pq_aload_n1 (qgr_0 hI.1 ho1 (pq_iload_n3 (qlc_r1 hI.1 ho1 (by omega) ?_)))))
        have w11 := cw_col hI ho1 (z3_19).toInt.toNat
        refine pq_iload_n3 ?_
        refine qsc_21 hI.1 (by omega) (fun f12 ef12 => ?_)
        have hs12 : cw_S v6 f12 := by rw [ef12]; exact cw_S_fr hs6 _ _ (by decide) (by decide)
        refine pq_aload_n0 (pq_iload_n2 (pq_iload_n3 (pq_iv2_6 ?_)))
        refine And.intro (Exists.intro _ (cw_o5 hI.1)) (Exists.intro _ (Exists.intro _ (Exists.intro _ (Exists.intro _ (And.intro (c_X6_earliestLatest hI hs12 x2 z3_19 ) (And.intro rfl (fun r9 A9 h9 => ?_)))))))
        obtain ⟨y13, rfl, rfl, by13⟩ := h9
        refine pq_id1 (pq_istore [some (.ref (q 5)), some (.ref (q o1)), some (.int x2), some (.int z3_19), some (.int y13)] rfl (pq_aload_n0 (pq_dupr (qgc_5_4 hI.1 (pq_iload4 ?_)))))
        have k1 : (1 : Int32).toInt = 1 := rfl
        refine pq_iconst (pq_iadd ?_)
        intro m15 em_55
        try have e15 : m15.toInt = (y13).toInt + (1) := by rw [em_55]; exact pm_addc _ _ (1) rfl (by omega) (by omega)
        refine pq_iadd ?_
        intro m16 em_56
        try have e16 : m16.toInt = ((v6 10)).toInt + (m15).toInt := by rw [em_56]; exact pm_add _ _ (by omega) (by omega)
        refine quc_5_4 hI.1 (fun v17 ev17 => ?_)
        have hs17 : cw_S v17 f12 := by rw [ev17]; exact cw_S_v hs12 10 _ (by decide)
        have ev17_0 : (v17 0).toInt = (v6 0).toInt := by rw [ev17]; rfl
        refine pq_iload4 (pq_iconst (pq_icmp_eq ?_))
        refine And.intro (fun c18 => ?_) (fun c18 => ?_)
        · skip
          have dc18 : (y13).toInt = ((-1 : Int32) : Int32).toInt := congrArg Int32.toInt c18
          refine hC.1 3 101 _ _ rfl _ _ _ _ _ ?_
          refine pq_iinc (fun zm_9 => [some (.ref (q 5)), some (.ref (q o1)), some (.int x2), some (.int zm_9), some (.int y13)]) rfl (fun _ => rfl) ?_
          intro m19 em_101
          try have e19 : m19.toInt = (z3_19).toInt + (1) := by rw [em_101]; exact pm_addc _ _ (1) rfl (by omega) (by omega)
          refine pq_goto ?_
          exact hC.2 [false, false, false, false, true] _ _ _ _ _ _ (ih8 m19 v17 f12 hs17 (by omega) (by omega))
        · skip
          have dc18 := pm_neI c18
          refine pq_aload_n0 (qgc_5_1 hI.1 (pq_iconst (pq_icmp_eq ?_)))
          refine And.intro (fun c20 => ?_) (fun c20 => ?_)
          · skip
            have dc20 : ((v17 7)).toInt = ((-1 : Int32) : Int32).toInt := congrArg Int32.toInt c20
            refine hC.1 2 90 _ _ rfl _ _ _ _ _ ?_
            refine pq_aload_n0 (pq_iload4 ?_)
            refine quc_5_1 hI.1 (fun v21 ev21 => ?_)
            have hs21 : cw_S v21 f12 := by rw [ev21]; exact cw_S_v hs17 7 _ (by decide)
            have ev21_0 : (v21 0).toInt = (v17 0).toInt := by rw [ev21]; rfl
            refine pq_aload_n0 (pq_iload_n3 ?_)
            refine quc_5_2 hI.1 (fun v22 ev22 => ?_)
            have hs22 : cw_S v22 f12 := by rw [ev22]; exact cw_S_v hs21 8 _ (by decide)
            have ev22_0 : (v22 0).toInt = (v21 0).toInt := by rw [ev22]; rfl
            refine pq_nil ?_
            refine hC.1 3 101 _ _ rfl _ _ _ _ _ ?_
            refine pq_iinc (fun zm_9 => [some (.ref (q 5)), some (.ref (q o1)), some (.int x2), some (.int zm_9), some (.int y13)]) rfl (fun _ => rfl) ?_
            intro m23 em_101
            try have e23 : m23.toInt = (z3_19).toInt + (1) := by rw [em_101]; exact pm_addc _ _ (1) rfl (by omega) (by omega)
            refine pq_goto ?_
            exact hC.2 [false, false, false, false, true] _ _ _ _ _ _ (ih8 m23 v22 f12 hs22 (by omega) (by omega))
          · skip
            have dc20 := pm_neI c20
            refine pq_iload_n3 (pq_iload4 (pq_isub ?_))
            intro m24 em_77
            try have e24 : m24.toInt = (z3_19).toInt - (y13).toInt := by rw [em_77]; exact pm_sub _ _ (by omega) (by omega)
            refine pq_aload_n0 (qgc_5_2 hI.1 (pq_aload_n0 (qgc_5_1 hI.1 (pq_isub ?_))))
            intro m25 em_86
            try have e25 : m25.toInt = ((v17 8)).toInt - ((v17 7)).toInt := by rw [em_86]; exact pm_sub _ _ (by omega) (by omega)
            refine pq_icmp_ge ?_
            refine And.intro (fun c26 => ?_) (fun c26 => ?_)
            · skip
              refine hC.1 3 101 _ _ rfl _ _ _ _ _ ?_
              refine pq_iinc (fun zm_9 => [some (.ref (q 5)), some (.ref (q o1)), some (.int x2), some (.int zm_9), some (.int y13)]) rfl (fun _ => rfl) ?_
              intro m27 em_101
              try have e27 : m27.toInt = (z3_19).toInt + (1) := by rw [em_101]; exact pm_addc _ _ (1) rfl (by omega) (by omega)
              refine pq_goto ?_
              exact hC.2 [false, false, false, false, true] _ _ _ _ _ _ (ih8 m27 v17 f12 hs17 (by omega) (by omega))
            · skip
              refine pq_nil ?_
              refine hC.1 2 90 _ _ rfl _ _ _ _ _ ?_
              refine pq_aload_n0 (pq_iload4 ?_)
              refine quc_5_1 hI.1 (fun v28 ev28 => ?_)
              have hs28 : cw_S v28 f12 := by rw [ev28]; exact cw_S_v hs17 7 _ (by decide)
              have ev28_0 : (v28 0).toInt = (v17 0).toInt := by rw [ev28]; rfl
              refine pq_aload_n0 (pq_iload_n3 ?_)
              refine quc_5_2 hI.1 (fun v29 ev29 => ?_)
              have hs29 : cw_S v29 f12 := by rw [ev29]; exact cw_S_v hs28 8 _ (by decide)
              have ev29_0 : (v29 0).toInt = (v28 0).toInt := by rw [ev29]; rfl
              refine pq_nil ?_
              refine hC.1 3 101 _ _ rfl _ _ _ _ _ ?_
              refine pq_iinc (fun zm_9 => [some (.ref (q 5)), some (.ref (q o1)), some (.int x2), some (.int zm_9), some (.int y13)]) rfl (fun _ => rfl) ?_
              intro m30 em_101
              try have e30 : m30.toInt = (z3_19).toInt + (1) := by rw [em_101]; exact pm_addc _ _ (1) rfl (by omega) (by omega)
              refine pq_goto ?_
              exact hC.2 [false, false, false, false, true] _ _ _ _ _ _ (ih8 m30 v29 f12 hs29 (by omega) (by omega))
  exact lp7 (200 - (0 : Int32).toInt).toNat.succ (0 : Int32) v4 f5 hs5 (by omega) (by omega)

set_option maxRecDepth 100000 in
set_option maxHeartbeats 2000000 in
theorem c_X6_findLongestOf (hI : cw_I K nn dn q w e) (hs : cw_S v f) {o1 : Nat} (ho1 : cw_ro K o1) (x3 : Int32)  : pm_Mt l g 112 2 0 0 [.ref (q 5), .ref (q o1), .ref (q 2), .int x3] (cw A0 g K nn dn q w e v f) (cw_Qs A0 g K nn dn q w e (fun r v2 f2 => r = none ∧ (True))) := by
  refine mt_X6_findLongestOf rfl (fun J hC => ?_)
  have ro_nn : cw_ro K nn := hI.2.1.2.1
  have ro_dn : cw_ro K dn := hI.2.1.2.2.1
  have hu1 := hI.2.1
  unfold cw_W at hu1
  have rg_x3 := pm_rng x3
  have zz0 := cw_sz hI ho1
  show J 0 [some (.ref (q 5)), some (.ref (q o1)), some (.ref (q 2)), some (.int x3), none, none] [] (cw A0 g K nn dn q w e v f) 0 0
  refine hC.1 0 0 _ _ rfl _ _ _ _ _ ?_
  refine pq_aload_n0 (pq_iv0_6 ?_)
  refine And.intro (Exists.intro _ (cw_o5 hI.1)) (Exists.intro _ (Exists.intro _ (Exists.intro _ (Exists.intro _ (And.intro (c_X6_clearFound hI hs  ) (And.intro rfl (fun r9 A9 h9 => ?_)))))))
  rcases h9 with ⟨v3, f3, rfl, hs3, rfl, by2⟩
  refine pq_id0 (pq_aload_n2 (pq_iv0_2 ?_))
  refine And.intro (Exists.intro _ (cw_o2 hI.1)) (Exists.intro _ (Exists.intro _ (Exists.intro _ (Exists.intro _ (And.intro (c_X2_clear hI hs3  ) (And.intro rfl (fun r9 A9 h9 => ?_)))))))
  rcases h9 with ⟨v5, f5, rfl, hs5, rfl, by4⟩
  refine pq_id0 ?_
  have k0 : (0 : Int32).toInt = 0 := rfl
  refine pq_iconst (pq_istore [some (.ref (q 5)), some (.ref (q o1)), some (.ref (q 2)), some (.int x3), some (.int (0 : Int32)), none] rfl (pq_iconst (pq_istore [some (.ref (q 5)), some (.ref (q o1)), some (.ref (q 2)), some (.int x3), some (.int (0 : Int32)), some (.int (0 : Int32))] rfl (pq_nil ?_))))
  have lp7 : ∀ (n : Nat) (z4_14 : Int32) (z5_14 : Int32) (v6 : Nat → Int32) (f6 : Nat → Nat → Int32), cw_S v6 f6 → (0 ≤ z5_14.toInt ∧ z5_14.toInt ≤ 160) → (0 ≤ z4_14.toInt ∧ z4_14.toInt ≤ z5_14.toInt) → 200 - z5_14.toInt < (n : Int) → J 14 [some (.ref (q 5)), some (.ref (q o1)), some (.ref (q 2)), some (.int x3), some (.int z4_14), some (.int z5_14)] [] (cw A0 g K nn dn q w e v6 f6) 0 0 := by
    intro n
    induction n with
    | zero =>
      intro z4_14 z5_14 v6 f6 hs6 j0_14 j1_14 j2_14
      omega
    | succ n ih8 =>
      intro z4_14 z5_14 v6 f6 hs6 j0_14 j1_14 j2_14
      refine hC.1 1 14 _ _ rfl _ _ _ _ _ ?_
      refine pq_iload5 (pq_aload_n1 (qgr_3 hI.1 ho1 ?_))
      have z9 := cw_sz hI ho1
      refine pq_icmp_ge ?_
      refine And.intro (fun c10 => ?_) (fun c10 => ?_)
      · skip
        refine hC.1 4 80 _ _ rfl _ _ _ _ _ ?_
        refine pq_ret ?_
        exact ⟨rfl, rfl, v6, f6, rfl, hs6, rfl, by exact True.intro⟩
      · skip
        refine pq_aload_n2 (pq_aload_n1 (qgr_0 hI.1 ho1 (pq_iload5 (qlc_r1 hI.1 ho1 (by omega) ?_))))
        have w11 := cw_col hI ho1 (z5_14).toInt.toNat
        refine pq_iv1_2 ?_
        refine And.intro (Exists.intro _ (cw_o2 hI.1)) (Exists.intro _ (Exists.intro _ (Exists.intro _ (Exists.intro _ (And.intro (c_X2_take hI hs6 (e (o1 + 1) (z5_14).toInt.toNat) (by omega)) (And.intro rfl (fun r9 A9 h9 => ?_)))))))
        rcases h9 with ⟨v13, f13, rfl, hs13, rfl, by12⟩
        refine pq_id0 (pq_nil ?_)
        have lp15 : ∀ (n : Nat) (z4_34 : Int32) (v14 : Nat → Int32) (f14 : Nat → Nat → Int32), cw_S v14 f14 → (0 ≤ z4_34.toInt ∧ z4_34.toInt ≤ z5_14.toInt) → 200 - z4_34.toInt < (n : Int) → J 34 [some (.ref (q 5)), some (.ref (q o1)), some (.ref (q 2)), some (.int x3), some (.int z4_34), some (.int z5_14)] [] (cw A0 g K nn dn q w e v14 f14) 0 0 := by
          intro n
          induction n with
          | zero =>
            intro z4_34 v14 f14 hs14 j0_34 j1_34
            omega
          | succ n ih16 =>
            intro z4_34 v14 f14 hs14 j0_34 j1_34
            refine hC.1 2 34 _ _ rfl _ _ _ _ _ ?_
            refine pq_aload_n2 (qgc_2_3 hI.1 (pq_iload_n3 (pq_icmp_le ?_)))
            refine And.intro (fun c17 => ?_) (fun c17 => ?_)
            · skip
              refine hC.1 3 66 _ _ rfl _ _ _ _ _ ?_
              refine pq_aload_n0 (pq_iload4 (pq_iload5 (pq_iv2_6 ?_)))
              refine And.intro (Exists.intro _ (cw_o5 hI.1)) (Exists.intro _ (Exists.intro _ (Exists.intro _ (Exists.intro _ (And.intro (c_X6_offerLonger hI hs14 z4_34 z5_14 ) (And.intro rfl (fun r9 A9 h9 => ?_)))))))
              rcases h9 with ⟨v19, f19, rfl, hs19, rfl, by18⟩
              refine pq_id0 ?_
              have k1 : (1 : Int32).toInt = 1 := rfl
              refine pq_iinc (fun zm_9 => [some (.ref (q 5)), some (.ref (q o1)), some (.ref (q 2)), some (.int x3), some (.int z4_34), some (.int zm_9)]) rfl (fun _ => rfl) ?_
              intro m20 em_74
              try have e20 : m20.toInt = (z5_14).toInt + (1) := by rw [em_74]; exact pm_addc _ _ (1) rfl (by omega) (by omega)
              refine pq_goto ?_
              exact ih8 z4_34 m20 v19 f19 hs19 (by omega) (by omega) (by omega)
            · skip
              refine pq_iload4 (pq_iload5 (pq_icmp_ge ?_))
              refine And.intro (fun c21 => ?_) (fun c21 => ?_)
              · skip
                refine hC.1 3 66 _ _ rfl _ _ _ _ _ ?_
                refine pq_aload_n0 (pq_iload4 (pq_iload5 (pq_iv2_6 ?_)))
                refine And.intro (Exists.intro _ (cw_o5 hI.1)) (Exists.intro _ (Exists.intro _ (Exists.intro _ (Exists.intro _ (And.intro (c_X6_offerLonger hI hs14 z4_34 z5_14 ) (And.intro rfl (fun r9 A9 h9 => ?_)))))))
                rcases h9 with ⟨v23, f23, rfl, hs23, rfl, by22⟩
                refine pq_id0 ?_
                have k1 : (1 : Int32).toInt = 1 := rfl
                refine pq_iinc (fun zm_9 => [some (.ref (q 5)), some (.ref (q o1)), some (.ref (q 2)), some (.int x3), some (.int z4_34), some (.int zm_9)]) rfl (fun _ => rfl) ?_
                intro m24 em_74
                try have e24 : m24.toInt = (z5_14).toInt + (1) := by rw [em_74]; exact pm_addc _ _ (1) rfl (by omega) (by omega)
                refine pq_goto ?_
                exact ih8 z4_34 m24 v23 f23 hs23 (by omega) (by omega) (by omega)
              · skip
                refine pq_aload_n2 (pq_aload_n1 (qgr_0 hI.1 ho1 (pq_iload4 (qlc_r1 hI.1 ho1 (by omega) ?_))))
                have w25 := cw_col hI ho1 (z4_34).toInt.toNat
                refine pq_iv1_2 ?_
                refine And.intro (Exists.intro _ (cw_o2 hI.1)) (Exists.intro _ (Exists.intro _ (Exists.intro _ (Exists.intro _ (And.intro (c_X2_drop hI hs14 (e (o1 + 1) (z4_34).toInt.toNat) (by omega)) (And.intro rfl (fun r9 A9 h9 => ?_)))))))
                rcases h9 with ⟨v27, f27, rfl, hs27, rfl, by26⟩
                refine pq_id0 ?_
                have k1 : (1 : Int32).toInt = 1 := rfl
                refine pq_iinc (fun zm_9 => [some (.ref (q 5)), some (.ref (q o1)), some (.ref (q 2)), some (.int x3), some (.int zm_9), some (.int z5_14)]) rfl (fun _ => rfl) ?_
                intro m28 em_60
                try have e28 : m28.toInt = (z4_34).toInt + (1) := by rw [em_60]; exact pm_addc _ _ (1) rfl (by omega) (by omega)
                refine pq_goto ?_
                exact ih16 m28 v27 f27 hs27 (by omega) (by omega)
        exact lp15 (200 - z4_14.toInt).toNat.succ z4_14 v13 f13 hs13 (by omega) (by omega)
  exact lp7 (200 - (0 : Int32).toInt).toNat.succ (0 : Int32) (0 : Int32) v5 f5 hs5 (by omega) (by omega) (by omega)

set_option maxRecDepth 100000 in
set_option maxHeartbeats 2000000 in
theorem c_X6_findLongestUnlike (hI : cw_I K nn dn q w e) (hs : cw_S v f) {o1 : Nat} (ho1 : cw_ro K o1)  : pm_Mt l g 116 1 0 0 [.ref (q 5), .ref (q o1)] (cw A0 g K nn dn q w e v f) (cw_Qs A0 g K nn dn q w e (fun r v2 f2 => r = none ∧ (True))) := by
  refine mt_X6_findLongestUnlike rfl (fun J hC => ?_)
  have ro_nn : cw_ro K nn := hI.2.1.2.1
  have ro_dn : cw_ro K dn := hI.2.1.2.2.1
  have hu1 := hI.2.1
  unfold cw_W at hu1
  have zz0 := cw_sz hI ho1
  show J 0 [some (.ref (q 5)), some (.ref (q o1)), none, none] [] (cw A0 g K nn dn q w e v f) 0 0
  refine hC.1 0 0 _ _ rfl _ _ _ _ _ ?_
  refine pq_aload_n0 (pq_iv0_6 ?_)
  refine And.intro (Exists.intro _ (cw_o5 hI.1)) (Exists.intro _ (Exists.intro _ (Exists.intro _ (Exists.intro _ (And.intro (c_X6_clearFound hI hs  ) (And.intro rfl (fun r9 A9 h9 => ?_)))))))
  rcases h9 with ⟨v3, f3, rfl, hs3, rfl, by2⟩
  refine pq_id0 ?_
  have k0 : (0 : Int32).toInt = 0 := rfl
  refine pq_iconst (pq_istore_n [some (.ref (q 5)), some (.ref (q o1)), some (.int (0 : Int32)), none] rfl (pq_iconst (pq_istore_n [some (.ref (q 5)), some (.ref (q o1)), some (.int (0 : Int32)), some (.int (0 : Int32))] rfl (pq_nil ?_))))
  have lp5 : ∀ (n : Nat) (z2_8 : Int32) (z3_8 : Int32) (v4 : Nat → Int32) (f4 : Nat → Nat → Int32), cw_S v4 f4 → (0 ≤ z3_8.toInt ∧ z3_8.toInt ≤ 160) → 200 - z3_8.toInt < (n : Int) → J 8 [some (.ref (q 5)), some (.ref (q o1)), some (.int z2_8), some (.int z3_8)] [] (cw A0 g K nn dn q w e v4 f4) 0 0 := by
    intro n
    induction n with
    | zero =>
      intro z2_8 z3_8 v4 f4 hs4 j0_8 j1_8
      omega
    | succ n ih6 =>
      intro z2_8 z3_8 v4 f4 hs4 j0_8 j1_8
      refine hC.1 1 8 _ _ rfl _ _ _ _ _ ?_
      refine pq_iload_n3 (pq_aload_n1 (qgr_3 hI.1 ho1 ?_))
      have z7 := cw_sz hI ho1
      refine pq_icmp_ge ?_
      refine And.intro (fun c8 => ?_) (fun c8 => ?_)
      · skip
        refine hC.1 2 41 _ _ rfl _ _ _ _ _ ?_
        refine pq_ret ?_
        exact ⟨rfl, rfl, v4, f4, rfl, hs4, rfl, by exact True.intro⟩
      · skip
        refine pq_iload_n2 (pq_aload_n1 (qgr_2 hI.1 ho1 (pq_iload_n3 (qlc_r3 hI.1 ho1 (by omega) ?_))))
        have w9 := cw_ahd hI ho1 (z3_8).toInt.toNat
        have k1 : (1 : Int32).toInt = 1 := rfl
        refine pq_iconst (pq_iadd ?_)
        intro m10 em_24
        try have e10 : m10.toInt = ((e (o1 + 3) (z3_8).toInt.toNat)).toInt + (1) := by rw [em_24]; exact pm_addc _ _ (1) rfl (by omega) (by omega)
        refine pq_is2 ?_
        refine Exists.intro _ (Exists.intro _ (Exists.intro _ (Exists.intro _ (And.intro (c_J9_max_7cf53 (cw A0 g K nn dn q w e v4 f4) z2_8 m10 ) (And.intro rfl (fun r9 A9 h9 => ?_))))))
        obtain ⟨y11, rfl, rfl, by11⟩ := h9
        refine pq_id1 (pq_istore_n [some (.ref (q 5)), some (.ref (q o1)), some (.int y11), some (.int z3_8)] rfl (pq_aload_n0 (pq_iload_n2 (pq_iload_n3 (pq_iv2_6 ?_)))))
        refine And.intro (Exists.intro _ (cw_o5 hI.1)) (Exists.intro _ (Exists.intro _ (Exists.intro _ (Exists.intro _ (And.intro (c_X6_offerLonger hI hs4 y11 z3_8 ) (And.intro rfl (fun r9 A9 h9 => ?_)))))))
        rcases h9 with ⟨v14, f14, rfl, hs14, rfl, by13⟩
        refine pq_id0 (pq_iinc (fun zm_9 => [some (.ref (q 5)), some (.ref (q o1)), some (.int y11), some (.int zm_9)]) rfl (fun _ => rfl) ?_)
        intro m15 em_35
        try have e15 : m15.toInt = (z3_8).toInt + (1) := by rw [em_35]; exact pm_addc _ _ (1) rfl (by omega) (by omega)
        refine pq_goto ?_
        exact ih6 y11 m15 v14 f14 hs14 (by omega) (by omega)
  exact lp5 (200 - (0 : Int32).toInt).toNat.succ (0 : Int32) (0 : Int32) v3 f3 hs3 (by omega) (by omega)

set_option maxRecDepth 100000 in
set_option maxHeartbeats 2000000 in
theorem c_X6_findHeaviest (hI : cw_I K nn dn q w e) (hs : cw_S v f) {o1 : Nat} (ho1 : cw_ro K o1) (x3 : Int32) (p0 : 1 ≤ x3.toInt ∧ x3.toInt ≤ (w o1).toInt) : pm_Mt l g 118 3 0 0 [.ref (q 5), .ref (q o1), .ref (q 2), .int x3] (cw A0 g K nn dn q w e v f) (cw_Qs A0 g K nn dn q w e (fun r v2 f2 => r = none ∧ (True))) := by
  refine mt_X6_findHeaviest rfl (fun J hC => ?_)
  have ro_nn : cw_ro K nn := hI.2.1.2.1
  have ro_dn : cw_ro K dn := hI.2.1.2.2.1
  have hu1 := hI.2.1
  unfold cw_W at hu1
  have rg_x3 := pm_rng x3
  have zz0 := cw_sz hI ho1
  show J 0 [some (.ref (q 5)), some (.ref (q o1)), some (.ref (q 2)), some (.int x3), none] [] (cw A0 g K nn dn q w e v f) 0 0
  refine hC.1 0 0 _ _ rfl _ _ _ _ _ ?_
  refine pq_aload_n2 (pq_aload_n1 ?_)
  have k0 : (0 : Int32).toInt = 0 := rfl
  refine pq_iconst (pq_iload_n3 ?_)
  have k1 : (1 : Int32).toInt = 1 := rfl
  refine pq_iconst (pq_isub ?_)
  intro m2 em_5
  try have e2 : m2.toInt = (x3).toInt - (1) := by rw [em_5]; exact pm_subc _ _ (1) rfl (by omega) (by omega)
  refine pq_iv3_2 ?_
  refine And.intro (Exists.intro _ (cw_o2 hI.1)) (Exists.intro _ (Exists.intro _ (Exists.intro _ (Exists.intro _ (And.intro (c_X2_read hI hs ho1 (0 : Int32) m2 ) (And.intro rfl (fun r9 A9 h9 => ?_)))))))
  rcases h9 with ⟨v4, f4, rfl, hs4, rfl, by3⟩
  refine pq_id0 (pq_aload_n0 (pq_iconst ?_))
  refine quc_5_1 hI.1 (fun v5 ev5 => ?_)
  have hs5 : cw_S v5 f4 := by rw [ev5]; exact cw_S_v hs4 7 _ (by decide)
  have ev5_0 : (v5 0).toInt = (v4 0).toInt := by rw [ev5]; rfl
  refine pq_aload_n0 (pq_aload_n2 (qgc_2_5 hI.1 ?_))
  refine quc_5_3 hI.1 (fun v6 ev6 => ?_)
  have hs6 : cw_S v6 f4 := by rw [ev6]; exact cw_S_v hs5 9 _ (by decide)
  have ev6_0 : (v6 0).toInt = (v5 0).toInt := by rw [ev6]; rfl
  refine pq_iconst (pq_istore [some (.ref (q 5)), some (.ref (q o1)), some (.ref (q 2)), some (.int x3), some (.int (1 : Int32))] rfl (pq_nil ?_))
  have lp8 : ∀ (n : Nat) (z4_25 : Int32) (v7 : Nat → Int32) (f7 : Nat → Nat → Int32), cw_S v7 f7 → (1 ≤ z4_25.toInt ∧ z4_25.toInt ≤ 161) → 200 - z4_25.toInt < (n : Int) → J 25 [some (.ref (q 5)), some (.ref (q o1)), some (.ref (q 2)), some (.int x3), some (.int z4_25)] [] (cw A0 g K nn dn q w e v7 f7) 0 0 := by
    intro n
    induction n with
    | zero =>
      intro z4_25 v7 f7 hs7 j0_25 j1_25
      omega
    | succ n ih9 =>
      intro z4_25 v7 f7 hs7 j0_25 j1_25
      refine hC.1 1 25 _ _ rfl _ _ _ _ _ ?_
      refine pq_iload4 (pq_iload_n3 (pq_iadd ?_))
      intro m10 em_28
      try have e10 : m10.toInt = (z4_25).toInt + (x3).toInt := by rw [em_28]; exact pm_add _ _ (by omega) (by omega)
      refine pq_aload_n1 (qgr_3 hI.1 ho1 ?_)
      have z11 := cw_sz hI ho1
      refine pq_icmp_gt ?_
      refine And.intro (fun c12 => ?_) (fun c12 => ?_)
      · skip
        refine hC.1 3 95 _ _ rfl _ _ _ _ _ ?_
        refine pq_ret ?_
        exact ⟨rfl, rfl, v7, f7, rfl, hs7, rfl, by exact True.intro⟩
      · skip
        refine pq_aload_n2 (pq_aload_n1 (qgr_0 hI.1 ho1 (pq_iload4 (pq_iconst (pq_isub ?_)))))
        intro m13 em_44
        try have e13 : m13.toInt = (z4_25).toInt - (1) := by rw [em_44]; exact pm_subc _ _ (1) rfl (by omega) (by omega)
        refine qlc_r1 hI.1 ho1 (by omega) ?_
        have w14 := cw_col hI ho1 (m13).toInt.toNat
        refine pq_iv1_2 ?_
        refine And.intro (Exists.intro _ (cw_o2 hI.1)) (Exists.intro _ (Exists.intro _ (Exists.intro _ (Exists.intro _ (And.intro (c_X2_drop hI hs7 (e (o1 + 1) (m13).toInt.toNat) (by omega)) (And.intro rfl (fun r9 A9 h9 => ?_)))))))
        rcases h9 with ⟨v16, f16, rfl, hs16, rfl, by15⟩
        refine pq_id0 (pq_aload_n2 (pq_aload_n1 (qgr_0 hI.1 ho1 (pq_iload4 (pq_iload_n3 (pq_iadd ?_))))))
        intro m17 em_57
        try have e17 : m17.toInt = (z4_25).toInt + (x3).toInt := by rw [em_57]; exact pm_add _ _ (by omega) (by omega)
        refine pq_iconst (pq_isub ?_)
        intro m18 em_59
        try have e18 : m18.toInt = (m17).toInt - (1) := by rw [em_59]; exact pm_subc _ _ (1) rfl (by omega) (by omega)
        refine qlc_r1 hI.1 ho1 (by omega) ?_
        have w19 := cw_col hI ho1 (m18).toInt.toNat
        refine pq_iv1_2 ?_
        refine And.intro (Exists.intro _ (cw_o2 hI.1)) (Exists.intro _ (Exists.intro _ (Exists.intro _ (Exists.intro _ (And.intro (c_X2_take hI hs16 (e (o1 + 1) (m18).toInt.toNat) (by omega)) (And.intro rfl (fun r9 A9 h9 => ?_)))))))
        rcases h9 with ⟨v21, f21, rfl, hs21, rfl, by20⟩
        refine pq_id0 (pq_aload_n2 (qgc_2_5 hI.1 (pq_aload_n0 (qgc_5_3 hI.1 (pq_icmp_le ?_)))))
        refine And.intro (fun c22 => ?_) (fun c22 => ?_)
        · skip
          refine hC.1 2 89 _ _ rfl _ _ _ _ _ ?_
          refine pq_iinc (fun zm_9 => [some (.ref (q 5)), some (.ref (q o1)), some (.ref (q 2)), some (.int x3), some (.int zm_9)]) rfl (fun _ => rfl) ?_
          intro m23 em_89
          try have e23 : m23.toInt = (z4_25).toInt + (1) := by rw [em_89]; exact pm_addc _ _ (1) rfl (by omega) (by omega)
          refine pq_goto ?_
          exact ih9 m23 v21 f21 hs21 (by omega) (by omega)
        · skip
          refine pq_aload_n0 (pq_iload4 ?_)
          refine quc_5_1 hI.1 (fun v24 ev24 => ?_)
          have hs24 : cw_S v24 f21 := by rw [ev24]; exact cw_S_v hs21 7 _ (by decide)
          have ev24_0 : (v24 0).toInt = (v21 0).toInt := by rw [ev24]; rfl
          refine pq_aload_n0 (pq_aload_n2 (qgc_2_5 hI.1 ?_))
          refine quc_5_3 hI.1 (fun v25 ev25 => ?_)
          have hs25 : cw_S v25 f21 := by rw [ev25]; exact cw_S_v hs24 9 _ (by decide)
          have ev25_0 : (v25 0).toInt = (v24 0).toInt := by rw [ev25]; rfl
          refine pq_nil ?_
          refine hC.1 2 89 _ _ rfl _ _ _ _ _ ?_
          refine pq_iinc (fun zm_9 => [some (.ref (q 5)), some (.ref (q o1)), some (.ref (q 2)), some (.int x3), some (.int zm_9)]) rfl (fun _ => rfl) ?_
          intro m26 em_89
          try have e26 : m26.toInt = (z4_25).toInt + (1) := by rw [em_89]; exact pm_addc _ _ (1) rfl (by omega) (by omega)
          refine pq_goto ?_
          exact ih9 m26 v25 f21 hs25 (by omega) (by omega)
  exact lp8 (200 - (1 : Int32).toInt).toNat.succ (1 : Int32) v6 f4 hs6 (by omega) (by omega)

set_option maxRecDepth 100000 in
set_option maxHeartbeats 2000000 in
theorem c_X8_findNextAlike (hI : cw_I K nn dn q w e) (hs : cw_S v f) {o1 : Nat} (ho1 : cw_ro K o1)  : pm_Mt l g 123 1 0 0 [.ref (q 6), .ref (q o1)] (cw A0 g K nn dn q w e v f) (cw_Qs A0 g K nn dn q w e (fun r v2 f2 => r = none ∧ (True))) := by
  refine mt_X8_findNextAlike rfl (fun J hC => ?_)
  have ro_nn : cw_ro K nn := hI.2.1.2.1
  have ro_dn : cw_ro K dn := hI.2.1.2.2.1
  have hu1 := hI.2.1
  unfold cw_W at hu1
  have zz0 := cw_sz hI ho1
  show J 0 [some (.ref (q 6)), some (.ref (q o1)), none] [] (cw A0 g K nn dn q w e v f) 0 0
  refine hC.1 0 0 _ _ rfl _ _ _ _ _ ?_
  refine pq_aload_n0 (qgc_6_0 hI.1 ?_)
  have k160 : (160 : Int32).toInt = 160 := rfl
  refine pq_sipush (pq_is2 ?_)
  refine Exists.intro _ (Exists.intro _ (Exists.intro _ (Exists.intro _ (And.intro (c_fill (cw_a22 hI.1) (by decide) (160 : Int32)) (And.intro rfl (fun r9 A9 h9 => ?_))))))
  obtain ⟨rfl, rfl⟩ := h9
  rw [cw_s22 hI.1]
  obtain ⟨f2, ef2⟩ : ∃ z9, z9 = va_up f 22 (fun j => if j < 160 then (160 : Int32) else f 22 j) := ⟨_, rfl⟩
  rw [← ef2]
  have hs2 : cw_S v f2 := by rw [ef2]; exact cw_S_fr hs _ _ (by decide) (by decide)
  refine pq_id0 ?_
  have k0 : (0 : Int32).toInt = 0 := rfl
  refine pq_iconst (pq_istore_n [some (.ref (q 6)), some (.ref (q o1)), some (.int (0 : Int32))] rfl (pq_nil ?_))
  have lp4 : ∀ (n : Nat) (z2_12 : Int32) (v3 : Nat → Int32) (f3 : Nat → Nat → Int32), cw_S v3 f3 → (0 ≤ z2_12.toInt ∧ z2_12.toInt ≤ 160) → 200 - z2_12.toInt < (n : Int) → J 12 [some (.ref (q 6)), some (.ref (q o1)), some (.int z2_12)] [] (cw A0 g K nn dn q w e v3 f3) 0 0 := by
    intro n
    induction n with
    | zero =>
      intro z2_12 v3 f3 hs3 j0_12 j1_12
      omega
    | succ n ih5 =>
      intro z2_12 v3 f3 hs3 j0_12 j1_12
      refine hC.1 1 12 _ _ rfl _ _ _ _ _ ?_
      refine pq_iload_n2 (pq_aload_n1 (qgr_3 hI.1 ho1 ?_))
      have z6 := cw_sz hI ho1
      refine pq_icmp_ge ?_
      refine And.intro (fun c7 => ?_) (fun c7 => ?_)
      · skip
        refine hC.1 3 48 _ _ rfl _ _ _ _ _ ?_
        refine pq_ret ?_
        exact ⟨rfl, rfl, v3, f3, rfl, hs3, rfl, by exact True.intro⟩
      · skip
        refine pq_aload_n1 (qgr_2 hI.1 ho1 (pq_iload_n2 (qlc_r3 hI.1 ho1 (by omega) ?_)))
        have w8 := cw_ahd hI ho1 (z2_12).toInt.toNat
        have km1 : (-1 : Int32).toInt = -1 := rfl
        refine pq_iconst (pq_icmp_eq ?_)
        refine And.intro (fun c9 => ?_) (fun c9 => ?_)
        · skip
          have dc9 : ((e (o1 + 3) (z2_12).toInt.toNat)).toInt = ((-1 : Int32) : Int32).toInt := congrArg Int32.toInt c9
          refine hC.1 2 42 _ _ rfl _ _ _ _ _ ?_
          have k1 : (1 : Int32).toInt = 1 := rfl
          refine pq_iinc (fun zm_9 => [some (.ref (q 6)), some (.ref (q o1)), some (.int zm_9)]) rfl (fun _ => rfl) ?_
          intro m10 em_42
          try have e10 : m10.toInt = (z2_12).toInt + (1) := by rw [em_42]; exact pm_addc _ _ (1) rfl (by omega) (by omega)
          refine pq_goto ?_
          exact ih5 m10 v3 f3 hs3 (by omega) (by omega)
        · skip
          have dc9 := pm_neI c9
          refine pq_aload_n0 (qgc_6_0 hI.1 (pq_aload_n1 (qgr_2 hI.1 ho1 (pq_iload_n2 (qlc_r3 hI.1 ho1 (by omega) ?_)))))
          have w11 := cw_ahd hI ho1 (z2_12).toInt.toNat
          refine pq_iload_n2 ?_
          refine qsc_22 hI.1 (by omega) (fun f12 ef12 => ?_)
          have hs12 : cw_S v3 f12 := by rw [ef12]; exact cw_S_fr hs3 _ _ (by decide) (by decide)
          refine pq_nil ?_
          refine hC.1 2 42 _ _ rfl _ _ _ _ _ ?_
          have k1 : (1 : Int32).toInt = 1 := rfl
          refine pq_iinc (fun zm_9 => [some (.ref (q 6)), some (.ref (q o1)), some (.int zm_9)]) rfl (fun _ => rfl) ?_
          intro m13 em_42
          try have e13 : m13.toInt = (z2_12).toInt + (1) := by rw [em_42]; exact pm_addc _ _ (1) rfl (by omega) (by omega)
          refine pq_goto ?_
          exact ih5 m13 v3 f12 hs12 (by omega) (by omega)
  exact lp4 (200 - (0 : Int32).toInt).toNat.succ (0 : Int32) v f2 hs2 (by omega) (by omega)

end
end
section
section
variable {l : Launch} {g : pm_G} {A0 : pm_H} {K nn dn : Nat} {q : Nat → Nat} {w : Nat → Int32} {e : Nat → Nat → Int32} {v : Nat → Int32} {f : Nat → Nat → Int32}
set_option maxRecDepth 100000 in
set_option maxHeartbeats 2000000 in
theorem c_X8_goesRather (hI : cw_I K nn dn q w e) (hs : cw_S v f) (x1 : Int32) (x2 : Int32) (x3 : Int32) (p0 : 0 ≤ x1.toInt ∧ x1.toInt ≤ 23) (p1 : 0 ≤ x2.toInt ∧ x2.toInt ≤ 23) : pm_Mt l g 125 0 0 0 [.ref (q 6), .int x1, .int x2, .int x3] (cw A0 g K nn dn q w e v f) (md_Qp (cw A0 g K nn dn q w e v f) (fun r => (r = 1 ∧ (True)) ∨ (r = 0 ∧ (True)))) := by
  refine mt_X8_goesRather rfl (fun J hC => ?_)
  have ro_nn : cw_ro K nn := hI.2.1.2.1
  have ro_dn : cw_ro K dn := hI.2.1.2.2.1
  have hu1 := hI.2.1
  unfold cw_W at hu1
  have rg_x1 := pm_rng x1
  have rg_x2 := pm_rng x2
  have rg_x3 := pm_rng x3
  show J 0 [some (.ref (q 6)), some (.int x1), some (.int x2), some (.int x3)] [] (cw A0 g K nn dn q w e v f) 0 0
  refine hC.1 0 0 _ _ rfl _ _ _ _ _ ?_
  refine pq_iload_n3 (pq_icond_ne ?_)
  refine And.intro (fun c2 => ?_) (fun c2 => ?_)
  · skip
    have dc2 := pm_neI c2
    have k0 : (0 : Int32).toInt = 0 := rfl
    refine hC.1 3 25 _ _ rfl _ _ _ _ _ ?_
    refine pq_aload_n0 (qgc_6_2 hI.1 (pq_iload_n1 (qlc_24 hI.1 (by omega) (pq_aload_n0 (qgc_6_2 hI.1 (pq_iload_n2 (qlc_24 hI.1 (by omega) (pq_icmp_le ?_))))))))
    refine And.intro (fun c3 => ?_) (fun c3 => ?_)
    · skip
      refine hC.1 4 44 _ _ rfl _ _ _ _ _ ?_
      refine pq_iconst (pq_nil ?_)
      refine hC.1 5 45 _ _ rfl _ _ _ _ _ ?_
      refine pq_iret ?_
      exact ⟨rfl, fun _ => (by decide), rfl, (0 : Int32), rfl, rfl, Or.inr ⟨rfl, by first | omega | (dsimp only; omega) | trivial⟩⟩
    · skip
      have k1 : (1 : Int32).toInt = 1 := rfl
      refine pq_iconst (pq_goto ?_)
      refine hC.1 5 45 _ _ rfl _ _ _ _ _ ?_
      refine pq_iret ?_
      exact ⟨rfl, fun _ => (by decide), rfl, (1 : Int32), rfl, rfl, Or.inl ⟨rfl, by first | omega | (dsimp only; omega) | trivial⟩⟩
  · skip
    have dc2 : (x3).toInt = (0 : Int32).toInt := congrArg Int32.toInt c2
    have k0 : (0 : Int32).toInt = 0 := rfl
    refine pq_aload_n0 (qgc_6_1 hI.1 (pq_iload_n1 (qlc_23 hI.1 (by omega) (pq_aload_n0 (qgc_6_1 hI.1 (pq_iload_n2 (qlc_23 hI.1 (by omega) (pq_icmp_ge ?_))))))))
    refine And.intro (fun c4 => ?_) (fun c4 => ?_)
    · skip
      refine hC.1 1 23 _ _ rfl _ _ _ _ _ ?_
      refine pq_iconst (pq_nil ?_)
      refine hC.1 2 24 _ _ rfl _ _ _ _ _ ?_
      refine pq_iret ?_
      exact ⟨rfl, fun _ => (by decide), rfl, (0 : Int32), rfl, rfl, Or.inr ⟨rfl, by first | omega | (dsimp only; omega) | trivial⟩⟩
    · skip
      have k1 : (1 : Int32).toInt = 1 := rfl
      refine pq_iconst (pq_goto ?_)
      refine hC.1 2 24 _ _ rfl _ _ _ _ _ ?_
      refine pq_iret ?_
      exact ⟨rfl, fun _ => (by decide), rfl, (1 : Int32), rfl, rfl, Or.inl ⟨rfl, by first | omega | (dsimp only; omega) | trivial⟩⟩

set_option maxRecDepth 100000 in
set_option maxHeartbeats 2000000 in
theorem c_X8_oneToGo (hI : cw_I K nn dn q w e) (hs : cw_S v f) (x1 : Int32)  : pm_Mt l g 124 1 0 0 [.ref (q 6), .int x1] (cw A0 g K nn dn q w e v f) (md_Qp (cw A0 g K nn dn q w e v f) (fun r => 0 ≤ r.toInt ∧ r.toInt ≤ 23)) := by
  refine mt_X8_oneToGo rfl (fun J hC => ?_)
  have ro_nn : cw_ro K nn := hI.2.1.2.1
  have ro_dn : cw_ro K dn := hI.2.1.2.2.1
  have hu1 := hI.2.1
  unfold cw_W at hu1
  have rg_x1 := pm_rng x1
  show J 0 [some (.ref (q 6)), some (.int x1), none, none] [] (cw A0 g K nn dn q w e v f) 0 0
  refine hC.1 0 0 _ _ rfl _ _ _ _ _ ?_
  have km1 : (-1 : Int32).toInt = -1 := rfl
  refine pq_iconst (pq_istore_n [some (.ref (q 6)), some (.int x1), some (.int (-1 : Int32)), none] rfl ?_)
  have k0 : (0 : Int32).toInt = 0 := rfl
  refine pq_iconst (pq_istore_n [some (.ref (q 6)), some (.int x1), some (.int (-1 : Int32)), some (.int (0 : Int32))] rfl (pq_nil ?_))
  have lp3 : ∀ (n : Nat) (z2_4 : Int32) (z3_4 : Int32), (0 ≤ z3_4.toInt ∧ z3_4.toInt ≤ 24) → (-1 ≤ z2_4.toInt ∧ z2_4.toInt ≤ 23) → 200 - z3_4.toInt < (n : Int) → J 4 [some (.ref (q 6)), some (.int x1), some (.int z2_4), some (.int z3_4)] [] (cw A0 g K nn dn q w e v f) 0 0 := by
    intro n
    induction n with
    | zero =>
      intro z2_4 z3_4 j0_4 j1_4 j2_4
      omega
    | succ n ih4 =>
      intro z2_4 z3_4 j0_4 j1_4 j2_4
      refine hC.1 1 4 _ _ rfl _ _ _ _ _ ?_
      refine pq_iload_n3 ?_
      have k24 : (24 : Int32).toInt = 24 := rfl
      refine pq_bipush (pq_icmp_ge ?_)
      refine And.intro (fun c5 => ?_) (fun c5 => ?_)
      · skip
        refine hC.1 4 44 _ _ rfl _ _ _ _ _ ?_
        refine pq_iload_n2 (pq_iconst (pq_is2 ?_))
        refine Exists.intro _ (Exists.intro _ (Exists.intro _ (Exists.intro _ (And.intro (c_J9_max_7cf53 (cw A0 g K nn dn q w e v f) z2_4 (0 : Int32) ) (And.intro rfl (fun r9 A9 h9 => ?_))))))
        obtain ⟨y6, rfl, rfl, by6⟩ := h9
        refine pq_id1 (pq_iret ?_)
        exact ⟨rfl, fun e9 => absurd e9 (by decide), rfl, y6, rfl, rfl, by first | omega | (dsimp only; omega) | trivial⟩
      · skip
        refine pq_aload_n0 (qgc_6_4 hI.1 ?_)
        have k1 : (1 : Int32).toInt = 1 := rfl
        refine pq_iconst (pq_iload_n3 (pq_ishl (pq_iand (pq_icond_eq ?_))))
        refine And.intro (fun c8 => ?_) (fun c8 => ?_)
        · skip
          have dc8 : (((v 12) &&& ((1 : Int32) <<< (z3_4 &&& 31)))).toInt = (0 : Int32).toInt := congrArg Int32.toInt c8
          refine hC.1 3 38 _ _ rfl _ _ _ _ _ ?_
          refine pq_iinc (fun zm_9 => [some (.ref (q 6)), some (.int x1), some (.int z2_4), some (.int zm_9)]) rfl (fun _ => rfl) ?_
          intro m9 em_38
          try have e9 : m9.toInt = (z3_4).toInt + (1) := by rw [em_38]; exact pm_addc _ _ (1) rfl (by omega) (by omega)
          refine pq_goto ?_
          exact ih4 z2_4 m9 (by omega) (by omega) (by omega)
        · skip
          have dc8 := pm_neI c8
          refine pq_iload_n2 (pq_iconst (pq_icmp_eq ?_))
          refine And.intro (fun c10 => ?_) (fun c10 => ?_)
          · skip
            have dc10 : (z2_4).toInt = ((-1 : Int32) : Int32).toInt := congrArg Int32.toInt c10
            refine hC.1 2 36 _ _ rfl _ _ _ _ _ ?_
            refine pq_iload_n3 (pq_istore_n [some (.ref (q 6)), some (.int x1), some (.int z3_4), some (.int z3_4)] rfl (pq_nil ?_))
            refine hC.1 3 38 _ _ rfl _ _ _ _ _ ?_
            refine pq_iinc (fun zm_9 => [some (.ref (q 6)), some (.int x1), some (.int z3_4), some (.int zm_9)]) rfl (fun _ => rfl) ?_
            intro m11 em_38
            try have e11 : m11.toInt = (z3_4).toInt + (1) := by rw [em_38]; exact pm_addc _ _ (1) rfl (by omega) (by omega)
            refine pq_goto ?_
            exact ih4 z3_4 m11 (by omega) (by omega) (by omega)
          · skip
            have dc10 := pm_neI c10
            refine pq_aload_n0 (pq_iload_n3 (pq_iload_n2 (pq_iload_n1 (pq_iv3_8 ?_))))
            refine And.intro (Exists.intro _ (cw_o6 hI.1)) (Exists.intro _ (Exists.intro _ (Exists.intro _ (Exists.intro _ (And.intro (c_X8_goesRather hI hs z3_4 z2_4 x1 (by omega) (by omega)) (And.intro rfl (fun r9 A9 h9 => ?_)))))))
            rcases h9 with ⟨y12, rfl, rfl, ⟨rfl, by12⟩ | ⟨rfl, by12⟩⟩
            · skip
              refine pq_id1 (pq_icond_eq ?_)
              refine And.intro (fun c9 => absurd c9 (by decide)) (fun _ => ?_)
              refine pq_nil ?_
              refine hC.1 2 36 _ _ rfl _ _ _ _ _ ?_
              refine pq_iload_n3 (pq_istore_n [some (.ref (q 6)), some (.int x1), some (.int z3_4), some (.int z3_4)] rfl (pq_nil ?_))
              refine hC.1 3 38 _ _ rfl _ _ _ _ _ ?_
              refine pq_iinc (fun zm_9 => [some (.ref (q 6)), some (.int x1), some (.int z3_4), some (.int zm_9)]) rfl (fun _ => rfl) ?_
              intro m14 em_38
              try have e14 : m14.toInt = (z3_4).toInt + (1) := by rw [em_38]; exact pm_addc _ _ (1) rfl (by omega) (by omega)
              refine pq_goto ?_
              exact ih4 z3_4 m14 (by omega) (by omega) (by omega)
            · skip
              refine pq_id1 (pq_icond_eq ?_)
              refine And.intro (fun _ => ?_) (fun c9 => absurd c9 (by decide))
              refine hC.1 3 38 _ _ rfl _ _ _ _ _ ?_
              refine pq_iinc (fun zm_9 => [some (.ref (q 6)), some (.int x1), some (.int z2_4), some (.int zm_9)]) rfl (fun _ => rfl) ?_
              intro m15 em_38
              try have e15 : m15.toInt = (z3_4).toInt + (1) := by rw [em_38]; exact pm_addc _ _ (1) rfl (by omega) (by omega)
              refine pq_goto ?_
              exact ih4 z2_4 m15 (by omega) (by omega) (by omega)
  exact lp3 (200 - (0 : Int32).toInt).toNat.succ (-1 : Int32) (0 : Int32) (by omega) (by omega) (by omega)

set_option maxRecDepth 100000 in
set_option maxHeartbeats 2000000 in
theorem c_X8_goThrough (hI : cw_I K nn dn q w e) (hs : cw_S v f) {o1 : Nat} (ho1 : cw_ro K o1) (x2 : Int32) (x3 : Int32) (x4 : Int32)  : pm_Mt l g 122 2 0 0 [.ref (q 6), .ref (q o1), .int x2, .int x3, .int x4] (cw A0 g K nn dn q w e v f) (cw_Qs A0 g K nn dn q w e (fun r v2 f2 => r = none ∧ (True))) := by
  refine mt_X8_goThrough rfl (fun J hC => ?_)
  have ro_nn : cw_ro K nn := hI.2.1.2.1
  have ro_dn : cw_ro K dn := hI.2.1.2.2.1
  have hu1 := hI.2.1
  unfold cw_W at hu1
  have rg_x2 := pm_rng x2
  have rg_x3 := pm_rng x3
  have rg_x4 := pm_rng x4
  have zz0 := cw_sz hI ho1
  show J 0 [some (.ref (q 6)), some (.ref (q o1)), some (.int x2), some (.int x3), some (.int x4), none, none] [] (cw A0 g K nn dn q w e v f) 0 0
  refine hC.1 0 0 _ _ rfl _ _ _ _ _ ?_
  refine pq_aload_n0 (pq_aload_n1 (pq_iv1_8 ?_))
  refine And.intro (Exists.intro _ (cw_o6 hI.1)) (Exists.intro _ (Exists.intro _ (Exists.intro _ (Exists.intro _ (And.intro (c_X8_findNextAlike hI hs ho1 ) (And.intro rfl (fun r9 A9 h9 => ?_)))))))
  rcases h9 with ⟨v3, f3, rfl, hs3, rfl, by2⟩
  refine pq_id0 (pq_aload_n0 ?_)
  have k0 : (0 : Int32).toInt = 0 := rfl
  refine pq_iconst ?_
  refine quc_6_3 hI.1 (fun v4 ev4 => ?_)
  have hs4 : cw_S v4 f3 := by rw [ev4]; exact cw_S_v hs3 11 _ (by decide)
  have ev4_0 : (v4 0).toInt = (v3 0).toInt := by rw [ev4]; rfl
  refine pq_aload_n0 (pq_iconst ?_)
  refine quc_6_4 hI.1 (fun v5 ev5 => ?_)
  have hs5 : cw_S v5 f3 := by rw [ev5]; exact cw_S_v hs4 12 _ (by decide)
  have ev5_0 : (v5 0).toInt = (v4 0).toInt := by rw [ev5]; rfl
  refine pq_iconst (pq_istore [some (.ref (q 6)), some (.ref (q o1)), some (.int x2), some (.int x3), some (.int x4), some (.int (0 : Int32)), none] rfl (pq_nil ?_))
  have lp7 : ∀ (n : Nat) (z5_18 : Int32) (v6 : Nat → Int32) (f6 : Nat → Nat → Int32), cw_S v6 f6 → (0 ≤ z5_18.toInt ∧ z5_18.toInt ≤ 160) → 200 - z5_18.toInt < (n : Int) → J 18 [some (.ref (q 6)), some (.ref (q o1)), some (.int x2), some (.int x3), some (.int x4), some (.int z5_18), none] [] (cw A0 g K nn dn q w e v6 f6) 0 0 := by
    intro n
    induction n with
    | zero =>
      intro z5_18 v6 f6 hs6 j0_18 j1_18
      omega
    | succ n ih8 =>
      intro z5_18 v6 f6 hs6 j0_18 j1_18
      refine hC.1 1 18 _ _ rfl _ _ _ _ _ ?_
      refine pq_iload5 (pq_iload_n2 (pq_icmp_gt ?_))
      refine And.intro (fun c9 => ?_) (fun c9 => ?_)
      · skip
        refine hC.1 4 136 _ _ rfl _ _ _ _ _ ?_
        refine pq_ret ?_
        exact ⟨rfl, rfl, v6, f6, rfl, hs6, rfl, by exact True.intro⟩
      · skip
        refine pq_aload_n1 (pq_iload5 (pq_iv1_7 ?_))
        refine And.intro (Exists.intro _ (cw_ro_o hI.1 ho1)) (Exists.intro _ (Exists.intro _ (Exists.intro _ (Exists.intro _ (And.intro (c_X7_has hI hs6 ho1 z5_18 ) (And.intro rfl (fun r9 A9 h9 => ?_)))))))
        rcases h9 with ⟨y10, rfl, rfl, ⟨rfl, by10⟩ | ⟨rfl, by10⟩⟩
        · skip
          have k1 : (1 : Int32).toInt = 1 := rfl
          refine pq_id1 (pq_icond_eq ?_)
          refine And.intro (fun c9 => absurd c9 (by decide)) (fun _ => ?_)
          refine pq_aload_n1 (qgr_0 hI.1 ho1 (pq_iload5 (qlc_r1 hI.1 ho1 (by omega) ?_)))
          have w12 := cw_col hI ho1 (z5_18).toInt.toNat
          refine pq_istore [some (.ref (q 6)), some (.ref (q o1)), some (.int x2), some (.int x3), some (.int x4), some (.int z5_18), some (.int (e (o1 + 1) (z5_18).toInt.toNat))] rfl (pq_aload_n0 (qgc_6_4 hI.1 (pq_iconst (pq_iload6 (pq_ishl (pq_iand (pq_icond_ne ?_)))))))
          refine And.intro (fun c13 => ?_) (fun c13 => ?_)
          · skip
            have dc13 := pm_neI c13
            refine hC.1 3 107 _ _ rfl _ _ _ _ _ ?_
            refine pq_aload_n0 (qgc_6_1 hI.1 (pq_iload6 (pq_iload5 ?_)))
            refine qsc_23 hI.1 (by omega) (fun f14 ef14 => ?_)
            have hs14 : cw_S v6 f14 := by rw [ef14]; exact cw_S_fr hs6 _ _ (by decide) (by decide)
            refine pq_aload_n0 (qgc_6_2 hI.1 (pq_iload6 (pq_aload_n0 (qgc_6_0 hI.1 (pq_iload5 (qlc_22 hI.1 (by omega) ?_))))))
            refine qsc_24 hI.1 (by omega) (fun f15 ef15 => ?_)
            have hs15 : cw_S v6 f15 := by rw [ef15]; exact cw_S_fr hs14 _ _ (by decide) (by decide)
            refine pq_iinc (fun zm_9 => [some (.ref (q 6)), some (.ref (q o1)), some (.int x2), some (.int x3), some (.int x4), some (.int zm_9), some (.int (e (o1 + 1) (z5_18).toInt.toNat))]) rfl (fun _ => rfl) ?_
            intro m16 em_130
            try have e16 : m16.toInt = (z5_18).toInt + (1) := by rw [em_130]; exact pm_addc _ _ (1) rfl (by omega) (by omega)
            refine pq_goto ?_
            exact hC.2 [false, false, false, false, false, false, true] _ _ _ _ _ _ (ih8 m16 v6 f15 hs15 (by omega) (by omega))
          · skip
            have dc13 : (((v6 12) &&& ((1 : Int32) <<< ((e (o1 + 1) (z5_18).toInt.toNat) &&& 31)))).toInt = (0 : Int32).toInt := congrArg Int32.toInt c13
            refine pq_aload_n0 (pq_dupr (qgc_6_3 hI.1 (pq_iconst (pq_iadd ?_))))
            intro m17 em_60
            try have e17 : m17.toInt = ((v6 11)).toInt + (1) := by rw [em_60]; exact pm_addc _ _ (1) rfl (by omega) (by omega)
            refine quc_6_3 hI.1 (fun v18 ev18 => ?_)
            have hs18 : cw_S v18 f6 := by rw [ev18]; exact cw_S_v hs6 11 _ (by decide)
            have ev18_0 : (v18 0).toInt = (v6 0).toInt := by rw [ev18]; rfl
            refine pq_aload_n0 (qgc_6_4 hI.1 (pq_is1 ?_))
            refine Exists.intro _ (Exists.intro _ (Exists.intro _ (Exists.intro _ (And.intro (c_J6_bitCount_0f7a4 (cw A0 g K nn dn q w e v18 f6) (v18 12) ) (And.intro rfl (fun r9 A9 h9 => ?_))))))
            obtain ⟨y19, rfl, rfl, by19⟩ := h9
            refine pq_id1 (pq_iload_n3 (pq_icmp_lt ?_))
            refine And.intro (fun c21 => ?_) (fun c21 => ?_)
            · skip
              refine hC.1 2 94 _ _ rfl _ _ _ _ _ ?_
              refine pq_aload_n0 (pq_dupr (qgc_6_4 hI.1 (pq_iconst (pq_iload6 (pq_ishl (pq_ior ?_))))))
              refine quc_6_4 hI.1 (fun v22 ev22 => ?_)
              have hs22 : cw_S v22 f6 := by rw [ev22]; exact cw_S_v hs18 12 _ (by decide)
              have ev22_0 : (v22 0).toInt = (v18 0).toInt := by rw [ev22]; rfl
              refine pq_nil ?_
              refine hC.1 3 107 _ _ rfl _ _ _ _ _ ?_
              refine pq_aload_n0 (qgc_6_1 hI.1 (pq_iload6 (pq_iload5 ?_)))
              refine qsc_23 hI.1 (by omega) (fun f23 ef23 => ?_)
              have hs23 : cw_S v22 f23 := by rw [ef23]; exact cw_S_fr hs22 _ _ (by decide) (by decide)
              refine pq_aload_n0 (qgc_6_2 hI.1 (pq_iload6 (pq_aload_n0 (qgc_6_0 hI.1 (pq_iload5 (qlc_22 hI.1 (by omega) ?_))))))
              refine qsc_24 hI.1 (by omega) (fun f24 ef24 => ?_)
              have hs24 : cw_S v22 f24 := by rw [ef24]; exact cw_S_fr hs23 _ _ (by decide) (by decide)
              refine pq_iinc (fun zm_9 => [some (.ref (q 6)), some (.ref (q o1)), some (.int x2), some (.int x3), some (.int x4), some (.int zm_9), some (.int (e (o1 + 1) (z5_18).toInt.toNat))]) rfl (fun _ => rfl) ?_
              intro m25 em_130
              try have e25 : m25.toInt = (z5_18).toInt + (1) := by rw [em_130]; exact pm_addc _ _ (1) rfl (by omega) (by omega)
              refine pq_goto ?_
              exact hC.2 [false, false, false, false, false, false, true] _ _ _ _ _ _ (ih8 m25 v22 f24 hs24 (by omega) (by omega))
            · skip
              refine pq_aload_n0 (pq_dupr (qgc_6_4 hI.1 (pq_iconst (pq_aload_n0 (pq_iload4 (pq_iv1_8 ?_))))))
              refine And.intro (Exists.intro _ (cw_o6 hI.1)) (Exists.intro _ (Exists.intro _ (Exists.intro _ (Exists.intro _ (And.intro (c_X8_oneToGo hI hs18 x4 ) (And.intro rfl (fun r9 A9 h9 => ?_)))))))
              obtain ⟨y26, rfl, rfl, by26⟩ := h9
              refine pq_id1 (pq_ishl ?_)
              have km1 : (-1 : Int32).toInt = -1 := rfl
              refine pq_iconst (pq_ixor (pq_iand ?_))
              refine quc_6_4 hI.1 (fun v28 ev28 => ?_)
              have hs28 : cw_S v28 f6 := by rw [ev28]; exact cw_S_v hs18 12 _ (by decide)
              have ev28_0 : (v28 0).toInt = (v18 0).toInt := by rw [ev28]; rfl
              refine pq_nil ?_
              refine hC.1 2 94 _ _ rfl _ _ _ _ _ ?_
              refine pq_aload_n0 (pq_dupr (qgc_6_4 hI.1 (pq_iconst (pq_iload6 (pq_ishl (pq_ior ?_))))))
              refine quc_6_4 hI.1 (fun v29 ev29 => ?_)
              have hs29 : cw_S v29 f6 := by rw [ev29]; exact cw_S_v hs28 12 _ (by decide)
              have ev29_0 : (v29 0).toInt = (v28 0).toInt := by rw [ev29]; rfl
              refine pq_nil ?_
              refine hC.1 3 107 _ _ rfl _ _ _ _ _ ?_
              refine pq_aload_n0 (qgc_6_1 hI.1 (pq_iload6 (pq_iload5 ?_)))
              refine qsc_23 hI.1 (by omega) (fun f30 ef30 => ?_)
              have hs30 : cw_S v29 f30 := by rw [ef30]; exact cw_S_fr hs29 _ _ (by decide) (by decide)
              refine pq_aload_n0 (qgc_6_2 hI.1 (pq_iload6 (pq_aload_n0 (qgc_6_0 hI.1 (pq_iload5 (qlc_22 hI.1 (by omega) ?_))))))
              refine qsc_24 hI.1 (by omega) (fun f31 ef31 => ?_)
              have hs31 : cw_S v29 f31 := by rw [ef31]; exact cw_S_fr hs30 _ _ (by decide) (by decide)
              refine pq_iinc (fun zm_9 => [some (.ref (q 6)), some (.ref (q o1)), some (.int x2), some (.int x3), some (.int x4), some (.int zm_9), some (.int (e (o1 + 1) (z5_18).toInt.toNat))]) rfl (fun _ => rfl) ?_
              intro m32 em_130
              try have e32 : m32.toInt = (z5_18).toInt + (1) := by rw [em_130]; exact pm_addc _ _ (1) rfl (by omega) (by omega)
              refine pq_goto ?_
              exact hC.2 [false, false, false, false, false, false, true] _ _ _ _ _ _ (ih8 m32 v29 f31 hs31 (by omega) (by omega))
        · skip
          refine pq_id1 (pq_icond_eq ?_)
          refine And.intro (fun _ => ?_) (fun c9 => absurd c9 (by decide))
          refine hC.1 4 136 _ _ rfl _ _ _ _ _ ?_
          refine pq_ret ?_
          exact ⟨rfl, rfl, v6, f6, rfl, hs6, rfl, by exact True.intro⟩
  exact lp7 (200 - (0 : Int32).toInt).toNat.succ (0 : Int32) v5 f3 hs5 (by omega) (by omega)

set_option maxRecDepth 100000 in
set_option maxHeartbeats 2000000 in
theorem c_X4_stepWithin (hI : cw_I K nn dn q w e) (hs : cw_S v f) {o0 : Nat} (ho0 : cw_ro K o0) (x1 : Int32) (x2 : Int32) (p0 : 0 ≤ x2.toInt ∧ x2.toInt < 160) : pm_Mt l g 137 0 0 0 [.ref (q o0), .int x1, .int x2] (cw A0 g K nn dn q w e v f) (md_Qp (cw A0 g K nn dn q w e v f) (fun r => True)) := by
  refine mt_X4_stepWithin rfl (fun J hC => ?_)
  have ro_nn : cw_ro K nn := hI.2.1.2.1
  have ro_dn : cw_ro K dn := hI.2.1.2.2.1
  have hu1 := hI.2.1
  unfold cw_W at hu1
  have rg_x1 := pm_rng x1
  have rg_x2 := pm_rng x2
  show J 0 [some (.ref (q o0)), some (.int x1), some (.int x2)] [] (cw A0 g K nn dn q w e v f) 0 0
  refine hC.1 0 0 _ _ rfl _ _ _ _ _ ?_
  refine pq_aload_n0 (qgr_2 hI.1 ho0 (pq_iload_n2 (qlc_r3 hI.1 ho0 (by omega) ?_)))
  have w2 := cw_ahd hI ho0 (x2).toInt.toNat
  refine pq_iload_n1 (pq_icmp_lt ?_)
  refine And.intro (fun c3 => ?_) (fun c3 => ?_)
  · skip
    refine hC.1 1 21 _ _ rfl _ _ _ _ _ ?_
    have k0 : (0 : Int32).toInt = 0 := rfl
    refine pq_iconst (pq_nil ?_)
    refine hC.1 2 22 _ _ rfl _ _ _ _ _ ?_
    refine pq_iret ?_
    exact ⟨rfl, fun e9 => absurd e9 (by decide), rfl, (0 : Int32), rfl, rfl, by exact True.intro⟩
  · skip
    refine pq_iload_n2 (pq_aload_n0 (qgr_2 hI.1 ho0 (pq_iload_n2 (qlc_r3 hI.1 ho0 (by omega) ?_))))
    have w4 := cw_ahd hI ho0 (x2).toInt.toNat
    refine pq_isub ?_
    intro m5 em_17
    try have e5 : m5.toInt = (x2).toInt - ((e (o0 + 3) (x2).toInt.toNat)).toInt := by rw [em_17]; exact pm_sub _ _ (by omega) (by omega)
    refine pq_goto ?_
    refine hC.1 2 22 _ _ rfl _ _ _ _ _ ?_
    refine pq_iret ?_
    exact ⟨rfl, fun e9 => absurd e9 (by decide), rfl, m5, rfl, rfl, by exact True.intro⟩

set_option maxRecDepth 100000 in
set_option maxHeartbeats 2000000 in
theorem c_X4_areMatching (hI : cw_I K nn dn q w e) (hs : cw_S v f) {o0 : Nat} (ho0 : cw_ro K o0) (x1 : Int32) (x2 : Int32) (x3 : Int32) (p0 : 0 ≤ x1.toInt ∧ x1.toInt + x3.toInt ≤ 160) (p1 : 0 ≤ x2.toInt ∧ x2.toInt + x3.toInt ≤ 160) : pm_Mt l g 136 1 0 0 [.ref (q o0), .int x1, .int x2, .int x3] (cw A0 g K nn dn q w e v f) (md_Qp (cw A0 g K nn dn q w e v f) (fun r => (r = 1 ∧ (True)) ∨ (r = 0 ∧ (True)))) := by
  refine mt_X4_areMatching rfl (fun J hC => ?_)
  have ro_nn : cw_ro K nn := hI.2.1.2.1
  have ro_dn : cw_ro K dn := hI.2.1.2.2.1
  have hu1 := hI.2.1
  unfold cw_W at hu1
  have rg_x1 := pm_rng x1
  have rg_x2 := pm_rng x2
  have rg_x3 := pm_rng x3
  show J 0 [some (.ref (q o0)), some (.int x1), some (.int x2), some (.int x3), none] [] (cw A0 g K nn dn q w e v f) 0 0
  refine hC.1 0 0 _ _ rfl _ _ _ _ _ ?_
  have k0 : (0 : Int32).toInt = 0 := rfl
  refine pq_iconst (pq_istore [some (.ref (q o0)), some (.int x1), some (.int x2), some (.int x3), some (.int (0 : Int32))] rfl (pq_nil ?_))
  have lp3 : ∀ (n : Nat) (z4_3 : Int32), (0 ≤ z4_3.toInt ∧ z4_3.toInt ≤ 161) → 200 - z4_3.toInt < (n : Int) → J 3 [some (.ref (q o0)), some (.int x1), some (.int x2), some (.int x3), some (.int z4_3)] [] (cw A0 g K nn dn q w e v f) 0 0 := by
    intro n
    induction n with
    | zero =>
      intro z4_3 j0_3 j1_3
      omega
    | succ n ih4 =>
      intro z4_3 j0_3 j1_3
      refine hC.1 1 3 _ _ rfl _ _ _ _ _ ?_
      refine pq_iload4 (pq_iload_n3 (pq_icmp_ge ?_))
      refine And.intro (fun c5 => ?_) (fun c5 => ?_)
      · skip
        refine hC.1 3 38 _ _ rfl _ _ _ _ _ ?_
        have k1 : (1 : Int32).toInt = 1 := rfl
        refine pq_iconst (pq_iret ?_)
        exact ⟨rfl, fun _ => (by decide), rfl, (1 : Int32), rfl, rfl, Or.inl ⟨rfl, by first | omega | (dsimp only; omega) | trivial⟩⟩
      · skip
        refine pq_aload_n0 (pq_iload_n1 (pq_iload_n1 (pq_iload4 (pq_iadd ?_))))
        intro m6 em_14
        try have e6 : m6.toInt = (x1).toInt + (z4_3).toInt := by rw [em_14]; exact pm_add _ _ (by omega) (by omega)
        refine pq_is3 ?_
        refine Exists.intro _ (Exists.intro _ (Exists.intro _ (Exists.intro _ (And.intro (c_X4_stepWithin hI hs ho0 x1 m6 (by omega)) (And.intro rfl (fun r9 A9 h9 => ?_))))))
        obtain ⟨y7, rfl, rfl, by7⟩ := h9
        refine pq_id1 (pq_aload_n0 (pq_iload_n2 (pq_iload_n2 (pq_iload4 (pq_iadd ?_)))))
        intro m9 em_23
        try have e9 : m9.toInt = (x2).toInt + (z4_3).toInt := by rw [em_23]; exact pm_add _ _ (by omega) (by omega)
        refine pq_is3 ?_
        refine Exists.intro _ (Exists.intro _ (Exists.intro _ (Exists.intro _ (And.intro (c_X4_stepWithin hI hs ho0 x2 m9 (by omega)) (And.intro rfl (fun r9 A9 h9 => ?_))))))
        obtain ⟨y10, rfl, rfl, by10⟩ := h9
        refine pq_id1 (pq_icmp_eq ?_)
        refine And.intro (fun c12 => ?_) (fun c12 => ?_)
        · skip
          have dc12 : (y7).toInt = (y10 : Int32).toInt := congrArg Int32.toInt c12
          refine hC.1 2 32 _ _ rfl _ _ _ _ _ ?_
          have k1 : (1 : Int32).toInt = 1 := rfl
          refine pq_iinc (fun zm_9 => [some (.ref (q o0)), some (.int x1), some (.int x2), some (.int x3), some (.int zm_9)]) rfl (fun _ => rfl) ?_
          intro m13 em_32
          try have e13 : m13.toInt = (z4_3).toInt + (1) := by rw [em_32]; exact pm_addc _ _ (1) rfl (by omega) (by omega)
          refine pq_goto ?_
          exact ih4 m13 (by omega) (by omega)
        · skip
          have dc12 := pm_neI c12
          refine pq_iconst (pq_iret ?_)
          exact ⟨rfl, fun _ => (by decide), rfl, (0 : Int32), rfl, rfl, Or.inr ⟨rfl, by first | omega | (dsimp only; omega) | trivial⟩⟩
  exact lp3 (200 - (0 : Int32).toInt).toNat.succ (0 : Int32) (by omega) (by omega)

set_option maxRecDepth 100000 in
set_option maxHeartbeats 2000000 in
theorem c_X4_matching (hI : cw_I K nn dn q w e) (hs : cw_S v f) {o1 : Nat} (ho1 : cw_ro K o1) (x2 : Int32) (x3 : Int32) (x4 : Int32) (p0 : 0 ≤ x2.toInt ∧ x2.toInt ≤ x3.toInt ∧ x3.toInt < (w o1).toInt) : pm_Mt l g 135 2 0 0 [.ref (q 7), .ref (q o1), .int x2, .int x3, .int x4] (cw A0 g K nn dn q w e v f) (md_Qp (cw A0 g K nn dn q w e v f) (fun r => True)) := by
  refine mt_X4_matching rfl (fun J hC => ?_)
  have ro_nn : cw_ro K nn := hI.2.1.2.1
  have ro_dn : cw_ro K dn := hI.2.1.2.2.1
  have hu1 := hI.2.1
  unfold cw_W at hu1
  have rg_x2 := pm_rng x2
  have rg_x3 := pm_rng x3
  have rg_x4 := pm_rng x4
  have zz0 := cw_sz hI ho1
  show J 0 [some (.ref (q 7)), some (.ref (q o1)), some (.int x2), some (.int x3), some (.int x4), none, none] [] (cw A0 g K nn dn q w e v f) 0 0
  refine hC.1 0 0 _ _ rfl _ _ _ _ _ ?_
  have k0 : (0 : Int32).toInt = 0 := rfl
  refine pq_iconst (pq_istore [some (.ref (q 7)), some (.ref (q o1)), some (.int x2), some (.int x3), some (.int x4), some (.int (0 : Int32)), none] rfl (pq_iconst (pq_istore [some (.ref (q 7)), some (.ref (q o1)), some (.int x2), some (.int x3), some (.int x4), some (.int (0 : Int32)), some (.int (0 : Int32))] rfl (pq_nil ?_))))
  have lp3 : ∀ (n : Nat) (z5_6 : Int32) (z6_6 : Int32), (0 ≤ z6_6.toInt ∧ z6_6.toInt ≤ 160) → 200 - z6_6.toInt < (n : Int) → J 6 [some (.ref (q 7)), some (.ref (q o1)), some (.int x2), some (.int x3), some (.int x4), some (.int z5_6), some (.int z6_6)] [] (cw A0 g K nn dn q w e v f) 0 0 := by
    intro n
    induction n with
    | zero =>
      intro z5_6 z6_6 j0_6 j1_6
      omega
    | succ n ih4 =>
      intro z5_6 z6_6 j0_6 j1_6
      refine hC.1 1 6 _ _ rfl _ _ _ _ _ ?_
      refine pq_iload6 (pq_iload_n3 (pq_iadd ?_))
      intro m5 em_9
      try have e5 : m5.toInt = (z6_6).toInt + (x3).toInt := by rw [em_9]; exact pm_add _ _ (by omega) (by omega)
      refine pq_iload_n2 (pq_isub ?_)
      intro m6 em_11
      try have e6 : m6.toInt = (m5).toInt - (x2).toInt := by rw [em_11]; exact pm_sub _ _ (by omega) (by omega)
      refine pq_aload_n1 (qgr_3 hI.1 ho1 ?_)
      have z7 := cw_sz hI ho1
      refine pq_icmp_ge ?_
      refine And.intro (fun c8 => ?_) (fun c8 => ?_)
      · skip
        refine hC.1 4 53 _ _ rfl _ _ _ _ _ ?_
        refine pq_iload4 ?_
        have km1 : (-1 : Int32).toInt = -1 := rfl
        refine pq_iconst (pq_icmp_ne ?_)
        refine And.intro (fun c9 => ?_) (fun c9 => ?_)
        · skip
          have dc9 := pm_neI c9
          refine hC.1 5 64 _ _ rfl _ _ _ _ _ ?_
          refine pq_iconst (pq_nil ?_)
          refine hC.1 6 65 _ _ rfl _ _ _ _ _ ?_
          refine pq_iret ?_
          exact ⟨rfl, fun e9 => absurd e9 (by decide), rfl, (-1 : Int32), rfl, rfl, by exact True.intro⟩
        · skip
          have dc9 : (x4).toInt = ((-1 : Int32) : Int32).toInt := congrArg Int32.toInt c9
          refine pq_iload5 (pq_goto ?_)
          refine hC.1 6 65 _ _ rfl _ _ _ _ _ ?_
          refine pq_iret ?_
          exact ⟨rfl, fun e9 => absurd e9 (by decide), rfl, z5_6, rfl, rfl, by exact True.intro⟩
      · skip
        refine pq_aload_n1 (pq_iload_n2 (pq_iload6 (pq_iload_n3 (pq_iload_n2 (pq_isub ?_)))))
        intro m10 em_25
        try have e10 : m10.toInt = (x3).toInt - (x2).toInt := by rw [em_25]; exact pm_sub _ _ (by omega) (by omega)
        have k1 : (1 : Int32).toInt = 1 := rfl
        refine pq_iconst (pq_iadd ?_)
        intro m11 em_27
        try have e11 : m11.toInt = (m10).toInt + (1) := by rw [em_27]; exact pm_addc _ _ (1) rfl (by omega) (by omega)
        refine pq_is4 ?_
        refine Exists.intro _ (Exists.intro _ (Exists.intro _ (Exists.intro _ (And.intro (c_X4_areMatching hI hs ho1 x2 z6_6 m11 (by omega) (by omega)) (And.intro rfl (fun r9 A9 h9 => ?_))))))
        rcases h9 with ⟨y12, rfl, rfl, ⟨rfl, by12⟩ | ⟨rfl, by12⟩⟩
        · skip
          refine pq_id1 (pq_icond_eq ?_)
          refine And.intro (fun c9 => absurd c9 (by decide)) (fun _ => ?_)
          refine pq_iload5 (pq_iload4 (pq_icmp_ne ?_))
          refine And.intro (fun c14 => ?_) (fun c14 => ?_)
          · skip
            have dc14 := pm_neI c14
            refine hC.1 2 44 _ _ rfl _ _ _ _ _ ?_
            refine pq_iinc (fun zm_9 => [some (.ref (q 7)), some (.ref (q o1)), some (.int x2), some (.int x3), some (.int x4), some (.int zm_9), some (.int z6_6)]) rfl (fun _ => rfl) ?_
            intro m15 em_44
            try have e15 : m15.toInt = (z5_6).toInt + (1) := by rw [em_44]; exact pm_addc _ _ (1) rfl (by omega) (by omega)
            refine pq_nil ?_
            refine hC.1 3 47 _ _ rfl _ _ _ _ _ ?_
            refine pq_iinc (fun zm_9 => [some (.ref (q 7)), some (.ref (q o1)), some (.int x2), some (.int x3), some (.int x4), some (.int m15), some (.int zm_9)]) rfl (fun _ => rfl) ?_
            intro m16 em_47
            try have e16 : m16.toInt = (z6_6).toInt + (1) := by rw [em_47]; exact pm_addc _ _ (1) rfl (by omega) (by omega)
            refine pq_goto ?_
            exact ih4 m15 m16 (by omega) (by omega)
          · skip
            have dc14 : (z5_6).toInt = (x4 : Int32).toInt := congrArg Int32.toInt c14
            refine pq_iload6 (pq_iret ?_)
            exact ⟨rfl, fun e9 => absurd e9 (by decide), rfl, z6_6, rfl, rfl, by exact True.intro⟩
        · skip
          refine pq_id1 (pq_icond_eq ?_)
          refine And.intro (fun _ => ?_) (fun c9 => absurd c9 (by decide))
          refine hC.1 3 47 _ _ rfl _ _ _ _ _ ?_
          refine pq_iinc (fun zm_9 => [some (.ref (q 7)), some (.ref (q o1)), some (.int x2), some (.int x3), some (.int x4), some (.int z5_6), some (.int zm_9)]) rfl (fun _ => rfl) ?_
          intro m17 em_47
          try have e17 : m17.toInt = (z6_6).toInt + (1) := by rw [em_47]; exact pm_addc _ _ (1) rfl (by omega) (by omega)
          refine pq_goto ?_
          exact ih4 z5_6 m17 (by omega) (by omega)
  exact lp3 (200 - (0 : Int32).toInt).toNat.succ (0 : Int32) (0 : Int32) (by omega) (by omega)

end
end
section
section
variable {l : Launch} {g : pm_G} {A0 : pm_H} {K nn dn : Nat} {q : Nat → Nat} {w : Nat → Int32} {e : Nat → Nat → Int32} {v : Nat → Int32} {f : Nat → Nat → Int32}
set_option maxRecDepth 100000 in
set_option maxHeartbeats 2000000 in
theorem c_X4_findTwinApart (hI : cw_I K nn dn q w e) (hs : cw_S v f) {o1 : Nat} (ho1 : cw_ro K o1) (x2 : Int32) (p0 : 1 ≤ x2.toInt ∧ x2.toInt < 160) : pm_Mt l g 140 1 0 0 [.ref (q 7), .ref (q o1), .int x2] (cw A0 g K nn dn q w e v f) (cw_Qs A0 g K nn dn q w e (fun r v2 f2 => r = none ∧ (True))) := by
  refine mt_X4_findTwinApart rfl (fun J hC => ?_)
  have ro_nn : cw_ro K nn := hI.2.1.2.1
  have ro_dn : cw_ro K dn := hI.2.1.2.2.1
  have hu1 := hI.2.1
  unfold cw_W at hu1
  have rg_x2 := pm_rng x2
  have zz0 := cw_sz hI ho1
  show J 0 [some (.ref (q 7)), some (.ref (q o1)), some (.int x2), none, none, none] [] (cw A0 g K nn dn q w e v f) 0 0
  refine hC.1 0 0 _ _ rfl _ _ _ _ _ ?_
  have k0 : (0 : Int32).toInt = 0 := rfl
  refine pq_iconst (pq_istore_n [some (.ref (q 7)), some (.ref (q o1)), some (.int x2), some (.int (0 : Int32)), none, none] rfl (pq_iconst (pq_istore [some (.ref (q 7)), some (.ref (q o1)), some (.int x2), some (.int (0 : Int32)), some (.int (0 : Int32)), none] rfl (pq_nil ?_))))
  have lp3 : ∀ (n : Nat) (z3_5 : Int32) (z4_5 : Int32) (v2 : Nat → Int32) (f2 : Nat → Nat → Int32), cw_S v2 f2 → (0 ≤ z4_5.toInt ∧ z4_5.toInt ≤ 160) → (0 ≤ z3_5.toInt ∧ z3_5.toInt ≤ 160) → 200 - z4_5.toInt < (n : Int) → J 5 [some (.ref (q 7)), some (.ref (q o1)), some (.int x2), some (.int z3_5), some (.int z4_5), none] [] (cw A0 g K nn dn q w e v2 f2) 0 0 := by
    intro n
    induction n with
    | zero =>
      intro z3_5 z4_5 v2 f2 hs2 j0_5 j1_5 j2_5
      omega
    | succ n ih4 =>
      intro z3_5 z4_5 v2 f2 hs2 j0_5 j1_5 j2_5
      refine hC.1 1 5 _ _ rfl _ _ _ _ _ ?_
      refine pq_iload4 (pq_iload_n2 (pq_iadd ?_))
      intro m5 em_8
      try have e5 : m5.toInt = (z4_5).toInt + (x2).toInt := by rw [em_8]; exact pm_add _ _ (by omega) (by omega)
      refine pq_aload_n1 (qgr_3 hI.1 ho1 ?_)
      have z6 := cw_sz hI ho1
      refine pq_icmp_ge ?_
      refine And.intro (fun c7 => ?_) (fun c7 => ?_)
      · skip
        refine hC.1 6 111 _ _ rfl _ _ _ _ _ ?_
        refine pq_ret ?_
        exact ⟨rfl, rfl, v2, f2, rfl, hs2, rfl, by exact True.intro⟩
      · skip
        refine pq_iload_n3 (pq_iload4 (pq_is2 ?_))
        refine Exists.intro _ (Exists.intro _ (Exists.intro _ (Exists.intro _ (And.intro (c_J9_max_7cf53 (cw A0 g K nn dn q w e v2 f2) z3_5 z4_5 ) (And.intro rfl (fun r9 A9 h9 => ?_))))))
        obtain ⟨y8, rfl, rfl, by8⟩ := h9
        refine pq_id1 (pq_istore_n [some (.ref (q 7)), some (.ref (q o1)), some (.int x2), some (.int y8), some (.int z4_5), none] rfl (pq_nil ?_))
        have lp11 : ∀ (n : Nat) (z3_23 : Int32), (z4_5.toInt ≤ z3_23.toInt ∧ z3_23.toInt ≤ 160) → 200 - z3_23.toInt < (n : Int) → J 23 [some (.ref (q 7)), some (.ref (q o1)), some (.int x2), some (.int z3_23), some (.int z4_5), none] [] (cw A0 g K nn dn q w e v2 f2) 0 0 := by
          intro n
          induction n with
          | zero =>
            intro z3_23 j0_23 j1_23
            omega
          | succ n ih12 =>
            intro z3_23 j0_23 j1_23
            refine hC.1 2 23 _ _ rfl _ _ _ _ _ ?_
            refine pq_iload_n3 (pq_iload_n2 (pq_iadd ?_))
            intro m13 em_25
            try have e13 : m13.toInt = (z3_23).toInt + (x2).toInt := by rw [em_25]; exact pm_add _ _ (by omega) (by omega)
            refine pq_aload_n1 (qgr_3 hI.1 ho1 ?_)
            have z14 := cw_sz hI ho1
            refine pq_icmp_ge ?_
            refine And.intro (fun c15 => ?_) (fun c15 => ?_)
            · skip
              refine hC.1 3 60 _ _ rfl _ _ _ _ _ ?_
              refine pq_iload_n3 (pq_iload4 (pq_isub ?_))
              intro m16 em_63
              try have e16 : m16.toInt = (z3_23).toInt - (z4_5).toInt := by rw [em_63]; exact pm_sub _ _ (by omega) (by omega)
              refine pq_istore [some (.ref (q 7)), some (.ref (q o1)), some (.int x2), some (.int z3_23), some (.int z4_5), some (.int m16)] rfl (pq_iload5 (pq_aload_n0 (qgc_7_2 hI.1 (pq_icmp_gt ?_))))
              refine And.intro (fun c17 => ?_) (fun c17 => ?_)
              · skip
                refine hC.1 4 93 _ _ rfl _ _ _ _ _ ?_
                refine pq_aload_n0 (pq_iload4 ?_)
                refine quc_7_1 hI.1 (fun v18 ev18 => ?_)
                have hs18 : cw_S v18 f2 := by rw [ev18]; exact cw_S_v hs2 13 _ (by decide)
                have ev18_0 : (v18 0).toInt = (v2 0).toInt := by rw [ev18]; rfl
                refine pq_aload_n0 (pq_iload5 ?_)
                refine quc_7_2 hI.1 (fun v19 ev19 => ?_)
                have hs19 : cw_S v19 f2 := by rw [ev19]; exact cw_S_v hs18 14 _ (by decide)
                have ev19_0 : (v19 0).toInt = (v18 0).toInt := by rw [ev19]; rfl
                refine pq_nil ?_
                refine hC.1 5 105 _ _ rfl _ _ _ _ _ ?_
                have k1 : (1 : Int32).toInt = 1 := rfl
                refine pq_iinc (fun zm_9 => [some (.ref (q 7)), some (.ref (q o1)), some (.int x2), some (.int z3_23), some (.int zm_9), some (.int m16)]) rfl (fun _ => rfl) ?_
                intro m20 em_105
                try have e20 : m20.toInt = (z4_5).toInt + (1) := by rw [em_105]; exact pm_addc _ _ (1) rfl (by omega) (by omega)
                refine pq_goto ?_
                exact hC.2 [false, false, false, false, false, true] _ _ _ _ _ _ (ih4 z3_23 m20 v19 f2 hs19 (by omega) (by omega) (by omega))
              · skip
                refine pq_iload5 (pq_aload_n0 (qgc_7_2 hI.1 (pq_icmp_ne ?_)))
                refine And.intro (fun c21 => ?_) (fun c21 => ?_)
                · skip
                  have dc21 := pm_neI c21
                  refine hC.1 5 105 _ _ rfl _ _ _ _ _ ?_
                  have k1 : (1 : Int32).toInt = 1 := rfl
                  refine pq_iinc (fun zm_9 => [some (.ref (q 7)), some (.ref (q o1)), some (.int x2), some (.int z3_23), some (.int zm_9), some (.int m16)]) rfl (fun _ => rfl) ?_
                  intro m22 em_105
                  try have e22 : m22.toInt = (z4_5).toInt + (1) := by rw [em_105]; exact pm_addc _ _ (1) rfl (by omega) (by omega)
                  refine pq_goto ?_
                  exact hC.2 [false, false, false, false, false, true] _ _ _ _ _ _ (ih4 z3_23 m22 v2 f2 hs2 (by omega) (by omega) (by omega))
                · skip
                  have dc21 : (m16).toInt = ((v2 14) : Int32).toInt := congrArg Int32.toInt c21
                  refine pq_iload4 (pq_aload_n0 (qgc_7_1 hI.1 (pq_icmp_ge ?_)))
                  refine And.intro (fun c23 => ?_) (fun c23 => ?_)
                  · skip
                    refine hC.1 5 105 _ _ rfl _ _ _ _ _ ?_
                    have k1 : (1 : Int32).toInt = 1 := rfl
                    refine pq_iinc (fun zm_9 => [some (.ref (q 7)), some (.ref (q o1)), some (.int x2), some (.int z3_23), some (.int zm_9), some (.int m16)]) rfl (fun _ => rfl) ?_
                    intro m24 em_105
                    try have e24 : m24.toInt = (z4_5).toInt + (1) := by rw [em_105]; exact pm_addc _ _ (1) rfl (by omega) (by omega)
                    refine pq_goto ?_
                    exact hC.2 [false, false, false, false, false, true] _ _ _ _ _ _ (ih4 z3_23 m24 v2 f2 hs2 (by omega) (by omega) (by omega))
                  · skip
                    refine pq_nil ?_
                    refine hC.1 4 93 _ _ rfl _ _ _ _ _ ?_
                    refine pq_aload_n0 (pq_iload4 ?_)
                    refine quc_7_1 hI.1 (fun v25 ev25 => ?_)
                    have hs25 : cw_S v25 f2 := by rw [ev25]; exact cw_S_v hs2 13 _ (by decide)
                    have ev25_0 : (v25 0).toInt = (v2 0).toInt := by rw [ev25]; rfl
                    refine pq_aload_n0 (pq_iload5 ?_)
                    refine quc_7_2 hI.1 (fun v26 ev26 => ?_)
                    have hs26 : cw_S v26 f2 := by rw [ev26]; exact cw_S_v hs25 14 _ (by decide)
                    have ev26_0 : (v26 0).toInt = (v25 0).toInt := by rw [ev26]; rfl
                    refine pq_nil ?_
                    refine hC.1 5 105 _ _ rfl _ _ _ _ _ ?_
                    have k1 : (1 : Int32).toInt = 1 := rfl
                    refine pq_iinc (fun zm_9 => [some (.ref (q 7)), some (.ref (q o1)), some (.int x2), some (.int z3_23), some (.int zm_9), some (.int m16)]) rfl (fun _ => rfl) ?_
                    intro m27 em_105
                    try have e27 : m27.toInt = (z4_5).toInt + (1) := by rw [em_105]; exact pm_addc _ _ (1) rfl (by omega) (by omega)
                    refine pq_goto ?_
                    exact hC.2 [false, false, false, false, false, true] _ _ _ _ _ _ (ih4 z3_23 m27 v26 f2 hs26 (by omega) (by omega) (by omega))
            · skip
              refine pq_aload_n1 (pq_iload4 (pq_iload_n3 (pq_is3 ?_)))
              refine Exists.intro _ (Exists.intro _ (Exists.intro _ (Exists.intro _ (And.intro (c_X4_stepWithin hI hs2 ho1 z4_5 z3_23 (by omega)) (And.intro rfl (fun r9 A9 h9 => ?_))))))
              obtain ⟨y28, rfl, rfl, by28⟩ := h9
              refine pq_id1 (pq_aload_n1 (pq_iload4 (pq_iload_n2 (pq_iadd ?_))))
              intro m30 em_44
              try have e30 : m30.toInt = (z4_5).toInt + (x2).toInt := by rw [em_44]; exact pm_add _ _ (by omega) (by omega)
              refine pq_iload_n3 (pq_iload_n2 (pq_iadd ?_))
              intro m31 em_47
              try have e31 : m31.toInt = (z3_23).toInt + (x2).toInt := by rw [em_47]; exact pm_add _ _ (by omega) (by omega)
              refine pq_is3 ?_
              refine Exists.intro _ (Exists.intro _ (Exists.intro _ (Exists.intro _ (And.intro (c_X4_stepWithin hI hs2 ho1 m30 m31 (by omega)) (And.intro rfl (fun r9 A9 h9 => ?_))))))
              obtain ⟨y32, rfl, rfl, by32⟩ := h9
              refine pq_id1 (pq_icmp_ne ?_)
              refine And.intro (fun c34 => ?_) (fun c34 => ?_)
              · skip
                have dc34 := pm_neI c34
                refine hC.1 3 60 _ _ rfl _ _ _ _ _ ?_
                refine pq_iload_n3 (pq_iload4 (pq_isub ?_))
                intro m35 em_63
                try have e35 : m35.toInt = (z3_23).toInt - (z4_5).toInt := by rw [em_63]; exact pm_sub _ _ (by omega) (by omega)
                refine pq_istore [some (.ref (q 7)), some (.ref (q o1)), some (.int x2), some (.int z3_23), some (.int z4_5), some (.int m35)] rfl (pq_iload5 (pq_aload_n0 (qgc_7_2 hI.1 (pq_icmp_gt ?_))))
                refine And.intro (fun c36 => ?_) (fun c36 => ?_)
                · skip
                  refine hC.1 4 93 _ _ rfl _ _ _ _ _ ?_
                  refine pq_aload_n0 (pq_iload4 ?_)
                  refine quc_7_1 hI.1 (fun v37 ev37 => ?_)
                  have hs37 : cw_S v37 f2 := by rw [ev37]; exact cw_S_v hs2 13 _ (by decide)
                  have ev37_0 : (v37 0).toInt = (v2 0).toInt := by rw [ev37]; rfl
                  refine pq_aload_n0 (pq_iload5 ?_)
                  refine quc_7_2 hI.1 (fun v38 ev38 => ?_)
                  have hs38 : cw_S v38 f2 := by rw [ev38]; exact cw_S_v hs37 14 _ (by decide)
                  have ev38_0 : (v38 0).toInt = (v37 0).toInt := by rw [ev38]; rfl
                  refine pq_nil ?_
                  refine hC.1 5 105 _ _ rfl _ _ _ _ _ ?_
                  have k1 : (1 : Int32).toInt = 1 := rfl
                  refine pq_iinc (fun zm_9 => [some (.ref (q 7)), some (.ref (q o1)), some (.int x2), some (.int z3_23), some (.int zm_9), some (.int m35)]) rfl (fun _ => rfl) ?_
                  intro m39 em_105
                  try have e39 : m39.toInt = (z4_5).toInt + (1) := by rw [em_105]; exact pm_addc _ _ (1) rfl (by omega) (by omega)
                  refine pq_goto ?_
                  exact hC.2 [false, false, false, false, false, true] _ _ _ _ _ _ (ih4 z3_23 m39 v38 f2 hs38 (by omega) (by omega) (by omega))
                · skip
                  refine pq_iload5 (pq_aload_n0 (qgc_7_2 hI.1 (pq_icmp_ne ?_)))
                  refine And.intro (fun c40 => ?_) (fun c40 => ?_)
                  · skip
                    have dc40 := pm_neI c40
                    refine hC.1 5 105 _ _ rfl _ _ _ _ _ ?_
                    have k1 : (1 : Int32).toInt = 1 := rfl
                    refine pq_iinc (fun zm_9 => [some (.ref (q 7)), some (.ref (q o1)), some (.int x2), some (.int z3_23), some (.int zm_9), some (.int m35)]) rfl (fun _ => rfl) ?_
                    intro m41 em_105
                    try have e41 : m41.toInt = (z4_5).toInt + (1) := by rw [em_105]; exact pm_addc _ _ (1) rfl (by omega) (by omega)
                    refine pq_goto ?_
                    exact hC.2 [false, false, false, false, false, true] _ _ _ _ _ _ (ih4 z3_23 m41 v2 f2 hs2 (by omega) (by omega) (by omega))
                  · skip
                    have dc40 : (m35).toInt = ((v2 14) : Int32).toInt := congrArg Int32.toInt c40
                    refine pq_iload4 (pq_aload_n0 (qgc_7_1 hI.1 (pq_icmp_ge ?_)))
                    refine And.intro (fun c42 => ?_) (fun c42 => ?_)
                    · skip
                      refine hC.1 5 105 _ _ rfl _ _ _ _ _ ?_
                      have k1 : (1 : Int32).toInt = 1 := rfl
                      refine pq_iinc (fun zm_9 => [some (.ref (q 7)), some (.ref (q o1)), some (.int x2), some (.int z3_23), some (.int zm_9), some (.int m35)]) rfl (fun _ => rfl) ?_
                      intro m43 em_105
                      try have e43 : m43.toInt = (z4_5).toInt + (1) := by rw [em_105]; exact pm_addc _ _ (1) rfl (by omega) (by omega)
                      refine pq_goto ?_
                      exact hC.2 [false, false, false, false, false, true] _ _ _ _ _ _ (ih4 z3_23 m43 v2 f2 hs2 (by omega) (by omega) (by omega))
                    · skip
                      refine pq_nil ?_
                      refine hC.1 4 93 _ _ rfl _ _ _ _ _ ?_
                      refine pq_aload_n0 (pq_iload4 ?_)
                      refine quc_7_1 hI.1 (fun v44 ev44 => ?_)
                      have hs44 : cw_S v44 f2 := by rw [ev44]; exact cw_S_v hs2 13 _ (by decide)
                      have ev44_0 : (v44 0).toInt = (v2 0).toInt := by rw [ev44]; rfl
                      refine pq_aload_n0 (pq_iload5 ?_)
                      refine quc_7_2 hI.1 (fun v45 ev45 => ?_)
                      have hs45 : cw_S v45 f2 := by rw [ev45]; exact cw_S_v hs44 14 _ (by decide)
                      have ev45_0 : (v45 0).toInt = (v44 0).toInt := by rw [ev45]; rfl
                      refine pq_nil ?_
                      refine hC.1 5 105 _ _ rfl _ _ _ _ _ ?_
                      have k1 : (1 : Int32).toInt = 1 := rfl
                      refine pq_iinc (fun zm_9 => [some (.ref (q 7)), some (.ref (q o1)), some (.int x2), some (.int z3_23), some (.int zm_9), some (.int m35)]) rfl (fun _ => rfl) ?_
                      intro m46 em_105
                      try have e46 : m46.toInt = (z4_5).toInt + (1) := by rw [em_105]; exact pm_addc _ _ (1) rfl (by omega) (by omega)
                      refine pq_goto ?_
                      exact hC.2 [false, false, false, false, false, true] _ _ _ _ _ _ (ih4 z3_23 m46 v45 f2 hs45 (by omega) (by omega) (by omega))
              · skip
                have dc34 : (y28).toInt = (y32 : Int32).toInt := congrArg Int32.toInt c34
                have k1 : (1 : Int32).toInt = 1 := rfl
                refine pq_iinc (fun zm_9 => [some (.ref (q 7)), some (.ref (q o1)), some (.int x2), some (.int zm_9), some (.int z4_5), none]) rfl (fun _ => rfl) ?_
                intro m47 em_54
                try have e47 : m47.toInt = (z3_23).toInt + (1) := by rw [em_54]; exact pm_addc _ _ (1) rfl (by omega) (by omega)
                refine pq_goto ?_
                exact ih12 m47 (by omega) (by omega)
        exact lp11 (200 - y8.toInt).toNat.succ y8 (by omega) (by omega)
  exact lp3 (200 - (0 : Int32).toInt).toNat.succ (0 : Int32) (0 : Int32) v f hs (by omega) (by omega) (by omega)

set_option maxRecDepth 100000 in
set_option maxHeartbeats 2000000 in
theorem c_X4_findTwin (hI : cw_I K nn dn q w e) (hs : cw_S v f) {o1 : Nat} (ho1 : cw_ro K o1)  : pm_Mt l g 139 2 0 0 [.ref (q 7), .ref (q o1)] (cw A0 g K nn dn q w e v f) (cw_Qs A0 g K nn dn q w e (fun r v2 f2 => r = none ∧ (True))) := by
  refine mt_X4_findTwin rfl (fun J hC => ?_)
  have ro_nn : cw_ro K nn := hI.2.1.2.1
  have ro_dn : cw_ro K dn := hI.2.1.2.2.1
  have hu1 := hI.2.1
  unfold cw_W at hu1
  have zz0 := cw_sz hI ho1
  show J 0 [some (.ref (q 7)), some (.ref (q o1)), none] [] (cw A0 g K nn dn q w e v f) 0 0
  refine hC.1 0 0 _ _ rfl _ _ _ _ _ ?_
  refine pq_aload_n0 ?_
  have km1 : (-1 : Int32).toInt = -1 := rfl
  refine pq_iconst ?_
  refine quc_7_1 hI.1 (fun v2 ev2 => ?_)
  have hs2 : cw_S v2 f := by rw [ev2]; exact cw_S_v hs 13 _ (by decide)
  have ev2_0 : (v2 0).toInt = (v 0).toInt := by rw [ev2]; rfl
  refine pq_aload_n0 ?_
  have k0 : (0 : Int32).toInt = 0 := rfl
  refine pq_iconst ?_
  refine quc_7_2 hI.1 (fun v3 ev3 => ?_)
  have hs3 : cw_S v3 f := by rw [ev3]; exact cw_S_v hs2 14 _ (by decide)
  have ev3_0 : (v3 0).toInt = (v2 0).toInt := by rw [ev3]; rfl
  have k1 : (1 : Int32).toInt = 1 := rfl
  refine pq_iconst (pq_istore_n [some (.ref (q 7)), some (.ref (q o1)), some (.int (1 : Int32))] rfl (pq_nil ?_))
  have lp5 : ∀ (n : Nat) (z2_12 : Int32) (v4 : Nat → Int32) (f4 : Nat → Nat → Int32), cw_S v4 f4 → (1 ≤ z2_12.toInt ∧ z2_12.toInt ≤ 161) → 200 - z2_12.toInt < (n : Int) → J 12 [some (.ref (q 7)), some (.ref (q o1)), some (.int z2_12)] [] (cw A0 g K nn dn q w e v4 f4) 0 0 := by
    intro n
    induction n with
    | zero =>
      intro z2_12 v4 f4 hs4 j0_12 j1_12
      omega
    | succ n ih6 =>
      intro z2_12 v4 f4 hs4 j0_12 j1_12
      refine hC.1 1 12 _ _ rfl _ _ _ _ _ ?_
      refine pq_iload_n2 (pq_aload_n1 (qgr_3 hI.1 ho1 ?_))
      have z7 := cw_sz hI ho1
      refine pq_icmp_ge ?_
      refine And.intro (fun c8 => ?_) (fun c8 => ?_)
      · skip
        refine hC.1 2 32 _ _ rfl _ _ _ _ _ ?_
        refine pq_ret ?_
        exact ⟨rfl, rfl, v4, f4, rfl, hs4, rfl, by exact True.intro⟩
      · skip
        refine pq_aload_n0 (pq_aload_n1 (pq_iload_n2 (pq_iv2_4 ?_)))
        refine And.intro (Exists.intro _ (cw_o7 hI.1)) (Exists.intro _ (Exists.intro _ (Exists.intro _ (Exists.intro _ (And.intro (c_X4_findTwinApart hI hs4 ho1 z2_12 (by omega)) (And.intro rfl (fun r9 A9 h9 => ?_)))))))
        rcases h9 with ⟨v10, f10, rfl, hs10, rfl, by9⟩
        refine pq_id0 (pq_iinc (fun zm_9 => [some (.ref (q 7)), some (.ref (q o1)), some (.int zm_9)]) rfl (fun _ => rfl) ?_)
        intro m11 em_26
        try have e11 : m11.toInt = (z2_12).toInt + (1) := by rw [em_26]; exact pm_addc _ _ (1) rfl (by omega) (by omega)
        refine pq_goto ?_
        exact ih6 m11 v10 f10 hs10 (by omega) (by omega)
  exact lp5 (200 - (1 : Int32).toInt).toNat.succ (1 : Int32) v3 f hs3 (by omega) (by omega)

set_option maxRecDepth 100000 in
set_option maxHeartbeats 2000000 in
theorem c_X4_spansUpTo (hI : cw_I K nn dn q w e) (hs : cw_S v f) {o1 : Nat} (ho1 : cw_ro K o1) (x3 : Int32)  : pm_Mt l g 129 2 0 0 [.ref (q 7), .ref (q o1), .ref (q 2), .int x3] (cw A0 g K nn dn q w e v f) (cw_Qs A0 g K nn dn q w e (fun r v2 f2 => ∃ x : Int32, r = some (.int x) ∧ (True))) := by
  refine mt_X4_spansUpTo rfl (fun J hC => ?_)
  have ro_nn : cw_ro K nn := hI.2.1.2.1
  have ro_dn : cw_ro K dn := hI.2.1.2.2.1
  have hu1 := hI.2.1
  unfold cw_W at hu1
  have rg_x3 := pm_rng x3
  have zz0 := cw_sz hI ho1
  show J 0 [some (.ref (q 7)), some (.ref (q o1)), some (.ref (q 2)), some (.int x3), none, none, none] [] (cw A0 g K nn dn q w e v f) 0 0
  refine hC.1 0 0 _ _ rfl _ _ _ _ _ ?_
  refine pq_aload_n2 (pq_iv0_2 ?_)
  refine And.intro (Exists.intro _ (cw_o2 hI.1)) (Exists.intro _ (Exists.intro _ (Exists.intro _ (Exists.intro _ (And.intro (c_X2_clear hI hs  ) (And.intro rfl (fun r9 A9 h9 => ?_)))))))
  rcases h9 with ⟨v3, f3, rfl, hs3, rfl, by2⟩
  refine pq_id0 ?_
  have k0 : (0 : Int32).toInt = 0 := rfl
  refine pq_iconst (pq_istore [some (.ref (q 7)), some (.ref (q o1)), some (.ref (q 2)), some (.int x3), some (.int (0 : Int32)), none, none] rfl (pq_iconst (pq_istore [some (.ref (q 7)), some (.ref (q o1)), some (.ref (q 2)), some (.int x3), some (.int (0 : Int32)), some (.int (0 : Int32)), none] rfl (pq_iconst (pq_istore [some (.ref (q 7)), some (.ref (q o1)), some (.ref (q 2)), some (.int x3), some (.int (0 : Int32)), some (.int (0 : Int32)), some (.int (0 : Int32))] rfl (pq_nil ?_))))))
  have lp5 : ∀ (n : Nat) (z4_13 : Int32) (z5_13 : Int32) (z6_13 : Int32) (v4 : Nat → Int32) (f4 : Nat → Nat → Int32), cw_S v4 f4 → (0 ≤ z6_13.toInt ∧ z6_13.toInt ≤ 160) → (0 ≤ z5_13.toInt ∧ z5_13.toInt ≤ z6_13.toInt) → 200 - z6_13.toInt < (n : Int) → J 13 [some (.ref (q 7)), some (.ref (q o1)), some (.ref (q 2)), some (.int x3), some (.int z4_13), some (.int z5_13), some (.int z6_13)] [] (cw A0 g K nn dn q w e v4 f4) 0 0 := by
    intro n
    induction n with
    | zero =>
      intro z4_13 z5_13 z6_13 v4 f4 hs4 j0_13 j1_13 j2_13
      omega
    | succ n ih6 =>
      intro z4_13 z5_13 z6_13 v4 f4 hs4 j0_13 j1_13 j2_13
      refine hC.1 1 13 _ _ rfl _ _ _ _ _ ?_
      refine pq_iload6 (pq_aload_n1 (qgr_3 hI.1 ho1 ?_))
      have z7 := cw_sz hI ho1
      refine pq_icmp_ge ?_
      refine And.intro (fun c8 => ?_) (fun c8 => ?_)
      · skip
        refine hC.1 4 83 _ _ rfl _ _ _ _ _ ?_
        refine pq_iload4 (pq_iret ?_)
        exact ⟨rfl, fun e9 => absurd e9 (by decide), rfl, v4, f4, rfl, hs4, z4_13, rfl, by exact True.intro⟩
      · skip
        refine pq_aload_n2 (pq_aload_n1 (qgr_0 hI.1 ho1 (pq_iload6 (qlc_r1 hI.1 ho1 (by omega) ?_))))
        have w9 := cw_col hI ho1 (z6_13).toInt.toNat
        refine pq_iv1_2 ?_
        refine And.intro (Exists.intro _ (cw_o2 hI.1)) (Exists.intro _ (Exists.intro _ (Exists.intro _ (Exists.intro _ (And.intro (c_X2_take hI hs4 (e (o1 + 1) (z6_13).toInt.toNat) (by omega)) (And.intro rfl (fun r9 A9 h9 => ?_)))))))
        rcases h9 with ⟨v11, f11, rfl, hs11, rfl, by10⟩
        refine pq_id0 (pq_nil ?_)
        have lp13 : ∀ (n : Nat) (z5_33 : Int32) (v12 : Nat → Int32) (f12 : Nat → Nat → Int32), cw_S v12 f12 → (0 ≤ z5_33.toInt ∧ z5_33.toInt ≤ z6_13.toInt + 1) → 200 - z5_33.toInt < (n : Int) → J 33 [some (.ref (q 7)), some (.ref (q o1)), some (.ref (q 2)), some (.int x3), some (.int z4_13), some (.int z5_33), some (.int z6_13)] [] (cw A0 g K nn dn q w e v12 f12) 0 0 := by
          intro n
          induction n with
          | zero =>
            intro z5_33 v12 f12 hs12 j0_33 j1_33
            omega
          | succ n ih14 =>
            intro z5_33 v12 f12 hs12 j0_33 j1_33
            refine hC.1 2 33 _ _ rfl _ _ _ _ _ ?_
            refine pq_aload_n2 (qgc_2_3 hI.1 (pq_iload_n3 (pq_icmp_le ?_)))
            refine And.intro (fun c15 => ?_) (fun c15 => ?_)
            · skip
              refine hC.1 3 65 _ _ rfl _ _ _ _ _ ?_
              refine pq_iload4 (pq_iload6 (pq_iload5 (pq_isub ?_)))
              intro m16 em_71
              try have e16 : m16.toInt = (z6_13).toInt - (z5_33).toInt := by rw [em_71]; exact pm_sub _ _ (by omega) (by omega)
              have k1 : (1 : Int32).toInt = 1 := rfl
              refine pq_iconst (pq_iadd ?_)
              intro m17 em_73
              try have e17 : m17.toInt = (m16).toInt + (1) := by rw [em_73]; exact pm_addc _ _ (1) rfl (by omega) (by omega)
              refine pq_iadd ?_
              intro m18 em_74
              try have e18 : m18.toInt = (z4_13).toInt + (m17).toInt := by rw [em_74]; exact pm_add _ _ (by omega) (by omega)
              refine pq_istore [some (.ref (q 7)), some (.ref (q o1)), some (.ref (q 2)), some (.int x3), some (.int m18), some (.int z5_33), some (.int z6_13)] rfl (pq_iinc (fun zm_9 => [some (.ref (q 7)), some (.ref (q o1)), some (.ref (q 2)), some (.int x3), some (.int m18), some (.int z5_33), some (.int zm_9)]) rfl (fun _ => rfl) ?_)
              intro m19 em_77
              try have e19 : m19.toInt = (z6_13).toInt + (1) := by rw [em_77]; exact pm_addc _ _ (1) rfl (by omega) (by omega)
              refine pq_goto ?_
              exact ih6 m18 z5_33 m19 v12 f12 hs12 (by omega) (by omega) (by omega)
            · skip
              refine pq_iload5 (pq_iload6 (pq_icmp_gt ?_))
              refine And.intro (fun c20 => ?_) (fun c20 => ?_)
              · skip
                refine hC.1 3 65 _ _ rfl _ _ _ _ _ ?_
                refine pq_iload4 (pq_iload6 (pq_iload5 (pq_isub ?_)))
                intro m21 em_71
                try have e21 : m21.toInt = (z6_13).toInt - (z5_33).toInt := by rw [em_71]; exact pm_sub _ _ (by omega) (by omega)
                have k1 : (1 : Int32).toInt = 1 := rfl
                refine pq_iconst (pq_iadd ?_)
                intro m22 em_73
                try have e22 : m22.toInt = (m21).toInt + (1) := by rw [em_73]; exact pm_addc _ _ (1) rfl (by omega) (by omega)
                refine pq_iadd ?_
                intro m23 em_74
                try have e23 : m23.toInt = (z4_13).toInt + (m22).toInt := by rw [em_74]; exact pm_add _ _ (by omega) (by omega)
                refine pq_istore [some (.ref (q 7)), some (.ref (q o1)), some (.ref (q 2)), some (.int x3), some (.int m23), some (.int z5_33), some (.int z6_13)] rfl (pq_iinc (fun zm_9 => [some (.ref (q 7)), some (.ref (q o1)), some (.ref (q 2)), some (.int x3), some (.int m23), some (.int z5_33), some (.int zm_9)]) rfl (fun _ => rfl) ?_)
                intro m24 em_77
                try have e24 : m24.toInt = (z6_13).toInt + (1) := by rw [em_77]; exact pm_addc _ _ (1) rfl (by omega) (by omega)
                refine pq_goto ?_
                exact ih6 m23 z5_33 m24 v12 f12 hs12 (by omega) (by omega) (by omega)
              · skip
                refine pq_aload_n2 (pq_aload_n1 (qgr_0 hI.1 ho1 (pq_iload5 (qlc_r1 hI.1 ho1 (by omega) ?_))))
                have w25 := cw_col hI ho1 (z5_33).toInt.toNat
                refine pq_iv1_2 ?_
                refine And.intro (Exists.intro _ (cw_o2 hI.1)) (Exists.intro _ (Exists.intro _ (Exists.intro _ (Exists.intro _ (And.intro (c_X2_drop hI hs12 (e (o1 + 1) (z5_33).toInt.toNat) (by omega)) (And.intro rfl (fun r9 A9 h9 => ?_)))))))
                rcases h9 with ⟨v27, f27, rfl, hs27, rfl, by26⟩
                refine pq_id0 ?_
                have k1 : (1 : Int32).toInt = 1 := rfl
                refine pq_iinc (fun zm_9 => [some (.ref (q 7)), some (.ref (q o1)), some (.ref (q 2)), some (.int x3), some (.int z4_13), some (.int zm_9), some (.int z6_13)]) rfl (fun _ => rfl) ?_
                intro m28 em_59
                try have e28 : m28.toInt = (z5_33).toInt + (1) := by rw [em_59]; exact pm_addc _ _ (1) rfl (by omega) (by omega)
                refine pq_goto ?_
                exact ih14 m28 v27 f27 hs27 (by omega) (by omega)
        exact lp13 (200 - z5_13.toInt).toNat.succ z5_13 v11 f11 hs11 (by omega) (by omega)
  exact lp5 (200 - (0 : Int32).toInt).toNat.succ (0 : Int32) (0 : Int32) (0 : Int32) v3 f3 hs3 (by omega) (by omega) (by omega)

set_option maxRecDepth 100000 in
set_option maxHeartbeats 2000000 in
theorem c_X4_isAmong (hI : cw_I K nn dn q w e) (hs : cw_S v f) (x1 : Int32) (x2 : Int32) (p0 : 0 ≤ x2.toInt ∧ x2.toInt ≤ 160) : pm_Mt l g 133 0 0 0 [.ref (q 7), .int x1, .int x2] (cw A0 g K nn dn q w e v f) (md_Qp (cw A0 g K nn dn q w e v f) (fun r => (r = 1 ∧ (True)) ∨ (r = 0 ∧ (True)))) := by
  refine mt_X4_isAmong rfl (fun J hC => ?_)
  have ro_nn : cw_ro K nn := hI.2.1.2.1
  have ro_dn : cw_ro K dn := hI.2.1.2.2.1
  have hu1 := hI.2.1
  unfold cw_W at hu1
  have rg_x1 := pm_rng x1
  have rg_x2 := pm_rng x2
  show J 0 [some (.ref (q 7)), some (.int x1), some (.int x2), none] [] (cw A0 g K nn dn q w e v f) 0 0
  refine hC.1 0 0 _ _ rfl _ _ _ _ _ ?_
  have k0 : (0 : Int32).toInt = 0 := rfl
  refine pq_iconst (pq_istore_n [some (.ref (q 7)), some (.int x1), some (.int x2), some (.int (0 : Int32))] rfl (pq_nil ?_))
  have lp3 : ∀ (n : Nat) (z3_2 : Int32), (0 ≤ z3_2.toInt ∧ z3_2.toInt ≤ 160) → 200 - z3_2.toInt < (n : Int) → J 2 [some (.ref (q 7)), some (.int x1), some (.int x2), some (.int z3_2)] [] (cw A0 g K nn dn q w e v f) 0 0 := by
    intro n
    induction n with
    | zero =>
      intro z3_2 j0_2 j1_2
      omega
    | succ n ih4 =>
      intro z3_2 j0_2 j1_2
      refine hC.1 1 2 _ _ rfl _ _ _ _ _ ?_
      refine pq_iload_n3 (pq_iload_n2 (pq_icmp_ge ?_))
      refine And.intro (fun c5 => ?_) (fun c5 => ?_)
      · skip
        refine hC.1 3 25 _ _ rfl _ _ _ _ _ ?_
        refine pq_iconst (pq_iret ?_)
        exact ⟨rfl, fun _ => (by decide), rfl, (0 : Int32), rfl, rfl, Or.inr ⟨rfl, by first | omega | (dsimp only; omega) | trivial⟩⟩
      · skip
        refine pq_aload_n0 (qgc_7_0 hI.1 (pq_iload_n3 (qlc_25 hI.1 (by omega) (pq_iload_n1 (pq_icmp_ne ?_)))))
        refine And.intro (fun c6 => ?_) (fun c6 => ?_)
        · skip
          have dc6 := pm_neI c6
          refine hC.1 2 19 _ _ rfl _ _ _ _ _ ?_
          have k1 : (1 : Int32).toInt = 1 := rfl
          refine pq_iinc (fun zm_9 => [some (.ref (q 7)), some (.int x1), some (.int x2), some (.int zm_9)]) rfl (fun _ => rfl) ?_
          intro m7 em_19
          try have e7 : m7.toInt = (z3_2).toInt + (1) := by rw [em_19]; exact pm_addc _ _ (1) rfl (by omega) (by omega)
          refine pq_goto ?_
          exact ih4 m7 (by omega) (by omega)
        · skip
          have dc6 : ((f 25 (z3_2).toInt.toNat)).toInt = (x1 : Int32).toInt := congrArg Int32.toInt c6
          have k1 : (1 : Int32).toInt = 1 := rfl
          refine pq_iconst (pq_iret ?_)
          exact ⟨rfl, fun _ => (by decide), rfl, (1 : Int32), rfl, rfl, Or.inl ⟨rfl, by first | omega | (dsimp only; omega) | trivial⟩⟩
  exact lp3 (200 - (0 : Int32).toInt).toNat.succ (0 : Int32) (by omega) (by omega)

set_option maxRecDepth 100000 in
set_option maxHeartbeats 2000000 in
theorem c_X4_unlikeSets (hI : cw_I K nn dn q w e) (hs : cw_S v f) {o1 : Nat} (ho1 : cw_ro K o1) (x3 : Int32) (p0 : 1 ≤ x3.toInt ∧ x3.toInt ≤ (w o1).toInt) : pm_Mt l g 132 3 0 0 [.ref (q 7), .ref (q o1), .ref (q 2), .int x3] (cw A0 g K nn dn q w e v f) (cw_Qs A0 g K nn dn q w e (fun r v2 f2 => ∃ x : Int32, r = some (.int x) ∧ (True))) := by
  refine mt_X4_unlikeSets rfl (fun J hC => ?_)
  have ro_nn : cw_ro K nn := hI.2.1.2.1
  have ro_dn : cw_ro K dn := hI.2.1.2.2.1
  have hu1 := hI.2.1
  unfold cw_W at hu1
  have rg_x3 := pm_rng x3
  have zz0 := cw_sz hI ho1
  show J 0 [some (.ref (q 7)), some (.ref (q o1)), some (.ref (q 2)), some (.int x3), none, none] [] (cw A0 g K nn dn q w e v f) 0 0
  refine hC.1 0 0 _ _ rfl _ _ _ _ _ ?_
  refine pq_aload_n2 (pq_aload_n1 ?_)
  have k0 : (0 : Int32).toInt = 0 := rfl
  refine pq_iconst (pq_iload_n3 ?_)
  have k1 : (1 : Int32).toInt = 1 := rfl
  refine pq_iconst (pq_isub ?_)
  intro m2 em_5
  try have e2 : m2.toInt = (x3).toInt - (1) := by rw [em_5]; exact pm_subc _ _ (1) rfl (by omega) (by omega)
  refine pq_iv3_2 ?_
  refine And.intro (Exists.intro _ (cw_o2 hI.1)) (Exists.intro _ (Exists.intro _ (Exists.intro _ (Exists.intro _ (And.intro (c_X2_read hI hs ho1 (0 : Int32) m2 ) (And.intro rfl (fun r9 A9 h9 => ?_)))))))
  rcases h9 with ⟨v4, f4, rfl, hs4, rfl, by3⟩
  refine pq_id0 (pq_iconst (pq_istore [some (.ref (q 7)), some (.ref (q o1)), some (.ref (q 2)), some (.int x3), some (.int (0 : Int32)), none] rfl (pq_iconst (pq_istore [some (.ref (q 7)), some (.ref (q o1)), some (.ref (q 2)), some (.int x3), some (.int (0 : Int32)), some (.int (0 : Int32))] rfl (pq_nil ?_)))))
  have lp6 : ∀ (n : Nat) (z4_15 : Int32) (z5_15 : Int32) (v5 : Nat → Int32) (f5 : Nat → Nat → Int32), cw_S v5 f5 → (0 ≤ z5_15.toInt ∧ z5_15.toInt ≤ 161) → (0 ≤ z4_15.toInt ∧ z4_15.toInt ≤ z5_15.toInt) → 200 - z5_15.toInt < (n : Int) → J 15 [some (.ref (q 7)), some (.ref (q o1)), some (.ref (q 2)), some (.int x3), some (.int z4_15), some (.int z5_15)] [] (cw A0 g K nn dn q w e v5 f5) 0 0 := by
    intro n
    induction n with
    | zero =>
      intro z4_15 z5_15 v5 f5 hs5 j0_15 j1_15 j2_15
      omega
    | succ n ih7 =>
      intro z4_15 z5_15 v5 f5 hs5 j0_15 j1_15 j2_15
      refine hC.1 1 15 _ _ rfl _ _ _ _ _ ?_
      refine pq_iload5 (pq_iload_n3 (pq_iadd ?_))
      intro m8 em_18
      try have e8 : m8.toInt = (z5_15).toInt + (x3).toInt := by rw [em_18]; exact pm_add _ _ (by omega) (by omega)
      refine pq_aload_n1 (qgr_3 hI.1 ho1 ?_)
      have z9 := cw_sz hI ho1
      refine pq_icmp_gt ?_
      refine And.intro (fun c10 => ?_) (fun c10 => ?_)
      · skip
        refine hC.1 4 92 _ _ rfl _ _ _ _ _ ?_
        refine pq_iload4 (pq_iret ?_)
        exact ⟨rfl, fun e9 => absurd e9 (by decide), rfl, v5, f5, rfl, hs5, z4_15, rfl, by exact True.intro⟩
      · skip
        refine pq_iload5 (pq_icond_le ?_)
        refine And.intro (fun c11 => ?_) (fun c11 => ?_)
        · skip
          refine hC.1 2 59 _ _ rfl _ _ _ _ _ ?_
          refine pq_aload_n0 (pq_aload_n2 (qgc_2_4 hI.1 (pq_iload4 (pq_iv2_4 ?_))))
          refine And.intro (Exists.intro _ (cw_o7 hI.1)) (Exists.intro _ (Exists.intro _ (Exists.intro _ (Exists.intro _ (And.intro (c_X4_isAmong hI hs5 (v5 3) z4_15 (by omega)) (And.intro rfl (fun r9 A9 h9 => ?_)))))))
          rcases h9 with ⟨y12, rfl, rfl, ⟨rfl, by12⟩ | ⟨rfl, by12⟩⟩
          · skip
            refine pq_id1 (pq_icond_ne ?_)
            refine And.intro (fun _ => ?_) (fun c9 => absurd c9 (by decide))
            refine hC.1 3 86 _ _ rfl _ _ _ _ _ ?_
            refine pq_iinc (fun zm_9 => [some (.ref (q 7)), some (.ref (q o1)), some (.ref (q 2)), some (.int x3), some (.int z4_15), some (.int zm_9)]) rfl (fun _ => rfl) ?_
            intro m14 em_86
            try have e14 : m14.toInt = (z5_15).toInt + (1) := by rw [em_86]; exact pm_addc _ _ (1) rfl (by omega) (by omega)
            refine pq_goto ?_
            exact ih7 z4_15 m14 v5 f5 hs5 (by omega) (by omega) (by omega)
          · skip
            refine pq_id1 (pq_icond_ne ?_)
            refine And.intro (fun c9 => absurd c9 (by decide)) (fun _ => ?_)
            refine pq_aload_n0 (qgc_7_0 hI.1 (pq_iload4 (pq_aload_n2 (qgc_2_4 hI.1 ?_))))
            refine qsc_25 hI.1 (by omega) (fun f15 ef15 => ?_)
            have hs15 : cw_S v5 f15 := by rw [ef15]; exact cw_S_fr hs5 _ _ (by decide) (by decide)
            refine pq_iinc (fun zm_9 => [some (.ref (q 7)), some (.ref (q o1)), some (.ref (q 2)), some (.int x3), some (.int zm_9), some (.int z5_15)]) rfl (fun _ => rfl) ?_
            intro m16 em_83
            try have e16 : m16.toInt = (z4_15).toInt + (1) := by rw [em_83]; exact pm_addc _ _ (1) rfl (by omega) (by omega)
            refine pq_nil ?_
            refine hC.1 3 86 _ _ rfl _ _ _ _ _ ?_
            refine pq_iinc (fun zm_9 => [some (.ref (q 7)), some (.ref (q o1)), some (.ref (q 2)), some (.int x3), some (.int m16), some (.int zm_9)]) rfl (fun _ => rfl) ?_
            intro m17 em_86
            try have e17 : m17.toInt = (z5_15).toInt + (1) := by rw [em_86]; exact pm_addc _ _ (1) rfl (by omega) (by omega)
            refine pq_goto ?_
            exact ih7 m16 m17 v5 f15 hs15 (by omega) (by omega) (by omega)
        · skip
          refine pq_aload_n2 (pq_aload_n1 (qgr_0 hI.1 ho1 (pq_iload5 (pq_iconst (pq_isub ?_)))))
          intro m18 em_39
          try have e18 : m18.toInt = (z5_15).toInt - (1) := by rw [em_39]; exact pm_subc _ _ (1) rfl (by omega) (by omega)
          refine qlc_r1 hI.1 ho1 (by omega) ?_
          have w19 := cw_col hI ho1 (m18).toInt.toNat
          refine pq_iv1_2 ?_
          refine And.intro (Exists.intro _ (cw_o2 hI.1)) (Exists.intro _ (Exists.intro _ (Exists.intro _ (Exists.intro _ (And.intro (c_X2_drop hI hs5 (e (o1 + 1) (m18).toInt.toNat) (by omega)) (And.intro rfl (fun r9 A9 h9 => ?_)))))))
          rcases h9 with ⟨v21, f21, rfl, hs21, rfl, by20⟩
          refine pq_id0 (pq_aload_n2 (pq_aload_n1 (qgr_0 hI.1 ho1 (pq_iload5 (pq_iload_n3 (pq_iadd ?_))))))
          intro m22 em_52
          try have e22 : m22.toInt = (z5_15).toInt + (x3).toInt := by rw [em_52]; exact pm_add _ _ (by omega) (by omega)
          refine pq_iconst (pq_isub ?_)
          intro m23 em_54
          try have e23 : m23.toInt = (m22).toInt - (1) := by rw [em_54]; exact pm_subc _ _ (1) rfl (by omega) (by omega)
          refine qlc_r1 hI.1 ho1 (by omega) ?_
          have w24 := cw_col hI ho1 (m23).toInt.toNat
          refine pq_iv1_2 ?_
          refine And.intro (Exists.intro _ (cw_o2 hI.1)) (Exists.intro _ (Exists.intro _ (Exists.intro _ (Exists.intro _ (And.intro (c_X2_take hI hs21 (e (o1 + 1) (m23).toInt.toNat) (by omega)) (And.intro rfl (fun r9 A9 h9 => ?_)))))))
          rcases h9 with ⟨v26, f26, rfl, hs26, rfl, by25⟩
          refine pq_id0 (pq_nil ?_)
          refine hC.1 2 59 _ _ rfl _ _ _ _ _ ?_
          refine pq_aload_n0 (pq_aload_n2 (qgc_2_4 hI.1 (pq_iload4 (pq_iv2_4 ?_))))
          refine And.intro (Exists.intro _ (cw_o7 hI.1)) (Exists.intro _ (Exists.intro _ (Exists.intro _ (Exists.intro _ (And.intro (c_X4_isAmong hI hs26 (v26 3) z4_15 (by omega)) (And.intro rfl (fun r9 A9 h9 => ?_)))))))
          rcases h9 with ⟨y27, rfl, rfl, ⟨rfl, by27⟩ | ⟨rfl, by27⟩⟩
          · skip
            refine pq_id1 (pq_icond_ne ?_)
            refine And.intro (fun _ => ?_) (fun c9 => absurd c9 (by decide))
            refine hC.1 3 86 _ _ rfl _ _ _ _ _ ?_
            refine pq_iinc (fun zm_9 => [some (.ref (q 7)), some (.ref (q o1)), some (.ref (q 2)), some (.int x3), some (.int z4_15), some (.int zm_9)]) rfl (fun _ => rfl) ?_
            intro m29 em_86
            try have e29 : m29.toInt = (z5_15).toInt + (1) := by rw [em_86]; exact pm_addc _ _ (1) rfl (by omega) (by omega)
            refine pq_goto ?_
            exact ih7 z4_15 m29 v26 f26 hs26 (by omega) (by omega) (by omega)
          · skip
            refine pq_id1 (pq_icond_ne ?_)
            refine And.intro (fun c9 => absurd c9 (by decide)) (fun _ => ?_)
            refine pq_aload_n0 (qgc_7_0 hI.1 (pq_iload4 (pq_aload_n2 (qgc_2_4 hI.1 ?_))))
            refine qsc_25 hI.1 (by omega) (fun f30 ef30 => ?_)
            have hs30 : cw_S v26 f30 := by rw [ef30]; exact cw_S_fr hs26 _ _ (by decide) (by decide)
            refine pq_iinc (fun zm_9 => [some (.ref (q 7)), some (.ref (q o1)), some (.ref (q 2)), some (.int x3), some (.int zm_9), some (.int z5_15)]) rfl (fun _ => rfl) ?_
            intro m31 em_83
            try have e31 : m31.toInt = (z4_15).toInt + (1) := by rw [em_83]; exact pm_addc _ _ (1) rfl (by omega) (by omega)
            refine pq_nil ?_
            refine hC.1 3 86 _ _ rfl _ _ _ _ _ ?_
            refine pq_iinc (fun zm_9 => [some (.ref (q 7)), some (.ref (q o1)), some (.ref (q 2)), some (.int x3), some (.int m31), some (.int zm_9)]) rfl (fun _ => rfl) ?_
            intro m32 em_86
            try have e32 : m32.toInt = (z5_15).toInt + (1) := by rw [em_86]; exact pm_addc _ _ (1) rfl (by omega) (by omega)
            refine pq_goto ?_
            exact ih7 m31 m32 v26 f30 hs30 (by omega) (by omega) (by omega)
  exact lp6 (200 - (0 : Int32).toInt).toNat.succ (0 : Int32) (0 : Int32) v4 f4 hs4 (by omega) (by omega) (by omega)

end
end
section
section
variable {l : Launch} {g : pm_G} {A0 : pm_H} {K nn dn : Nat} {q : Nat → Nat} {w : Nat → Int32} {e : Nat → Nat → Int32} {v : Nat → Int32} {f : Nat → Nat → Int32}
set_option maxRecDepth 100000 in
set_option maxHeartbeats 2000000 in
theorem c_X3_worthOf (hI : cw_I K nn dn q w e) (hs : cw_S v f) (x1 : Int32) (x2 : Int32)  : pm_Mt l g 145 0 0 0 [.ref (q 8), .int x1, .int x2] (cw A0 g K nn dn q w e v f) (md_Qp (cw A0 g K nn dn q w e v f) (fun r => True)) := by
  refine mt_X3_worthOf rfl (fun J hC => ?_)
  have ro_nn : cw_ro K nn := hI.2.1.2.1
  have ro_dn : cw_ro K dn := hI.2.1.2.2.1
  have hu1 := hI.2.1
  unfold cw_W at hu1
  have rg_x1 := pm_rng x1
  have rg_x2 := pm_rng x2
  show J 0 [some (.ref (q 8)), some (.int x1), some (.int x2), none] [] (cw A0 g K nn dn q w e v f) 0 0
  refine hC.1 0 0 _ _ rfl _ _ _ _ _ ?_
  refine pq_iload_n1 (pq_icond_lt ?_)
  refine And.intro (fun c2 => ?_) (fun c2 => ?_)
  · skip
    refine hC.1 1 25 _ _ rfl _ _ _ _ _ ?_
    have k0 : (0 : Int32).toInt = 0 := rfl
    refine pq_iconst (pq_nil ?_)
    refine hC.1 2 26 _ _ rfl _ _ _ _ _ ?_
    refine pq_istore_n [some (.ref (q 8)), some (.int x1), some (.int x2), some (.int (0 : Int32))] rfl (pq_iload_n3 (pq_icond_eq ?_))
    refine And.intro (fun _ => ?_) (fun c9 => absurd c9 (by decide))
    refine hC.1 3 42 _ _ rfl _ _ _ _ _ ?_
    have km1 : (-1 : Int32).toInt = -1 := rfl
    refine pq_iconst (pq_nil ?_)
    refine hC.1 4 43 _ _ rfl _ _ _ _ _ ?_
    refine pq_iret ?_
    exact ⟨rfl, fun e9 => absurd e9 (by decide), rfl, (-1 : Int32), rfl, rfl, by exact True.intro⟩
  · skip
    refine pq_iload_n1 ?_
    have k8 : (8 : Int32).toInt = 8 := rfl
    refine pq_bipush (pq_icmp_gt ?_)
    refine And.intro (fun c3 => ?_) (fun c3 => ?_)
    · skip
      refine hC.1 1 25 _ _ rfl _ _ _ _ _ ?_
      have k0 : (0 : Int32).toInt = 0 := rfl
      refine pq_iconst (pq_nil ?_)
      refine hC.1 2 26 _ _ rfl _ _ _ _ _ ?_
      refine pq_istore_n [some (.ref (q 8)), some (.int x1), some (.int x2), some (.int (0 : Int32))] rfl (pq_iload_n3 (pq_icond_eq ?_))
      refine And.intro (fun _ => ?_) (fun c9 => absurd c9 (by decide))
      refine hC.1 3 42 _ _ rfl _ _ _ _ _ ?_
      have km1 : (-1 : Int32).toInt = -1 := rfl
      refine pq_iconst (pq_nil ?_)
      refine hC.1 4 43 _ _ rfl _ _ _ _ _ ?_
      refine pq_iret ?_
      exact ⟨rfl, fun e9 => absurd e9 (by decide), rfl, (-1 : Int32), rfl, rfl, by exact True.intro⟩
    · skip
      refine pq_iload_n2 (pq_icond_lt ?_)
      refine And.intro (fun c4 => ?_) (fun c4 => ?_)
      · skip
        refine hC.1 1 25 _ _ rfl _ _ _ _ _ ?_
        have k0 : (0 : Int32).toInt = 0 := rfl
        refine pq_iconst (pq_nil ?_)
        refine hC.1 2 26 _ _ rfl _ _ _ _ _ ?_
        refine pq_istore_n [some (.ref (q 8)), some (.int x1), some (.int x2), some (.int (0 : Int32))] rfl (pq_iload_n3 (pq_icond_eq ?_))
        refine And.intro (fun _ => ?_) (fun c9 => absurd c9 (by decide))
        refine hC.1 3 42 _ _ rfl _ _ _ _ _ ?_
        have km1 : (-1 : Int32).toInt = -1 := rfl
        refine pq_iconst (pq_nil ?_)
        refine hC.1 4 43 _ _ rfl _ _ _ _ _ ?_
        refine pq_iret ?_
        exact ⟨rfl, fun e9 => absurd e9 (by decide), rfl, (-1 : Int32), rfl, rfl, by exact True.intro⟩
      · skip
        refine pq_iload_n2 ?_
        have k160 : (160 : Int32).toInt = 160 := rfl
        refine pq_sipush (pq_icmp_gt ?_)
        refine And.intro (fun c5 => ?_) (fun c5 => ?_)
        · skip
          refine hC.1 1 25 _ _ rfl _ _ _ _ _ ?_
          have k0 : (0 : Int32).toInt = 0 := rfl
          refine pq_iconst (pq_nil ?_)
          refine hC.1 2 26 _ _ rfl _ _ _ _ _ ?_
          refine pq_istore_n [some (.ref (q 8)), some (.int x1), some (.int x2), some (.int (0 : Int32))] rfl (pq_iload_n3 (pq_icond_eq ?_))
          refine And.intro (fun _ => ?_) (fun c9 => absurd c9 (by decide))
          refine hC.1 3 42 _ _ rfl _ _ _ _ _ ?_
          have km1 : (-1 : Int32).toInt = -1 := rfl
          refine pq_iconst (pq_nil ?_)
          refine hC.1 4 43 _ _ rfl _ _ _ _ _ ?_
          refine pq_iret ?_
          exact ⟨rfl, fun e9 => absurd e9 (by decide), rfl, (-1 : Int32), rfl, rfl, by exact True.intro⟩
        · skip
          have k1 : (1 : Int32).toInt = 1 := rfl
          refine pq_iconst (pq_goto ?_)
          refine hC.1 2 26 _ _ rfl _ _ _ _ _ ?_
          refine pq_istore_n [some (.ref (q 8)), some (.int x1), some (.int x2), some (.int (1 : Int32))] rfl (pq_iload_n3 (pq_icond_eq ?_))
          refine And.intro (fun c9 => absurd c9 (by decide)) (fun _ => ?_)
          refine pq_aload_n0 (qgc_8_0 hI.1 (pq_iload_n1 (pq_aaload ?_)))
          refine Exists.intro _ (Exists.intro _ (And.intro (Or.inr (cw_worths hI.1)) (And.intro (by omega) ?_)))
          have hw6 : (x1).toInt.toNat < 9 := by omega
          rw [cw_ww_lt hw6]
          refine pq_vr (pq_iload_n2 (qlc_w hI.1 hw6 (by omega) (pq_goto ?_)))
          refine hC.1 4 43 _ _ rfl _ _ _ _ _ ?_
          refine pq_iret ?_
          exact ⟨rfl, fun e9 => absurd e9 (by decide), rfl, (f (26 + (x1).toInt.toNat) (x2).toInt.toNat), rfl, rfl, by exact True.intro⟩

set_option maxRecDepth 100000 in
set_option maxHeartbeats 2000000 in
theorem c_X3_weighUp (hI : cw_I K nn dn q w e) (hs : cw_S v f) {o1 : Nat} (ho1 : cw_ro K o1) (x3 : Int32) (p0 : 1 ≤ x3.toInt ∧ x3.toInt ≤ 8) : pm_Mt l g 144 2 0 0 [.ref (q 8), .ref (q o1), .ref (q 2), .int x3] (cw A0 g K nn dn q w e v f) (cw_Qs A0 g K nn dn q w e (fun r v2 f2 => r = none ∧ (True))) := by
  refine mt_X3_weighUp rfl (fun J hC => ?_)
  have ro_nn : cw_ro K nn := hI.2.1.2.1
  have ro_dn : cw_ro K dn := hI.2.1.2.2.1
  have hu1 := hI.2.1
  unfold cw_W at hu1
  have rg_x3 := pm_rng x3
  have zz0 := cw_sz hI ho1
  show J 0 [some (.ref (q 8)), some (.ref (q o1)), some (.ref (q 2)), some (.int x3), none, none, none, none] [] (cw A0 g K nn dn q w e v f) 0 0
  refine hC.1 0 0 _ _ rfl _ _ _ _ _ ?_
  have k0 : (0 : Int32).toInt = 0 := rfl
  refine pq_iconst (pq_istore [some (.ref (q 8)), some (.ref (q o1)), some (.ref (q 2)), some (.int x3), some (.int (0 : Int32)), none, none, none] rfl (pq_nil ?_))
  have lp3 : ∀ (n : Nat) (z4_3 : Int32) (v2 : Nat → Int32) (f2 : Nat → Nat → Int32), cw_S v2 f2 → (0 ≤ z4_3.toInt ∧ z4_3.toInt ≤ 9) → 200 - z4_3.toInt < (n : Int) → J 3 [some (.ref (q 8)), some (.ref (q o1)), some (.ref (q 2)), some (.int x3), some (.int z4_3), none, none, none] [] (cw A0 g K nn dn q w e v2 f2) 0 0 := by
    intro n
    induction n with
    | zero =>
      intro z4_3 v2 f2 hs2 j0_3 j1_3
      omega
    | succ n ih4 =>
      intro z4_3 v2 f2 hs2 j0_3 j1_3
      refine hC.1 1 3 _ _ rfl _ _ _ _ _ ?_
      refine pq_iload4 (pq_iload_n3 (pq_icmp_gt ?_))
      refine And.intro (fun c5 => ?_) (fun c5 => ?_)
      · skip
        refine hC.1 2 26 _ _ rfl _ _ _ _ _ ?_
        refine pq_aload_n0 (qgc_8_0 hI.1 (pq_iconst (pq_aaload ?_)))
        refine Exists.intro _ (Exists.intro _ (And.intro (Or.inr (cw_worths hI.1)) (And.intro (by omega) ?_)))
        have hw6 : ((0 : Int32)).toInt.toNat < 9 := by omega
        rw [cw_ww_lt hw6]
        refine pq_vr (pq_aload_n1 (qgr_3 hI.1 ho1 ?_))
        have z7 := cw_sz hI ho1
        refine pq_iconst ?_
        refine qsc_w hI.1 hw6 (by omega) (fun f8 ef8 => ?_)
        have hs8 : cw_S v2 f8 := by rw [ef8]; exact cw_S_fr hs2 _ _ (by omega) (by omega)
        refine pq_aload_n1 (qgr_3 hI.1 ho1 ?_)
        have z9 := cw_sz hI ho1
        have k1 : (1 : Int32).toInt = 1 := rfl
        refine pq_iconst (pq_isub ?_)
        intro m10 em_43
        try have e10 : m10.toInt = ((w o1)).toInt - (1) := by rw [em_43]; exact pm_subc _ _ (1) rfl (by omega) (by omega)
        refine pq_istore [some (.ref (q 8)), some (.ref (q o1)), some (.ref (q 2)), some (.int x3), some (.int m10), none, none, none] rfl (pq_nil ?_)
        have lp12 : ∀ (n : Nat) (z4_46 : Int32) (v11 : Nat → Int32) (f11 : Nat → Nat → Int32), cw_S v11 f11 → (-1 ≤ z4_46.toInt ∧ z4_46.toInt ≤ 159) → z4_46.toInt + 1 < (n : Int) → J 46 [some (.ref (q 8)), some (.ref (q o1)), some (.ref (q 2)), some (.int x3), some (.int z4_46), none, none, none] [] (cw A0 g K nn dn q w e v11 f11) 0 0 := by
          intro n
          induction n with
          | zero =>
            intro z4_46 v11 f11 hs11 j0_46 j1_46
            omega
          | succ n ih13 =>
            intro z4_46 v11 f11 hs11 j0_46 j1_46
            refine hC.1 3 46 _ _ rfl _ _ _ _ _ ?_
            refine pq_iload4 (pq_icond_lt ?_)
            refine And.intro (fun c14 => ?_) (fun c14 => ?_)
            · skip
              refine hC.1 9 158 _ _ rfl _ _ _ _ _ ?_
              refine pq_ret ?_
              exact ⟨rfl, rfl, v11, f11, rfl, hs11, rfl, by exact True.intro⟩
            · skip
              refine pq_aload_n2 (pq_iv0_2 ?_)
              refine And.intro (Exists.intro _ (cw_o2 hI.1)) (Exists.intro _ (Exists.intro _ (Exists.intro _ (Exists.intro _ (And.intro (c_X2_clear hI hs11  ) (And.intro rfl (fun r9 A9 h9 => ?_)))))))
              rcases h9 with ⟨v16, f16, rfl, hs16, rfl, by15⟩
              refine pq_id0 (pq_iload4 (pq_istore [some (.ref (q 8)), some (.ref (q o1)), some (.ref (q 2)), some (.int x3), some (.int z4_46), some (.int z4_46), none, none] rfl (pq_nil ?_)))
              have lp18 : ∀ (n : Nat) (z5_59 : Int32) (v17 : Nat → Int32) (f17 : Nat → Nat → Int32), cw_S v17 f17 → (z4_46.toInt ≤ z5_59.toInt ∧ z5_59.toInt ≤ 160) → 200 - z5_59.toInt < (n : Int) → J 59 [some (.ref (q 8)), some (.ref (q o1)), some (.ref (q 2)), some (.int x3), some (.int z4_46), some (.int z5_59), none, none] [] (cw A0 g K nn dn q w e v17 f17) 0 0 := by
                intro n
                induction n with
                | zero =>
                  intro z5_59 v17 f17 hs17 j0_59 j1_59
                  omega
                | succ n ih19 =>
                  intro z5_59 v17 f17 hs17 j0_59 j1_59
                  refine hC.1 4 59 _ _ rfl _ _ _ _ _ ?_
                  refine pq_iload5 (pq_aload_n1 (qgr_3 hI.1 ho1 ?_))
                  have z20 := cw_sz hI ho1
                  refine pq_icmp_ge ?_
                  refine And.intro (fun c21 => ?_) (fun c21 => ?_)
                  · skip
                    refine hC.1 8 152 _ _ rfl _ _ _ _ _ ?_
                    have km1 : (-1 : Int32).toInt = -1 := rfl
                    refine pq_iinc (fun zm_9 => [some (.ref (q 8)), some (.ref (q o1)), some (.ref (q 2)), some (.int x3), some (.int zm_9), some (.int z5_59), none, none]) rfl (fun _ => rfl) ?_
                    intro m22 em_152
                    try have e22 : m22.toInt = (z4_46).toInt + (-1) := by rw [em_152]; exact pm_addc _ _ (-1) rfl (by omega) (by omega)
                    refine pq_goto ?_
                    exact hC.2 [false, false, false, false, false, true, false, false] _ _ _ _ _ _ (ih13 m22 v17 f17 hs17 (by omega) (by omega))
                  · skip
                    refine pq_aload_n2 (pq_aload_n1 (qgr_0 hI.1 ho1 (pq_iload5 (qlc_r1 hI.1 ho1 (by omega) ?_))))
                    have w23 := cw_col hI ho1 (z5_59).toInt.toNat
                    refine pq_iv1_2 ?_
                    refine And.intro (Exists.intro _ (cw_o2 hI.1)) (Exists.intro _ (Exists.intro _ (Exists.intro _ (Exists.intro _ (And.intro (c_X2_take hI hs17 (e (o1 + 1) (z5_59).toInt.toNat) (by omega)) (And.intro rfl (fun r9 A9 h9 => ?_)))))))
                    rcases h9 with ⟨v25, f25, rfl, hs25, rfl, by24⟩
                    refine pq_id0 (pq_iconst (pq_istore [some (.ref (q 8)), some (.ref (q o1)), some (.ref (q 2)), some (.int x3), some (.int z4_46), some (.int z5_59), some (.int (1 : Int32)), none] rfl (pq_nil ?_)))
                    have lp27 : ∀ (n : Nat) (z6_82 : Int32) (v26 : Nat → Int32) (f26 : Nat → Nat → Int32), cw_S v26 f26 → (1 ≤ z6_82.toInt ∧ z6_82.toInt ≤ 9) → 200 - z6_82.toInt < (n : Int) → J 82 [some (.ref (q 8)), some (.ref (q o1)), some (.ref (q 2)), some (.int x3), some (.int z4_46), some (.int z5_59), some (.int z6_82), none] [] (cw A0 g K nn dn q w e v26 f26) 0 0 := by
                      intro n
                      induction n with
                      | zero =>
                        intro z6_82 v26 f26 hs26 j0_82 j1_82
                        omega
                      | succ n ih28 =>
                        intro z6_82 v26 f26 hs26 j0_82 j1_82
                        refine hC.1 5 82 _ _ rfl _ _ _ _ _ ?_
                        refine pq_iload6 (pq_iload_n3 (pq_icmp_gt ?_))
                        refine And.intro (fun c29 => ?_) (fun c29 => ?_)
                        · skip
                          refine hC.1 7 146 _ _ rfl _ _ _ _ _ ?_
                          refine pq_iinc (fun zm_9 => [some (.ref (q 8)), some (.ref (q o1)), some (.ref (q 2)), some (.int x3), some (.int z4_46), some (.int zm_9), some (.int z6_82), none]) rfl (fun _ => rfl) ?_
                          intro m30 em_146
                          try have e30 : m30.toInt = (z5_59).toInt + (1) := by rw [em_146]; exact pm_addc _ _ (1) rfl (by omega) (by omega)
                          refine pq_goto ?_
                          exact hC.2 [false, false, false, false, false, false, true, false] _ _ _ _ _ _ (ih19 m30 v26 f26 hs26 (by omega) (by omega))
                        · skip
                          refine pq_aload_n0 (qgc_8_0 hI.1 (pq_iload6 (pq_iconst (pq_isub ?_))))
                          intro m31 em_95
                          try have e31 : m31.toInt = (z6_82).toInt - (1) := by rw [em_95]; exact pm_subc _ _ (1) rfl (by omega) (by omega)
                          refine pq_aaload ?_
                          refine Exists.intro _ (Exists.intro _ (And.intro (Or.inr (cw_worths hI.1)) (And.intro (by omega) ?_)))
                          have hw32 : (m31).toInt.toNat < 9 := by omega
                          rw [cw_ww_lt hw32]
                          refine pq_vr (pq_iload5 (pq_iconst (pq_iadd ?_)))
                          intro m33 em_100
                          try have e33 : m33.toInt = (z5_59).toInt + (1) := by rw [em_100]; exact pm_addc _ _ (1) rfl (by omega) (by omega)
                          refine qlc_w hI.1 hw32 (by omega) (pq_istore [some (.ref (q 8)), some (.ref (q o1)), some (.ref (q 2)), some (.int x3), some (.int z4_46), some (.int z5_59), some (.int z6_82), some (.int (f26 (26 + (m31).toInt.toNat) (m33).toInt.toNat))] rfl (pq_iload7 ?_))
                          have km1 : (-1 : Int32).toInt = -1 := rfl
                          refine pq_iconst (pq_icmp_eq ?_)
                          refine And.intro (fun c34 => ?_) (fun c34 => ?_)
                          · skip
                            have dc34 : ((f26 (26 + (m31).toInt.toNat) (m33).toInt.toNat)).toInt = ((-1 : Int32) : Int32).toInt := congrArg Int32.toInt c34
                            refine hC.1 6 140 _ _ rfl _ _ _ _ _ ?_
                            refine pq_iinc (fun zm_9 => [some (.ref (q 8)), some (.ref (q o1)), some (.ref (q 2)), some (.int x3), some (.int z4_46), some (.int z5_59), some (.int zm_9), some (.int (f26 (26 + (m31).toInt.toNat) (m33).toInt.toNat))]) rfl (fun _ => rfl) ?_
                            intro m35 em_140
                            try have e35 : m35.toInt = (z6_82).toInt + (1) := by rw [em_140]; exact pm_addc _ _ (1) rfl (by omega) (by omega)
                            refine pq_goto ?_
                            exact hC.2 [false, false, false, false, false, false, false, true] _ _ _ _ _ _ (ih28 m35 v26 f26 hs26 (by omega) (by omega))
                          · skip
                            have dc34 := pm_neI c34
                            refine pq_aload_n0 (qgc_8_0 hI.1 (pq_iload6 (pq_aaload ?_)))
                            refine Exists.intro _ (Exists.intro _ (And.intro (Or.inr (cw_worths hI.1)) (And.intro (by omega) ?_)))
                            have hw36 : (z6_82).toInt.toNat < 9 := by omega
                            rw [cw_ww_lt hw36]
                            refine pq_vr (pq_iload4 (pq_aload_n0 (qgc_8_0 hI.1 (pq_iload6 (pq_aaload ?_)))))
                            refine Exists.intro _ (Exists.intro _ (And.intro (Or.inr (cw_worths hI.1)) (And.intro (by omega) ?_)))
                            have hw37 : (z6_82).toInt.toNat < 9 := by omega
                            rw [cw_ww_lt hw37]
                            refine pq_vr (pq_iload4 (qlc_w hI.1 hw37 (by omega) (pq_aload_n2 (qgc_2_3 hI.1 (pq_iload7 (pq_iadd ?_))))))
                            intro m38 em_135
                            try have e38 : m38.toInt = ((v26 2)).toInt + ((f26 (26 + (m31).toInt.toNat) (m33).toInt.toNat)).toInt := by rw [em_135]; exact pm_add _ _ (by omega) (by omega)
                            refine pq_is2 ?_
                            refine Exists.intro _ (Exists.intro _ (Exists.intro _ (Exists.intro _ (And.intro (c_J9_max_7cf53 (cw A0 g K nn dn q w e v26 f26) (f26 (26 + (z6_82).toInt.toNat) (z4_46).toInt.toNat) m38 ) (And.intro rfl (fun r9 A9 h9 => ?_))))))
                            obtain ⟨y39, rfl, rfl, by39⟩ := h9
                            refine pq_id1 ?_
                            refine qsc_w hI.1 hw36 (by omega) (fun f41 ef41 => ?_)
                            have hs41 : cw_S v26 f41 := by rw [ef41]; exact cw_S_fr hs26 _ _ (by omega) (by omega)
                            refine pq_nil ?_
                            refine hC.1 6 140 _ _ rfl _ _ _ _ _ ?_
                            refine pq_iinc (fun zm_9 => [some (.ref (q 8)), some (.ref (q o1)), some (.ref (q 2)), some (.int x3), some (.int z4_46), some (.int z5_59), some (.int zm_9), some (.int (f26 (26 + (m31).toInt.toNat) (m33).toInt.toNat))]) rfl (fun _ => rfl) ?_
                            intro m42 em_140
                            try have e42 : m42.toInt = (z6_82).toInt + (1) := by rw [em_140]; exact pm_addc _ _ (1) rfl (by omega) (by omega)
                            refine pq_goto ?_
                            exact hC.2 [false, false, false, false, false, false, false, true] _ _ _ _ _ _ (ih28 m42 v26 f41 hs41 (by omega) (by omega))
                    exact lp27 (200 - (1 : Int32).toInt).toNat.succ (1 : Int32) v25 f25 hs25 (by omega) (by omega)
              exact lp18 (200 - z4_46.toInt).toNat.succ z4_46 v16 f16 hs16 (by omega) (by omega)
        exact lp12 (m10.toInt + 1).toNat.succ m10 v2 f8 hs8 (by omega) (by omega)
      · skip
        refine pq_aload_n0 (qgc_8_0 hI.1 (pq_iload4 (pq_aaload ?_)))
        refine Exists.intro _ (Exists.intro _ (And.intro (Or.inr (cw_worths hI.1)) (And.intro (by omega) ?_)))
        have hw43 : (z4_3).toInt.toNat < 9 := by omega
        rw [cw_ww_lt hw43]
        refine pq_vr ?_
        have km1 : (-1 : Int32).toInt = -1 := rfl
        refine pq_iconst (pq_is2 ?_)
        refine Exists.intro _ (Exists.intro _ (Exists.intro _ (Exists.intro _ (And.intro (c_fill (cw_wr hI.1 hw43) (by decide) (-1 : Int32)) (And.intro rfl (fun r9 A9 h9 => ?_))))))
        obtain ⟨rfl, rfl⟩ := h9
        rw [cw_swr hI.1 hw43]
        obtain ⟨f44, ef44⟩ : ∃ z9, z9 = va_up f2 (26 + (z4_3).toInt.toNat) (fun j => if j < 161 then (-1 : Int32) else f2 (26 + (z4_3).toInt.toNat) j) := ⟨_, rfl⟩
        rw [← ef44]
        have hs44 : cw_S v2 f44 := by rw [ef44]; exact cw_S_fr hs2 _ _ (by omega) (by omega)
        refine pq_id0 ?_
        have k1 : (1 : Int32).toInt = 1 := rfl
        refine pq_iinc (fun zm_9 => [some (.ref (q 8)), some (.ref (q o1)), some (.ref (q 2)), some (.int x3), some (.int zm_9), none, none, none]) rfl (fun _ => rfl) ?_
        intro m45 em_20
        try have e45 : m45.toInt = (z4_3).toInt + (1) := by rw [em_20]; exact pm_addc _ _ (1) rfl (by omega) (by omega)
        refine pq_goto ?_
        exact ih4 m45 v2 f44 hs44 (by omega) (by omega)
  exact lp3 (200 - (0 : Int32).toInt).toNat.succ (0 : Int32) v f hs (by omega) (by omega)

set_option maxRecDepth 100000 in
set_option maxHeartbeats 2000000 in
theorem c_X3_shortestBestEnd (hI : cw_I K nn dn q w e) (hs : cw_S v f) {o1 : Nat} (ho1 : cw_ro K o1) (x3 : Int32) (x4 : Int32) (p0 : 0 ≤ x3.toInt ∧ x3.toInt ≤ 160) : pm_Mt l g 147 2 0 0 [.ref (q 8), .ref (q o1), .ref (q 2), .int x3, .int x4] (cw A0 g K nn dn q w e v f) (cw_Qs A0 g K nn dn q w e (fun r v2 f2 => ∃ x : Int32, r = some (.int x) ∧ (-1 ≤ x.toInt ∧ x.toInt ≤ 159))) := by
  refine mt_X3_shortestBestEnd rfl (fun J hC => ?_)
  have ro_nn : cw_ro K nn := hI.2.1.2.1
  have ro_dn : cw_ro K dn := hI.2.1.2.2.1
  have hu1 := hI.2.1
  unfold cw_W at hu1
  have rg_x3 := pm_rng x3
  have rg_x4 := pm_rng x4
  have zz0 := cw_sz hI ho1
  show J 0 [some (.ref (q 8)), some (.ref (q o1)), some (.ref (q 2)), some (.int x3), some (.int x4), none, none] [] (cw A0 g K nn dn q w e v f) 0 0
  refine hC.1 0 0 _ _ rfl _ _ _ _ _ ?_
  refine pq_aload_n2 (pq_iv0_2 ?_)
  refine And.intro (Exists.intro _ (cw_o2 hI.1)) (Exists.intro _ (Exists.intro _ (Exists.intro _ (Exists.intro _ (And.intro (c_X2_clear hI hs  ) (And.intro rfl (fun r9 A9 h9 => ?_)))))))
  rcases h9 with ⟨v3, f3, rfl, hs3, rfl, by2⟩
  refine pq_id0 (pq_iload_n3 (pq_istore [some (.ref (q 8)), some (.ref (q o1)), some (.ref (q 2)), some (.int x3), some (.int x4), some (.int x3), none] rfl (pq_nil ?_)))
  have lp5 : ∀ (n : Nat) (z5_7 : Int32) (v4 : Nat → Int32) (f4 : Nat → Nat → Int32), cw_S v4 f4 → (0 ≤ z5_7.toInt ∧ z5_7.toInt ≤ 160) → 200 - z5_7.toInt < (n : Int) → J 7 [some (.ref (q 8)), some (.ref (q o1)), some (.ref (q 2)), some (.int x3), some (.int x4), some (.int z5_7), none] [] (cw A0 g K nn dn q w e v4 f4) 0 0 := by
    intro n
    induction n with
    | zero =>
      intro z5_7 v4 f4 hs4 j0_7 j1_7
      omega
    | succ n ih6 =>
      intro z5_7 v4 f4 hs4 j0_7 j1_7
      refine hC.1 1 7 _ _ rfl _ _ _ _ _ ?_
      refine pq_iload5 (pq_aload_n1 (qgr_3 hI.1 ho1 ?_))
      have z7 := cw_sz hI ho1
      refine pq_icmp_ge ?_
      refine And.intro (fun c8 => ?_) (fun c8 => ?_)
      · skip
        refine hC.1 3 73 _ _ rfl _ _ _ _ _ ?_
        have km1 : (-1 : Int32).toInt = -1 := rfl
        refine pq_iconst (pq_iret ?_)
        exact ⟨rfl, fun e9 => absurd e9 (by decide), rfl, v4, f4, rfl, hs4, (-1 : Int32), rfl, by first | omega | (dsimp only; omega) | trivial⟩
      · skip
        refine pq_aload_n2 (pq_aload_n1 (qgr_0 hI.1 ho1 (pq_iload5 (qlc_r1 hI.1 ho1 (by omega) ?_))))
        have w9 := cw_col hI ho1 (z5_7).toInt.toNat
        refine pq_iv1_2 ?_
        refine And.intro (Exists.intro _ (cw_o2 hI.1)) (Exists.intro _ (Exists.intro _ (Exists.intro _ (Exists.intro _ (And.intro (c_X2_take hI hs4 (e (o1 + 1) (z5_7).toInt.toNat) (by omega)) (And.intro rfl (fun r9 A9 h9 => ?_)))))))
        rcases h9 with ⟨v11, f11, rfl, hs11, rfl, by10⟩
        refine pq_id0 (pq_aload_n0 (pq_iload4 ?_))
        have k1 : (1 : Int32).toInt = 1 := rfl
        refine pq_iconst (pq_isub ?_)
        intro m12 em_31
        try have e12 : m12.toInt = (x4).toInt - (1) := by rw [em_31]; exact pm_subc _ _ (1) rfl (by omega) (by omega)
        refine pq_iload5 (pq_iconst (pq_iadd ?_))
        intro m13 em_35
        try have e13 : m13.toInt = (z5_7).toInt + (1) := by rw [em_35]; exact pm_addc _ _ (1) rfl (by omega) (by omega)
        refine pq_iv2_3 ?_
        refine And.intro (Exists.intro _ (cw_o8 hI.1)) (Exists.intro _ (Exists.intro _ (Exists.intro _ (Exists.intro _ (And.intro (c_X3_worthOf hI hs11 m12 m13 ) (And.intro rfl (fun r9 A9 h9 => ?_)))))))
        obtain ⟨y14, rfl, rfl, by14⟩ := h9
        refine pq_id1 (pq_istore [some (.ref (q 8)), some (.ref (q o1)), some (.ref (q 2)), some (.int x3), some (.int x4), some (.int z5_7), some (.int y14)] rfl (pq_iload6 ?_))
        have km1 : (-1 : Int32).toInt = -1 := rfl
        refine pq_iconst (pq_icmp_eq ?_)
        refine And.intro (fun c16 => ?_) (fun c16 => ?_)
        · skip
          have dc16 : (y14).toInt = ((-1 : Int32) : Int32).toInt := congrArg Int32.toInt c16
          refine hC.1 2 67 _ _ rfl _ _ _ _ _ ?_
          refine pq_iinc (fun zm_9 => [some (.ref (q 8)), some (.ref (q o1)), some (.ref (q 2)), some (.int x3), some (.int x4), some (.int zm_9), some (.int y14)]) rfl (fun _ => rfl) ?_
          intro m17 em_67
          try have e17 : m17.toInt = (z5_7).toInt + (1) := by rw [em_67]; exact pm_addc _ _ (1) rfl (by omega) (by omega)
          refine pq_goto ?_
          exact hC.2 [false, false, false, false, false, false, true] _ _ _ _ _ _ (ih6 m17 v11 f11 hs11 (by omega) (by omega))
        · skip
          have dc16 := pm_neI c16
          refine pq_aload_n2 (qgc_2_3 hI.1 (pq_iload6 (pq_iadd ?_)))
          intro m18 em_53
          try have e18 : m18.toInt = ((v11 2)).toInt + (y14).toInt := by rw [em_53]; exact pm_add _ _ (by omega) (by omega)
          refine pq_aload_n0 (pq_iload4 (pq_iload_n3 (pq_iv2_3 ?_)))
          refine And.intro (Exists.intro _ (cw_o8 hI.1)) (Exists.intro _ (Exists.intro _ (Exists.intro _ (Exists.intro _ (And.intro (c_X3_worthOf hI hs11 x4 x3 ) (And.intro rfl (fun r9 A9 h9 => ?_)))))))
          obtain ⟨y19, rfl, rfl, by19⟩ := h9
          refine pq_id1 (pq_icmp_ne ?_)
          refine And.intro (fun c21 => ?_) (fun c21 => ?_)
          · skip
            have dc21 := pm_neI c21
            refine hC.1 2 67 _ _ rfl _ _ _ _ _ ?_
            refine pq_iinc (fun zm_9 => [some (.ref (q 8)), some (.ref (q o1)), some (.ref (q 2)), some (.int x3), some (.int x4), some (.int zm_9), some (.int y14)]) rfl (fun _ => rfl) ?_
            intro m22 em_67
            try have e22 : m22.toInt = (z5_7).toInt + (1) := by rw [em_67]; exact pm_addc _ _ (1) rfl (by omega) (by omega)
            refine pq_goto ?_
            exact hC.2 [false, false, false, false, false, false, true] _ _ _ _ _ _ (ih6 m22 v11 f11 hs11 (by omega) (by omega))
          · skip
            have dc21 : (m18).toInt = (y19 : Int32).toInt := congrArg Int32.toInt c21
            refine pq_iload5 (pq_iret ?_)
            exact ⟨rfl, fun e9 => absurd e9 (by decide), rfl, v11, f11, rfl, hs11, z5_7, rfl, by first | omega | (dsimp only; omega) | trivial⟩
  exact lp5 (200 - x3.toInt).toNat.succ x3 v3 f3 hs3 (by omega) (by omega)

set_option maxRecDepth 100000 in
set_option maxHeartbeats 2000000 in
theorem c_X3_lastPlaceOf (hI : cw_I K nn dn q w e) (hs : cw_S v f) {o1 : Nat} (ho1 : cw_ro K o1) (x3 : Int32) (x4 : Int32) (p0 : 0 ≤ x4.toInt ∧ x4.toInt ≤ 8) : pm_Mt l g 146 3 0 0 [.ref (q 8), .ref (q o1), .ref (q 2), .int x3, .int x4] (cw A0 g K nn dn q w e v f) (cw_Qs A0 g K nn dn q w e (fun r v2 f2 => ∃ x : Int32, r = some (.int x) ∧ (True))) := by
  refine mt_X3_lastPlaceOf rfl (fun J hC => ?_)
  have ro_nn : cw_ro K nn := hI.2.1.2.1
  have ro_dn : cw_ro K dn := hI.2.1.2.2.1
  have hu1 := hI.2.1
  unfold cw_W at hu1
  have rg_x3 := pm_rng x3
  have rg_x4 := pm_rng x4
  show J 0 [some (.ref (q 8)), some (.ref (q o1)), some (.ref (q 2)), some (.int x3), some (.int x4), none, none] [] (cw A0 g K nn dn q w e v f) 0 0
  refine hC.1 0 0 _ _ rfl _ _ _ _ _ ?_
  have km1 : (-1 : Int32).toInt = -1 := rfl
  refine pq_iconst (pq_istore [some (.ref (q 8)), some (.ref (q o1)), some (.ref (q 2)), some (.int x3), some (.int x4), some (.int (-1 : Int32)), none] rfl ?_)
  have k0 : (0 : Int32).toInt = 0 := rfl
  refine pq_iconst (pq_istore [some (.ref (q 8)), some (.ref (q o1)), some (.ref (q 2)), some (.int x3), some (.int x4), some (.int (-1 : Int32)), some (.int (0 : Int32))] rfl (pq_nil ?_))
  have lp3 : ∀ (n : Nat) (z5_6 : Int32) (z6_6 : Int32) (v2 : Nat → Int32) (f2 : Nat → Nat → Int32), cw_S v2 f2 → (-1 ≤ z5_6.toInt ∧ z5_6.toInt ≤ 159) → (0 ≤ z6_6.toInt ∧ z6_6.toInt ≤ 9) → 200 - z6_6.toInt < (n : Int) → J 6 [some (.ref (q 8)), some (.ref (q o1)), some (.ref (q 2)), some (.int x3), some (.int x4), some (.int z5_6), some (.int z6_6)] [] (cw A0 g K nn dn q w e v2 f2) 0 0 := by
    intro n
    induction n with
    | zero =>
      intro z5_6 z6_6 v2 f2 hs2 j0_6 j1_6 j2_6
      omega
    | succ n ih4 =>
      intro z5_6 z6_6 v2 f2 hs2 j0_6 j1_6 j2_6
      refine hC.1 1 6 _ _ rfl _ _ _ _ _ ?_
      refine pq_iload6 (pq_iload4 (pq_icmp_gt ?_))
      refine And.intro (fun c5 => ?_) (fun c5 => ?_)
      · skip
        refine hC.1 2 35 _ _ rfl _ _ _ _ _ ?_
        refine pq_iload5 (pq_iret ?_)
        exact ⟨rfl, fun e9 => absurd e9 (by decide), rfl, v2, f2, rfl, hs2, z5_6, rfl, by exact True.intro⟩
      · skip
        refine pq_aload_n0 (pq_aload_n1 (pq_aload_n2 (pq_iload5 ?_)))
        have k1 : (1 : Int32).toInt = 1 := rfl
        refine pq_iconst (pq_iadd ?_)
        intro m6 em_19
        try have e6 : m6.toInt = (z5_6).toInt + (1) := by rw [em_19]; exact pm_addc _ _ (1) rfl (by omega) (by omega)
        refine pq_iload_n3 (pq_iload6 (pq_isub ?_))
        intro m7 em_23
        try have e7 : m7.toInt = (x3).toInt - (z6_6).toInt := by rw [em_23]; exact pm_sub _ _ (by omega) (by omega)
        refine pq_iv4_3 ?_
        refine And.intro (Exists.intro _ (cw_o8 hI.1)) (Exists.intro _ (Exists.intro _ (Exists.intro _ (Exists.intro _ (And.intro (c_X3_shortestBestEnd hI hs2 ho1 m6 m7 (by omega)) (And.intro rfl (fun r9 A9 h9 => ?_)))))))
        rcases h9 with ⟨v9, f9, rfl, hs9, y8, rfl, by8⟩
        refine pq_id1 (pq_istore [some (.ref (q 8)), some (.ref (q o1)), some (.ref (q 2)), some (.int x3), some (.int x4), some (.int y8), some (.int z6_6)] rfl (pq_iinc (fun zm_9 => [some (.ref (q 8)), some (.ref (q o1)), some (.ref (q 2)), some (.int x3), some (.int x4), some (.int y8), some (.int zm_9)]) rfl (fun _ => rfl) ?_))
        intro m10 em_29
        try have e10 : m10.toInt = (z6_6).toInt + (1) := by rw [em_29]; exact pm_addc _ _ (1) rfl (by omega) (by omega)
        refine pq_goto ?_
        exact ih4 y8 m10 v9 f9 hs9 (by omega) (by omega) (by omega)
  exact lp3 (200 - (0 : Int32).toInt).toNat.succ (-1 : Int32) (0 : Int32) v f hs (by omega) (by omega) (by omega)

set_option maxRecDepth 100000 in
set_option maxHeartbeats 2000000 in
theorem c_X3_greedy (hI : cw_I K nn dn q w e) (hs : cw_S v f) {o1 : Nat} (ho1 : cw_ro K o1) (x3 : Int32) (x4 : Int32)  : pm_Mt l g 142 2 0 0 [.ref (q 8), .ref (q o1), .ref (q 2), .int x3, .int x4] (cw A0 g K nn dn q w e v f) (cw_Qs A0 g K nn dn q w e (fun r v2 f2 => ∃ x : Int32, r = some (.int x) ∧ (True))) := by
  refine mt_X3_greedy rfl (fun J hC => ?_)
  have ro_nn : cw_ro K nn := hI.2.1.2.1
  have ro_dn : cw_ro K dn := hI.2.1.2.2.1
  have hu1 := hI.2.1
  unfold cw_W at hu1
  have rg_x3 := pm_rng x3
  have rg_x4 := pm_rng x4
  have zz0 := cw_sz hI ho1
  show J 0 [some (.ref (q 8)), some (.ref (q o1)), some (.ref (q 2)), some (.int x3), some (.int x4), none, none] [] (cw A0 g K nn dn q w e v f) 0 0
  refine hC.1 0 0 _ _ rfl _ _ _ _ _ ?_
  refine pq_aload_n2 (pq_iv0_2 ?_)
  refine And.intro (Exists.intro _ (cw_o2 hI.1)) (Exists.intro _ (Exists.intro _ (Exists.intro _ (Exists.intro _ (And.intro (c_X2_clear hI hs  ) (And.intro rfl (fun r9 A9 h9 => ?_)))))))
  rcases h9 with ⟨v3, f3, rfl, hs3, rfl, by2⟩
  refine pq_id0 ?_
  have k0 : (0 : Int32).toInt = 0 := rfl
  refine pq_iconst (pq_istore [some (.ref (q 8)), some (.ref (q o1)), some (.ref (q 2)), some (.int x3), some (.int x4), some (.int (0 : Int32)), none] rfl (pq_iconst (pq_istore [some (.ref (q 8)), some (.ref (q o1)), some (.ref (q 2)), some (.int x3), some (.int x4), some (.int (0 : Int32)), some (.int (0 : Int32))] rfl (pq_nil ?_))))
  have lp5 : ∀ (n : Nat) (z5_10 : Int32) (z6_10 : Int32) (v4 : Nat → Int32) (f4 : Nat → Nat → Int32), cw_S v4 f4 → (0 ≤ z6_10.toInt ∧ z6_10.toInt ≤ 160) → 200 - z6_10.toInt < (n : Int) → J 10 [some (.ref (q 8)), some (.ref (q o1)), some (.ref (q 2)), some (.int x3), some (.int x4), some (.int z5_10), some (.int z6_10)] [] (cw A0 g K nn dn q w e v4 f4) 0 0 := by
    intro n
    induction n with
    | zero =>
      intro z5_10 z6_10 v4 f4 hs4 j0_10 j1_10
      omega
    | succ n ih6 =>
      intro z5_10 z6_10 v4 f4 hs4 j0_10 j1_10
      refine hC.1 1 10 _ _ rfl _ _ _ _ _ ?_
      refine pq_iload6 (pq_aload_n1 (qgr_3 hI.1 ho1 ?_))
      have z7 := cw_sz hI ho1
      refine pq_icmp_ge ?_
      refine And.intro (fun c8 => ?_) (fun c8 => ?_)
      · skip
        refine hC.1 4 74 _ _ rfl _ _ _ _ _ ?_
        refine pq_iload4 ?_
        have km1 : (-1 : Int32).toInt = -1 := rfl
        refine pq_iconst (pq_icmp_ne ?_)
        refine And.intro (fun c9 => ?_) (fun c9 => ?_)
        · skip
          have dc9 := pm_neI c9
          refine hC.1 7 96 _ _ rfl _ _ _ _ _ ?_
          refine pq_iload5 (pq_iload4 (pq_icmp_ne ?_))
          refine And.intro (fun c10 => ?_) (fun c10 => ?_)
          · skip
            have dc10 := pm_neI c10
            refine hC.1 8 112 _ _ rfl _ _ _ _ _ ?_
            refine pq_iconst (pq_nil ?_)
            refine hC.1 9 113 _ _ rfl _ _ _ _ _ ?_
            refine pq_iret ?_
            exact ⟨rfl, fun e9 => absurd e9 (by decide), rfl, v4, f4, rfl, hs4, (-1 : Int32), rfl, by exact True.intro⟩
          · skip
            have dc10 : (z5_10).toInt = (x4 : Int32).toInt := congrArg Int32.toInt c10
            refine pq_aload_n1 (qgr_3 hI.1 ho1 ?_)
            have z11 := cw_sz hI ho1
            have k1 : (1 : Int32).toInt = 1 := rfl
            refine pq_iconst (pq_isub ?_)
            intro m12 em_108
            try have e12 : m12.toInt = ((w o1)).toInt - (1) := by rw [em_108]; exact pm_subc _ _ (1) rfl (by omega) (by omega)
            refine pq_goto ?_
            refine hC.1 9 113 _ _ rfl _ _ _ _ _ ?_
            refine pq_iret ?_
            exact ⟨rfl, fun e9 => absurd e9 (by decide), rfl, v4, f4, rfl, hs4, m12, rfl, by exact True.intro⟩
        · skip
          have dc9 : (x4).toInt = ((-1 : Int32) : Int32).toInt := congrArg Int32.toInt c9
          refine pq_aload_n1 (qgr_3 hI.1 ho1 ?_)
          have z13 := cw_sz hI ho1
          refine pq_icond_ne ?_
          refine And.intro (fun c14 => ?_) (fun c14 => ?_)
          · skip
            have dc14 := pm_neI c14
            refine hC.1 5 91 _ _ rfl _ _ _ _ _ ?_
            refine pq_iload5 ?_
            have k1 : (1 : Int32).toInt = 1 := rfl
            refine pq_iconst (pq_iadd ?_)
            intro m15 em_94
            try have e15 : m15.toInt = (z5_10).toInt + (1) := by rw [em_94]; exact pm_addc _ _ (1) rfl (by omega) (by omega)
            refine pq_nil ?_
            refine hC.1 6 95 _ _ rfl _ _ _ _ _ ?_
            refine pq_iret ?_
            exact ⟨rfl, fun e9 => absurd e9 (by decide), rfl, v4, f4, rfl, hs4, m15, rfl, by exact True.intro⟩
          · skip
            have dc14 : ((w o1)).toInt = (0 : Int32).toInt := congrArg Int32.toInt c14
            refine pq_iconst (pq_goto ?_)
            refine hC.1 6 95 _ _ rfl _ _ _ _ _ ?_
            refine pq_iret ?_
            exact ⟨rfl, fun e9 => absurd e9 (by decide), rfl, v4, f4, rfl, hs4, (0 : Int32), rfl, by exact True.intro⟩
      · skip
        refine pq_aload_n2 (pq_aload_n1 (qgr_0 hI.1 ho1 (pq_iload6 (qlc_r1 hI.1 ho1 (by omega) ?_))))
        have w16 := cw_col hI ho1 (z6_10).toInt.toNat
        refine pq_iv1_2 ?_
        refine And.intro (Exists.intro _ (cw_o2 hI.1)) (Exists.intro _ (Exists.intro _ (Exists.intro _ (Exists.intro _ (And.intro (c_X2_take hI hs4 (e (o1 + 1) (z6_10).toInt.toNat) (by omega)) (And.intro rfl (fun r9 A9 h9 => ?_)))))))
        rcases h9 with ⟨v18, f18, rfl, hs18, rfl, by17⟩
        refine pq_id0 (pq_aload_n2 (qgc_2_3 hI.1 (pq_iload_n3 (pq_icmp_le ?_))))
        refine And.intro (fun c19 => ?_) (fun c19 => ?_)
        · skip
          refine hC.1 3 68 _ _ rfl _ _ _ _ _ ?_
          have k1 : (1 : Int32).toInt = 1 := rfl
          refine pq_iinc (fun zm_9 => [some (.ref (q 8)), some (.ref (q o1)), some (.ref (q 2)), some (.int x3), some (.int x4), some (.int z5_10), some (.int zm_9)]) rfl (fun _ => rfl) ?_
          intro m20 em_68
          try have e20 : m20.toInt = (z6_10).toInt + (1) := by rw [em_68]; exact pm_addc _ _ (1) rfl (by omega) (by omega)
          refine pq_goto ?_
          exact ih6 z5_10 m20 v18 f18 hs18 (by omega) (by omega)
        · skip
          refine pq_iload5 (pq_iload4 (pq_icmp_ne ?_))
          refine And.intro (fun c21 => ?_) (fun c21 => ?_)
          · skip
            have dc21 := pm_neI c21
            refine hC.1 2 50 _ _ rfl _ _ _ _ _ ?_
            have k1 : (1 : Int32).toInt = 1 := rfl
            refine pq_iinc (fun zm_9 => [some (.ref (q 8)), some (.ref (q o1)), some (.ref (q 2)), some (.int x3), some (.int x4), some (.int zm_9), some (.int z6_10)]) rfl (fun _ => rfl) ?_
            intro m22 em_50
            try have e22 : m22.toInt = (z5_10).toInt + (1) := by rw [em_50]; exact pm_addc _ _ (1) rfl (by omega) (by omega)
            refine pq_aload_n2 (pq_iv0_2 ?_)
            refine And.intro (Exists.intro _ (cw_o2 hI.1)) (Exists.intro _ (Exists.intro _ (Exists.intro _ (Exists.intro _ (And.intro (c_X2_clear hI hs18  ) (And.intro rfl (fun r9 A9 h9 => ?_)))))))
            rcases h9 with ⟨v24, f24, rfl, hs24, rfl, by23⟩
            refine pq_id0 (pq_aload_n2 (pq_aload_n1 (qgr_0 hI.1 ho1 (pq_iload6 (qlc_r1 hI.1 ho1 (by omega) ?_)))))
            have w25 := cw_col hI ho1 (z6_10).toInt.toNat
            refine pq_iv1_2 ?_
            refine And.intro (Exists.intro _ (cw_o2 hI.1)) (Exists.intro _ (Exists.intro _ (Exists.intro _ (Exists.intro _ (And.intro (c_X2_take hI hs24 (e (o1 + 1) (z6_10).toInt.toNat) (by omega)) (And.intro rfl (fun r9 A9 h9 => ?_)))))))
            rcases h9 with ⟨v27, f27, rfl, hs27, rfl, by26⟩
            refine pq_id0 (pq_nil ?_)
            refine hC.1 3 68 _ _ rfl _ _ _ _ _ ?_
            refine pq_iinc (fun zm_9 => [some (.ref (q 8)), some (.ref (q o1)), some (.ref (q 2)), some (.int x3), some (.int x4), some (.int m22), some (.int zm_9)]) rfl (fun _ => rfl) ?_
            intro m28 em_68
            try have e28 : m28.toInt = (z6_10).toInt + (1) := by rw [em_68]; exact pm_addc _ _ (1) rfl (by omega) (by omega)
            refine pq_goto ?_
            exact ih6 m22 m28 v27 f27 hs27 (by omega) (by omega)
          · skip
            have dc21 : (z5_10).toInt = (x4 : Int32).toInt := congrArg Int32.toInt c21
            refine pq_iload6 ?_
            have k1 : (1 : Int32).toInt = 1 := rfl
            refine pq_iconst (pq_isub ?_)
            intro m29 em_48
            try have e29 : m29.toInt = (z6_10).toInt - (1) := by rw [em_48]; exact pm_subc _ _ (1) rfl (by omega) (by omega)
            refine pq_iret ?_
            exact ⟨rfl, fun e9 => absurd e9 (by decide), rfl, v18, f18, rfl, hs18, m29, rfl, by exact True.intro⟩
  exact lp5 (200 - (0 : Int32).toInt).toNat.succ (0 : Int32) (0 : Int32) v3 f3 hs3 (by omega) (by omega)

end
end
section
section
variable {l : Launch} {g : pm_G} {A0 : pm_H} {K nn dn : Nat} {q : Nat → Nat} {w : Nat → Int32} {e : Nat → Nat → Int32} {v : Nat → Int32} {f : Nat → Nat → Int32}
set_option maxRecDepth 100000 in
set_option maxHeartbeats 2000000 in
theorem c_X5_tell (hI : cw_I K nn dn q w e) (hs : cw_S v f) (x1 : Int32) (x2 : Int32)  : pm_Mt l g 164 0 0 0 [.ref (q 9), .int x1, .int x2] (cw A0 g K nn dn q w e v f) (md_Qp (cw A0 g K nn dn q w e v f) (fun r => True)) := by
  refine mt_X5_tell rfl (fun J hC => ?_)
  have ro_nn : cw_ro K nn := hI.2.1.2.1
  have ro_dn : cw_ro K dn := hI.2.1.2.2.1
  have hu1 := hI.2.1
  unfold cw_W at hu1
  have rg_x1 := pm_rng x1
  have rg_x2 := pm_rng x2
  show J 0 [some (.ref (q 9)), some (.int x1), some (.int x2)] [] (cw A0 g K nn dn q w e v f) 0 0
  refine hC.1 0 0 _ _ rfl _ _ _ _ _ ?_
  refine pq_iload_n1 (pq_icond_lt ?_)
  refine And.intro (fun c2 => ?_) (fun c2 => ?_)
  · skip
    refine hC.1 1 12 _ _ rfl _ _ _ _ _ ?_
    have km1 : (-1 : Int32).toInt = -1 := rfl
    refine pq_iconst (pq_iret ?_)
    exact ⟨rfl, fun e9 => absurd e9 (by decide), rfl, (-1 : Int32), rfl, rfl, by exact True.intro⟩
  · skip
    refine pq_iload_n1 (pq_aload_n0 (qgc_9_5 hI.1 (pq_icmp_lt ?_)))
    refine And.intro (fun c3 => ?_) (fun c3 => ?_)
    · skip
      refine hC.1 2 14 _ _ rfl _ _ _ _ _ ?_
      refine pq_iload_n2 (pq_ts ?_)
      refine pm_swc 5 rfl (by decide) ?_ ?_
      · intro _
        refine hC.1 8 83 _ _ rfl _ _ _ _ _ ?_
        have km1 : (-1 : Int32).toInt = -1 := rfl
        refine pq_iconst (pq_iret ?_)
        exact ⟨rfl, fun e9 => absurd e9 (by decide), rfl, (-1 : Int32), rfl, rfl, by exact True.intro⟩
      · intro i9 hi9 he9
        rcases (show i9 = 0 ∨ i9 = 1 ∨ i9 = 2 ∨ i9 = 3 ∨ i9 = 4 by omega) with rfl | rfl | rfl | rfl | rfl
        · skip
          refine hC.1 3 48 _ _ rfl _ _ _ _ _ ?_
          refine pq_aload_n0 (qgc_9_2 hI.1 (pq_iload_n1 (qlc_37 hI.1 (by omega) (pq_iret ?_))))
          exact ⟨rfl, fun e9 => absurd e9 (by decide), rfl, (e 37 (x1).toInt.toNat), rfl, rfl, by exact True.intro⟩
        · skip
          refine hC.1 4 55 _ _ rfl _ _ _ _ _ ?_
          refine pq_aload_n0 (qgc_9_3 hI.1 (pq_iload_n1 (qlc_38 hI.1 (by omega) (pq_iret ?_))))
          exact ⟨rfl, fun e9 => absurd e9 (by decide), rfl, (e 38 (x1).toInt.toNat), rfl, rfl, by exact True.intro⟩
        · skip
          refine hC.1 5 62 _ _ rfl _ _ _ _ _ ?_
          refine pq_aload_n0 (qgc_9_0 hI.1 (pq_iload_n1 (qlc_35 hI.1 (by omega) (pq_iret ?_))))
          exact ⟨rfl, fun e9 => absurd e9 (by decide), rfl, (e 35 (x1).toInt.toNat), rfl, rfl, by exact True.intro⟩
        · skip
          refine hC.1 6 69 _ _ rfl _ _ _ _ _ ?_
          refine pq_aload_n0 (qgc_9_1 hI.1 (pq_iload_n1 (qlc_36 hI.1 (by omega) (pq_iret ?_))))
          exact ⟨rfl, fun e9 => absurd e9 (by decide), rfl, (e 36 (x1).toInt.toNat), rfl, rfl, by exact True.intro⟩
        · skip
          refine hC.1 7 76 _ _ rfl _ _ _ _ _ ?_
          refine pq_aload_n0 (qgc_9_4 hI.1 (pq_iload_n1 (qlc_39 hI.1 (by omega) (pq_iret ?_))))
          exact ⟨rfl, fun e9 => absurd e9 (by decide), rfl, (e 39 (x1).toInt.toNat), rfl, rfl, by exact True.intro⟩
    · skip
      refine pq_nil ?_
      refine hC.1 1 12 _ _ rfl _ _ _ _ _ ?_
      have km1 : (-1 : Int32).toInt = -1 := rfl
      refine pq_iconst (pq_iret ?_)
      exact ⟨rfl, fun e9 => absurd e9 (by decide), rfl, (-1 : Int32), rfl, rfl, by exact True.intro⟩

end
end
section
section
variable {l : Launch} {g : pm_G} {A0 : pm_H} {K nn dn : Nat} {q : Nat → Nat} {w : Nat → Int32} {e : Nat → Nat → Int32} {v : Nat → Int32} {f : Nat → Nat → Int32}
set_option maxRecDepth 100000 in
set_option maxHeartbeats 2000000 in
theorem c_X10_at (hI : cw_I K nn dn q w e) (hs : cw_S v f) (x1 : Int32) (x2 : Int32)  : pm_Mt l g 42 4 0 0 [.ref (q 0), .int x1, .int x2] (cw A0 g K nn dn q w e v f) (md_Qp (cw A0 g K nn dn q w e v f) (fun r => True)) := by
  refine mt_X10_at rfl (fun J hC => ?_)
  have ro_nn : cw_ro K nn := hI.2.1.2.1
  have ro_dn : cw_ro K dn := hI.2.1.2.2.1
  have hu1 := hI.2.1
  unfold cw_W at hu1
  have rg_x1 := pm_rng x1
  have rg_x2 := pm_rng x2
  have zz0 := cw_sz hI ro_nn
  show J 0 [some (.ref (q 0)), some (.int x1), some (.int x2), none] [] (cw A0 g K nn dn q w e v f) 0 0
  refine hC.1 0 0 _ _ rfl _ _ _ _ _ ?_
  refine pq_aload_n0 (qgc_0_0 hI.1 (qgc_1_4 hI.1 (pq_astore_n [some (.ref (q 0)), some (.int x1), some (.int x2), some (.ref (q nn))] rfl (pq_iload_n2 ?_))))
  have k3 : (3 : Int32).toInt = 3 := rfl
  refine pq_iconst (pq_icmp_ne ?_)
  refine And.intro (fun c2 => ?_) (fun c2 => ?_)
  · skip
    have dc2 := pm_neI c2
    refine hC.1 1 25 _ _ rfl _ _ _ _ _ ?_
    refine pq_aload_n3 (pq_iload_n1 (pq_iload_n2 (pq_iv2_7 ?_)))
    refine And.intro (Exists.intro _ (cw_ro_o hI.1 ro_nn)) (Exists.intro _ (Exists.intro _ (Exists.intro _ (Exists.intro _ (And.intro (c_X7_tell hI hs ro_nn x1 x2 ) (And.intro rfl (fun r9 A9 h9 => ?_)))))))
    obtain ⟨y3, rfl, rfl, by3⟩ := h9
    refine pq_id1 (pq_nil ?_)
    refine hC.1 2 31 _ _ rfl _ _ _ _ _ ?_
    refine pq_iret ?_
    exact ⟨rfl, fun e9 => absurd e9 (by decide), rfl, y3, rfl, rfl, by exact True.intro⟩
  · skip
    have dc2 : (x2).toInt = ((3 : Int32) : Int32).toInt := congrArg Int32.toInt c2
    refine pq_aload_n3 (pq_aload_n3 (pq_iload_n1 (pq_iv1_7 ?_)))
    refine And.intro (Exists.intro _ (cw_ro_o hI.1 ro_nn)) (Exists.intro _ (Exists.intro _ (Exists.intro _ (Exists.intro _ (And.intro (c_X7_nextAlike hI hs ro_nn x1 ) (And.intro rfl (fun r9 A9 h9 => ?_)))))))
    obtain ⟨y5, rfl, rfl, by5⟩ := h9
    refine pq_id1 (pq_iv1_7 ?_)
    refine And.intro (Exists.intro _ (cw_ro_o hI.1 ro_nn)) (Exists.intro _ (Exists.intro _ (Exists.intro _ (Exists.intro _ (And.intro (c_X7_nameAt hI hs ro_nn y5 ) (And.intro rfl (fun r9 A9 h9 => ?_)))))))
    obtain ⟨y7, rfl, rfl, by7⟩ := h9
    refine pq_id1 (pq_goto ?_)
    refine hC.1 2 31 _ _ rfl _ _ _ _ _ ?_
    refine pq_iret ?_
    exact ⟨rfl, fun e9 => absurd e9 (by decide), rfl, y7, rfl, rfl, by exact True.intro⟩

set_option maxRecDepth 100000 in
set_option maxHeartbeats 2000000 in
theorem c_X10_colour (hI : cw_I K nn dn q w e) (hs : cw_S v f) (x1 : Int32) (x2 : Int32)  : pm_Mt l g 47 2 0 0 [.ref (q 0), .int x1, .int x2] (cw A0 g K nn dn q w e v f) (md_Qp (cw A0 g K nn dn q w e v f) (fun r => True)) := by
  refine mt_X10_colour rfl (fun J hC => ?_)
  have ro_nn : cw_ro K nn := hI.2.1.2.1
  have ro_dn : cw_ro K dn := hI.2.1.2.2.1
  have hu1 := hI.2.1
  unfold cw_W at hu1
  have rg_x1 := pm_rng x1
  have rg_x2 := pm_rng x2
  have zz0 := cw_sz hI ro_nn
  show J 0 [some (.ref (q 0)), some (.int x1), some (.int x2), none] [] (cw A0 g K nn dn q w e v f) 0 0
  refine hC.1 0 0 _ _ rfl _ _ _ _ _ ?_
  refine pq_iload_n1 (pq_is1 ?_)
  refine Exists.intro _ (Exists.intro _ (Exists.intro _ (Exists.intro _ (And.intro (c_X10_isColour (cw A0 g K nn dn q w e v f) x1 ) (And.intro rfl (fun r9 A9 h9 => ?_))))))
  rcases h9 with ⟨y2, rfl, rfl, ⟨rfl, by2⟩ | ⟨rfl, by2⟩⟩
  · skip
    have k1 : (1 : Int32).toInt = 1 := rfl
    refine pq_id1 (pq_icond_ne ?_)
    refine And.intro (fun _ => ?_) (fun c9 => absurd c9 (by decide))
    refine hC.1 1 9 _ _ rfl _ _ _ _ _ ?_
    refine pq_aload_n0 (qgc_0_0 hI.1 (qgc_1_4 hI.1 (pq_astore_n [some (.ref (q 0)), some (.int x1), some (.int x2), some (.ref (q nn))] rfl (pq_iload_n2 (pq_ts ?_)))))
    refine pm_swc 5 rfl (by decide) ?_ ?_
    · intro _
      refine hC.1 7 94 _ _ rfl _ _ _ _ _ ?_
      have km1 : (-1 : Int32).toInt = -1 := rfl
      refine pq_iconst (pq_iret ?_)
      exact ⟨rfl, fun e9 => absurd e9 (by decide), rfl, (-1 : Int32), rfl, rfl, by exact True.intro⟩
    · intro i9 hi9 he9
      rcases (show i9 = 0 ∨ i9 = 1 ∨ i9 = 2 ∨ i9 = 3 ∨ i9 = 4 by omega) with rfl | rfl | rfl | rfl | rfl
      · skip
        refine hC.1 2 52 _ _ rfl _ _ _ _ _ ?_
        refine pq_aload_n3 (pq_iload_n1 (pq_iv1_7 ?_))
        refine And.intro (Exists.intro _ (cw_ro_o hI.1 ro_nn)) (Exists.intro _ (Exists.intro _ (Exists.intro _ (Exists.intro _ (And.intro (c_X7_howMany hI hs ro_nn x1 ) (And.intro rfl (fun r9 A9 h9 => ?_)))))))
        obtain ⟨y6, rfl, rfl, by6⟩ := h9
        refine pq_id1 (pq_iret ?_)
        exact ⟨rfl, fun e9 => absurd e9 (by decide), rfl, y6, rfl, rfl, by exact True.intro⟩
      · skip
        refine hC.1 3 58 _ _ rfl _ _ _ _ _ ?_
        refine pq_aload_n0 (qgc_0_1 hI.1 (qgc_2_1 hI.1 (pq_iload_n1 (qlc_15 hI.1 (by omega) (pq_iret ?_)))))
        exact ⟨rfl, fun e9 => absurd e9 (by decide), rfl, (e 15 (x1).toInt.toNat), rfl, rfl, by exact True.intro⟩
      · skip
        refine hC.1 4 68 _ _ rfl _ _ _ _ _ ?_
        refine pq_aload_n3 (pq_iload_n1 ?_)
        have k0 : (0 : Int32).toInt = 0 := rfl
        refine pq_iconst (pq_iv2_7 ?_)
        refine And.intro (Exists.intro _ (cw_ro_o hI.1 ro_nn)) (Exists.intro _ (Exists.intro _ (Exists.intro _ (Exists.intro _ (And.intro (c_X7_placeOfNth hI hs ro_nn x1 (0 : Int32) ) (And.intro rfl (fun r9 A9 h9 => ?_)))))))
        obtain ⟨y8, rfl, rfl, by8⟩ := h9
        refine pq_id1 (pq_iret ?_)
        exact ⟨rfl, fun e9 => absurd e9 (by decide), rfl, y8, rfl, rfl, by exact True.intro⟩
      · skip
        refine hC.1 5 75 _ _ rfl _ _ _ _ _ ?_
        refine pq_aload_n3 (pq_iload_n1 (pq_aload_n3 (pq_iload_n1 (pq_iv1_7 ?_))))
        refine And.intro (Exists.intro _ (cw_ro_o hI.1 ro_nn)) (Exists.intro _ (Exists.intro _ (Exists.intro _ (Exists.intro _ (And.intro (c_X7_howMany hI hs ro_nn x1 ) (And.intro rfl (fun r9 A9 h9 => ?_)))))))
        obtain ⟨y10, rfl, rfl, by10⟩ := h9
        refine pq_id1 (pq_iconst (pq_isub ?_))
        intro m12 em_83
        try have e12 : m12.toInt = (y10).toInt - (1) := by rw [em_83]; exact pm_subc _ _ (1) rfl (by omega) (by omega)
        refine pq_iv2_7 ?_
        refine And.intro (Exists.intro _ (cw_ro_o hI.1 ro_nn)) (Exists.intro _ (Exists.intro _ (Exists.intro _ (Exists.intro _ (And.intro (c_X7_placeOfNth hI hs ro_nn x1 m12 ) (And.intro rfl (fun r9 A9 h9 => ?_)))))))
        obtain ⟨y13, rfl, rfl, by13⟩ := h9
        refine pq_id1 (pq_iret ?_)
        exact ⟨rfl, fun e9 => absurd e9 (by decide), rfl, y13, rfl, rfl, by exact True.intro⟩
      · skip
        refine hC.1 6 88 _ _ rfl _ _ _ _ _ ?_
        refine pq_aload_n3 (pq_iload_n1 (pq_iv1_7 ?_))
        refine And.intro (Exists.intro _ (cw_ro_o hI.1 ro_nn)) (Exists.intro _ (Exists.intro _ (Exists.intro _ (Exists.intro _ (And.intro (c_X7_widestGap hI hs ro_nn x1 ) (And.intro rfl (fun r9 A9 h9 => ?_)))))))
        obtain ⟨y15, rfl, rfl, by15⟩ := h9
        refine pq_id1 (pq_iret ?_)
        exact ⟨rfl, fun e9 => absurd e9 (by decide), rfl, y15, rfl, rfl, by exact True.intro⟩
  · skip
    have k0 : (0 : Int32).toInt = 0 := rfl
    refine pq_id1 (pq_icond_ne ?_)
    refine And.intro (fun c9 => absurd c9 (by decide)) (fun _ => ?_)
    have km1 : (-1 : Int32).toInt = -1 := rfl
    refine pq_iconst (pq_iret ?_)
    exact ⟨rfl, fun e9 => absurd e9 (by decide), rfl, (-1 : Int32), rfl, rfl, by exact True.intro⟩

set_option maxRecDepth 100000 in
set_option maxHeartbeats 2000000 in
theorem c_X10_colourNumber (hI : cw_I K nn dn q w e) (hs : cw_S v f) {o1 : Nat} (ho1 : cw_ro K o1) (x2 : Int32) (x3 : Int32)  : pm_Mt l g 54 3 0 0 [.ref (q 0), .ref (q o1), .int x2, .int x3] (cw A0 g K nn dn q w e v f) (cw_Qs A0 g K nn dn q w e (fun r v2 f2 => ∃ x : Int32, r = some (.int x) ∧ (True))) := by
  refine mt_X10_colourNumber rfl (fun J hC => ?_)
  have ro_nn : cw_ro K nn := hI.2.1.2.1
  have ro_dn : cw_ro K dn := hI.2.1.2.2.1
  have hu1 := hI.2.1
  unfold cw_W at hu1
  have rg_x2 := pm_rng x2
  have rg_x3 := pm_rng x3
  show J 0 [some (.ref (q 0)), some (.ref (q o1)), some (.int x2), some (.int x3)] [] (cw A0 g K nn dn q w e v f) 0 0
  refine hC.1 0 0 _ _ rfl _ _ _ _ _ ?_
  refine pq_aload_n0 (qgc_0_1 hI.1 (pq_aload_n1 (pq_iload_n2 (pq_iload_n3 (pq_iv3_2 ?_)))))
  refine And.intro (Exists.intro _ (cw_o2 hI.1)) (Exists.intro _ (Exists.intro _ (Exists.intro _ (Exists.intro _ (And.intro (c_X2_read hI hs ho1 x2 x3 ) (And.intro rfl (fun r9 A9 h9 => ?_)))))))
  rcases h9 with ⟨v3, f3, rfl, hs3, rfl, by2⟩
  refine pq_id0 (pq_aload_n0 (qgc_0_1 hI.1 (qgc_2_3 hI.1 (pq_iret ?_))))
  exact ⟨rfl, fun e9 => absurd e9 (by decide), rfl, v3, f3, rfl, hs3, (v3 2), rfl, by exact True.intro⟩

set_option maxRecDepth 100000 in
set_option maxHeartbeats 2000000 in
theorem c_X10_about (hI : cw_I K nn dn q w e) (hs : cw_S v f) (x1 : Int32)  : pm_Mt l g 53 4 0 0 [.ref (q 0), .int x1] (cw A0 g K nn dn q w e v f) (cw_Qs A0 g K nn dn q w e (fun r v2 f2 => ∃ x : Int32, r = some (.int x) ∧ (True))) := by
  refine mt_X10_about rfl (fun J hC => ?_)
  have ro_nn : cw_ro K nn := hI.2.1.2.1
  have ro_dn : cw_ro K dn := hI.2.1.2.2.1
  have hu1 := hI.2.1
  unfold cw_W at hu1
  have rg_x1 := pm_rng x1
  have zz0 := cw_sz hI ro_nn
  show J 0 [some (.ref (q 0)), some (.int x1)] [] (cw A0 g K nn dn q w e v f) 0 0
  refine hC.1 0 0 _ _ rfl _ _ _ _ _ ?_
  refine pq_iload_n1 (pq_ts ?_)
  refine pm_swc 6 rfl (by decide) ?_ ?_
  · intro _
    refine hC.1 7 108 _ _ rfl _ _ _ _ _ ?_
    have km1 : (-1 : Int32).toInt = -1 := rfl
    refine pq_iconst (pq_iret ?_)
    exact ⟨rfl, fun e9 => absurd e9 (by decide), rfl, v, f, rfl, hs, (-1 : Int32), rfl, by exact True.intro⟩
  · intro i9 hi9 he9
    rcases (show i9 = 0 ∨ i9 = 1 ∨ i9 = 2 ∨ i9 = 3 ∨ i9 = 4 ∨ i9 = 5 by omega) with rfl | rfl | rfl | rfl | rfl | rfl
    · skip
      refine hC.1 1 40 _ _ rfl _ _ _ _ _ ?_
      refine pq_aload_n0 (qgc_0_0 hI.1 (qgc_1_4 hI.1 (qgr_3 hI.1 ro_nn ?_)))
      have z4 := cw_sz hI ro_nn
      refine pq_iret ?_
      exact ⟨rfl, fun e9 => absurd e9 (by decide), rfl, v, f, rfl, hs, (w nn), rfl, by exact True.intro⟩
    · skip
      refine hC.1 2 51 _ _ rfl _ _ _ _ _ ?_
      refine pq_aload_n0 (pq_aload_n0 (qgc_0_0 hI.1 (qgc_1_4 hI.1 ?_)))
      have k0 : (0 : Int32).toInt = 0 := rfl
      refine pq_iconst (pq_aload_n0 (qgc_0_0 hI.1 (qgc_1_4 hI.1 (qgr_3 hI.1 ro_nn ?_))))
      have z5 := cw_sz hI ro_nn
      have k1 : (1 : Int32).toInt = 1 := rfl
      refine pq_iconst (pq_isub ?_)
      intro m6 em_71
      try have e6 : m6.toInt = ((w nn)).toInt - (1) := by rw [em_71]; exact pm_subc _ _ (1) rfl (by omega) (by omega)
      refine pq_iv3_10 ?_
      refine And.intro (Exists.intro _ (cw_o0 hI.1)) (Exists.intro _ (Exists.intro _ (Exists.intro _ (Exists.intro _ (And.intro (c_X10_colourNumber hI hs ro_nn (0 : Int32) m6 ) (And.intro rfl (fun r9 A9 h9 => ?_)))))))
      rcases h9 with ⟨v8, f8, rfl, hs8, y7, rfl, by7⟩
      refine pq_id1 (pq_iret ?_)
      exact ⟨rfl, fun e9 => absurd e9 (by decide), rfl, v8, f8, rfl, hs8, y7, rfl, by exact True.intro⟩
    · skip
      refine hC.1 3 76 _ _ rfl _ _ _ _ _ ?_
      refine pq_aload_n0 (qgc_0_0 hI.1 (qgc_1_6 hI.1 (pq_iret ?_)))
      exact ⟨rfl, fun e9 => absurd e9 (by decide), rfl, v, f, rfl, hs, (w 1), rfl, by exact True.intro⟩
    · skip
      refine hC.1 4 84 _ _ rfl _ _ _ _ _ ?_
      refine pq_aload_n0 (qgc_0_0 hI.1 (qgc_1_5 hI.1 (pq_iret ?_)))
      exact ⟨rfl, fun e9 => absurd e9 (by decide), rfl, v, f, rfl, hs, (w 0), rfl, by exact True.intro⟩
    · skip
      refine hC.1 5 92 _ _ rfl _ _ _ _ _ ?_
      refine pq_aload_n0 (qgc_0_0 hI.1 (qgc_1_7 hI.1 (pq_iret ?_)))
      exact ⟨rfl, fun e9 => absurd e9 (by decide), rfl, v, f, rfl, hs, (w 2), rfl, by exact True.intro⟩
    · skip
      refine hC.1 6 100 _ _ rfl _ _ _ _ _ ?_
      refine pq_aload_n0 (qgc_0_8 hI.1 (qgc_9_5 hI.1 (pq_iret ?_)))
      exact ⟨rfl, fun e9 => absurd e9 (by decide), rfl, v, f, rfl, hs, (w 3), rfl, by exact True.intro⟩

set_option maxRecDepth 100000 in
set_option maxHeartbeats 2000000 in
theorem c_X10_readSpan (hI : cw_I K nn dn q w e) (hs : cw_S v f) (x1 : Int32) (x2 : Int32)  : pm_Mt l g 59 3 0 0 [.ref (q 0), .int x1, .int x2] (cw A0 g K nn dn q w e v f) (cw_Qs A0 g K nn dn q w e (fun r v2 f2 => (r = some (.int 1) ∧ (0 ≤ x1.toInt ∧ x1.toInt ≤ x2.toInt ∧ x2.toInt < (w nn).toInt)) ∨ (r = some (.int 0) ∧ (¬ (0 ≤ x1.toInt ∧ x1.toInt ≤ x2.toInt ∧ x2.toInt < (w nn).toInt))))) := by
  refine mt_X10_readSpan rfl (fun J hC => ?_)
  have ro_nn : cw_ro K nn := hI.2.1.2.1
  have ro_dn : cw_ro K dn := hI.2.1.2.2.1
  have hu1 := hI.2.1
  unfold cw_W at hu1
  have rg_x1 := pm_rng x1
  have rg_x2 := pm_rng x2
  have zz0 := cw_sz hI ro_nn
  show J 0 [some (.ref (q 0)), some (.int x1), some (.int x2)] [] (cw A0 g K nn dn q w e v f) 0 0
  refine hC.1 0 0 _ _ rfl _ _ _ _ _ ?_
  refine pq_aload_n0 (qgc_0_0 hI.1 (qgc_1_4 hI.1 (pq_iload_n1 (pq_iload_n2 (pq_iv2_7 ?_)))))
  refine And.intro (Exists.intro _ (cw_ro_o hI.1 ro_nn)) (Exists.intro _ (Exists.intro _ (Exists.intro _ (Exists.intro _ (And.intro (c_X7_isSpan hI hs ro_nn x1 x2 ) (And.intro rfl (fun r9 A9 h9 => ?_)))))))
  rcases h9 with ⟨y2, rfl, rfl, ⟨rfl, by2⟩ | ⟨rfl, by2⟩⟩
  · skip
    have k1 : (1 : Int32).toInt = 1 := rfl
    refine pq_id1 (pq_icond_ne ?_)
    refine And.intro (fun _ => ?_) (fun c9 => absurd c9 (by decide))
    refine hC.1 1 17 _ _ rfl _ _ _ _ _ ?_
    refine pq_aload_n0 (qgc_0_1 hI.1 (pq_aload_n0 (qgc_0_0 hI.1 (qgc_1_4 hI.1 (pq_iload_n1 (pq_iload_n2 (pq_iv3_2 ?_)))))))
    refine And.intro (Exists.intro _ (cw_o2 hI.1)) (Exists.intro _ (Exists.intro _ (Exists.intro _ (Exists.intro _ (And.intro (c_X2_read hI hs ro_nn x1 x2 ) (And.intro rfl (fun r9 A9 h9 => ?_)))))))
    rcases h9 with ⟨v5, f5, rfl, hs5, rfl, by4⟩
    refine pq_id0 (pq_iconst (pq_iret ?_))
    exact ⟨rfl, fun _ => (by decide), rfl, v5, f5, rfl, hs5, Or.inl ⟨rfl, by first | omega | (dsimp only; omega) | trivial⟩⟩
  · skip
    have k0 : (0 : Int32).toInt = 0 := rfl
    refine pq_id1 (pq_icond_ne ?_)
    refine And.intro (fun c9 => absurd c9 (by decide)) (fun _ => ?_)
    refine pq_iconst (pq_iret ?_)
    exact ⟨rfl, fun _ => (by decide), rfl, v, f, rfl, hs, Or.inr ⟨rfl, by first | omega | (dsimp only; omega) | trivial⟩⟩

set_option maxRecDepth 100000 in
set_option maxHeartbeats 2000000 in
theorem c_X10_count (hI : cw_I K nn dn q w e) (hs : cw_S v f) (x1 : Int32) (x2 : Int32)  : pm_Mt l g 58 4 0 0 [.ref (q 0), .int x1, .int x2] (cw A0 g K nn dn q w e v f) (cw_Qs A0 g K nn dn q w e (fun r v2 f2 => ∃ x : Int32, r = some (.int x) ∧ (True))) := by
  refine mt_X10_count rfl (fun J hC => ?_)
  have ro_nn : cw_ro K nn := hI.2.1.2.1
  have ro_dn : cw_ro K dn := hI.2.1.2.2.1
  have hu1 := hI.2.1
  unfold cw_W at hu1
  have rg_x1 := pm_rng x1
  have rg_x2 := pm_rng x2
  have zz0 := cw_sz hI ro_nn
  show J 0 [some (.ref (q 0)), some (.int x1), some (.int x2)] [] (cw A0 g K nn dn q w e v f) 0 0
  refine hC.1 0 0 _ _ rfl _ _ _ _ _ ?_
  refine pq_aload_n0 (pq_iload_n1 (pq_iload_n2 (pq_iv2_10 ?_)))
  refine And.intro (Exists.intro _ (cw_o0 hI.1)) (Exists.intro _ (Exists.intro _ (Exists.intro _ (Exists.intro _ (And.intro (c_X10_readSpan hI hs x1 x2 ) (And.intro rfl (fun r9 A9 h9 => ?_)))))))
  rcases h9 with ⟨v3, f3, rfl, hs3, hzy2⟩
  rcases hzy2 with ⟨rfl, by2⟩ | ⟨rfl, by2⟩
  · skip
    have k1 : (1 : Int32).toInt = 1 := rfl
    refine pq_id1 (pq_icond_eq ?_)
    refine And.intro (fun c9 => absurd c9 (by decide)) (fun _ => ?_)
    refine pq_aload_n0 (qgc_0_1 hI.1 (qgc_2_3 hI.1 (pq_goto ?_)))
    refine hC.1 2 20 _ _ rfl _ _ _ _ _ ?_
    refine pq_iret ?_
    exact ⟨rfl, fun e9 => absurd e9 (by decide), rfl, v3, f3, rfl, hs3, (v3 2), rfl, by exact True.intro⟩
  · skip
    have k0 : (0 : Int32).toInt = 0 := rfl
    refine pq_id1 (pq_icond_eq ?_)
    refine And.intro (fun _ => ?_) (fun c9 => absurd c9 (by decide))
    refine hC.1 1 19 _ _ rfl _ _ _ _ _ ?_
    have km1 : (-1 : Int32).toInt = -1 := rfl
    refine pq_iconst (pq_nil ?_)
    refine hC.1 2 20 _ _ rfl _ _ _ _ _ ?_
    refine pq_iret ?_
    exact ⟨rfl, fun e9 => absurd e9 (by decide), rfl, v3, f3, rfl, hs3, (-1 : Int32), rfl, by exact True.intro⟩

set_option maxRecDepth 100000 in
set_option maxHeartbeats 2000000 in
theorem c_X10_weight (hI : cw_I K nn dn q w e) (hs : cw_S v f) (x1 : Int32) (x2 : Int32)  : pm_Mt l g 60 4 0 0 [.ref (q 0), .int x1, .int x2] (cw A0 g K nn dn q w e v f) (cw_Qs A0 g K nn dn q w e (fun r v2 f2 => ∃ x : Int32, r = some (.int x) ∧ (True))) := by
  refine mt_X10_weight rfl (fun J hC => ?_)
  have ro_nn : cw_ro K nn := hI.2.1.2.1
  have ro_dn : cw_ro K dn := hI.2.1.2.2.1
  have hu1 := hI.2.1
  unfold cw_W at hu1
  have rg_x1 := pm_rng x1
  have rg_x2 := pm_rng x2
  have zz0 := cw_sz hI ro_nn
  show J 0 [some (.ref (q 0)), some (.int x1), some (.int x2)] [] (cw A0 g K nn dn q w e v f) 0 0
  refine hC.1 0 0 _ _ rfl _ _ _ _ _ ?_
  refine pq_aload_n0 (pq_iload_n1 (pq_iload_n2 (pq_iv2_10 ?_)))
  refine And.intro (Exists.intro _ (cw_o0 hI.1)) (Exists.intro _ (Exists.intro _ (Exists.intro _ (Exists.intro _ (And.intro (c_X10_readSpan hI hs x1 x2 ) (And.intro rfl (fun r9 A9 h9 => ?_)))))))
  rcases h9 with ⟨v3, f3, rfl, hs3, hzy2⟩
  rcases hzy2 with ⟨rfl, by2⟩ | ⟨rfl, by2⟩
  · skip
    have k1 : (1 : Int32).toInt = 1 := rfl
    refine pq_id1 (pq_icond_eq ?_)
    refine And.intro (fun c9 => absurd c9 (by decide)) (fun _ => ?_)
    refine pq_aload_n0 (qgc_0_1 hI.1 (qgc_2_5 hI.1 (pq_goto ?_)))
    refine hC.1 2 20 _ _ rfl _ _ _ _ _ ?_
    refine pq_iret ?_
    exact ⟨rfl, fun e9 => absurd e9 (by decide), rfl, v3, f3, rfl, hs3, (v3 4), rfl, by exact True.intro⟩
  · skip
    have k0 : (0 : Int32).toInt = 0 := rfl
    refine pq_id1 (pq_icond_eq ?_)
    refine And.intro (fun _ => ?_) (fun c9 => absurd c9 (by decide))
    refine hC.1 1 19 _ _ rfl _ _ _ _ _ ?_
    have km1 : (-1 : Int32).toInt = -1 := rfl
    refine pq_iconst (pq_nil ?_)
    refine hC.1 2 20 _ _ rfl _ _ _ _ _ ?_
    refine pq_iret ?_
    exact ⟨rfl, fun e9 => absurd e9 (by decide), rfl, v3, f3, rfl, hs3, (-1 : Int32), rfl, by exact True.intro⟩

set_option maxRecDepth 100000 in
set_option maxHeartbeats 2000000 in
theorem c_X10_set (hI : cw_I K nn dn q w e) (hs : cw_S v f) (x1 : Int32) (x2 : Int32)  : pm_Mt l g 61 4 0 0 [.ref (q 0), .int x1, .int x2] (cw A0 g K nn dn q w e v f) (cw_Qs A0 g K nn dn q w e (fun r v2 f2 => ∃ x : Int32, r = some (.int x) ∧ (True))) := by
  refine mt_X10_set rfl (fun J hC => ?_)
  have ro_nn : cw_ro K nn := hI.2.1.2.1
  have ro_dn : cw_ro K dn := hI.2.1.2.2.1
  have hu1 := hI.2.1
  unfold cw_W at hu1
  have rg_x1 := pm_rng x1
  have rg_x2 := pm_rng x2
  have zz0 := cw_sz hI ro_nn
  show J 0 [some (.ref (q 0)), some (.int x1), some (.int x2)] [] (cw A0 g K nn dn q w e v f) 0 0
  refine hC.1 0 0 _ _ rfl _ _ _ _ _ ?_
  refine pq_aload_n0 (pq_iload_n1 (pq_iload_n2 (pq_iv2_10 ?_)))
  refine And.intro (Exists.intro _ (cw_o0 hI.1)) (Exists.intro _ (Exists.intro _ (Exists.intro _ (Exists.intro _ (And.intro (c_X10_readSpan hI hs x1 x2 ) (And.intro rfl (fun r9 A9 h9 => ?_)))))))
  rcases h9 with ⟨v3, f3, rfl, hs3, hzy2⟩
  rcases hzy2 with ⟨rfl, by2⟩ | ⟨rfl, by2⟩
  · skip
    have k1 : (1 : Int32).toInt = 1 := rfl
    refine pq_id1 (pq_icond_eq ?_)
    refine And.intro (fun c9 => absurd c9 (by decide)) (fun _ => ?_)
    refine pq_aload_n0 (qgc_0_1 hI.1 (qgc_2_4 hI.1 (pq_goto ?_)))
    refine hC.1 2 20 _ _ rfl _ _ _ _ _ ?_
    refine pq_iret ?_
    exact ⟨rfl, fun e9 => absurd e9 (by decide), rfl, v3, f3, rfl, hs3, (v3 3), rfl, by exact True.intro⟩
  · skip
    have k0 : (0 : Int32).toInt = 0 := rfl
    refine pq_id1 (pq_icond_eq ?_)
    refine And.intro (fun _ => ?_) (fun c9 => absurd c9 (by decide))
    refine hC.1 1 19 _ _ rfl _ _ _ _ _ ?_
    have km1 : (-1 : Int32).toInt = -1 := rfl
    refine pq_iconst (pq_nil ?_)
    refine hC.1 2 20 _ _ rfl _ _ _ _ _ ?_
    refine pq_iret ?_
    exact ⟨rfl, fun e9 => absurd e9 (by decide), rfl, v3, f3, rfl, hs3, (-1 : Int32), rfl, by exact True.intro⟩

set_option maxRecDepth 100000 in
set_option maxHeartbeats 2000000 in
theorem c_X10_times (hI : cw_I K nn dn q w e) (hs : cw_S v f) (x1 : Int32) (x2 : Int32) (x3 : Int32)  : pm_Mt l g 62 4 0 0 [.ref (q 0), .int x1, .int x2, .int x3] (cw A0 g K nn dn q w e v f) (cw_Qs A0 g K nn dn q w e (fun r v2 f2 => ∃ x : Int32, r = some (.int x) ∧ (True))) := by
  refine mt_X10_times rfl (fun J hC => ?_)
  have ro_nn : cw_ro K nn := hI.2.1.2.1
  have ro_dn : cw_ro K dn := hI.2.1.2.2.1
  have hu1 := hI.2.1
  unfold cw_W at hu1
  have rg_x1 := pm_rng x1
  have rg_x2 := pm_rng x2
  have rg_x3 := pm_rng x3
  have zz0 := cw_sz hI ro_nn
  show J 0 [some (.ref (q 0)), some (.int x1), some (.int x2), some (.int x3)] [] (cw A0 g K nn dn q w e v f) 0 0
  refine hC.1 0 0 _ _ rfl _ _ _ _ _ ?_
  refine pq_iload_n3 (pq_is1 ?_)
  refine Exists.intro _ (Exists.intro _ (Exists.intro _ (Exists.intro _ (And.intro (c_X10_isColour (cw A0 g K nn dn q w e v f) x3 ) (And.intro rfl (fun r9 A9 h9 => ?_))))))
  rcases h9 with ⟨y2, rfl, rfl, ⟨rfl, by2⟩ | ⟨rfl, by2⟩⟩
  · skip
    have k1 : (1 : Int32).toInt = 1 := rfl
    refine pq_id1 (pq_icond_eq ?_)
    refine And.intro (fun c9 => absurd c9 (by decide)) (fun _ => ?_)
    refine pq_aload_n0 (pq_iload_n1 (pq_iload_n2 (pq_iv2_10 ?_)))
    refine And.intro (Exists.intro _ (cw_o0 hI.1)) (Exists.intro _ (Exists.intro _ (Exists.intro _ (Exists.intro _ (And.intro (c_X10_readSpan hI hs x1 x2 ) (And.intro rfl (fun r9 A9 h9 => ?_)))))))
    rcases h9 with ⟨v5, f5, rfl, hs5, hzy4⟩
    rcases hzy4 with ⟨rfl, by4⟩ | ⟨rfl, by4⟩
    · skip
      refine pq_id1 (pq_icond_eq ?_)
      refine And.intro (fun c9 => absurd c9 (by decide)) (fun _ => ?_)
      refine pq_aload_n0 (qgc_0_1 hI.1 (qgc_2_0 hI.1 (pq_iload_n3 (qlc_14 hI.1 (by omega) (pq_goto ?_)))))
      refine hC.1 2 29 _ _ rfl _ _ _ _ _ ?_
      refine pq_iret ?_
      exact ⟨rfl, fun e9 => absurd e9 (by decide), rfl, v5, f5, rfl, hs5, (f5 14 (x3).toInt.toNat), rfl, by exact True.intro⟩
    · skip
      have k0 : (0 : Int32).toInt = 0 := rfl
      refine pq_id1 (pq_icond_eq ?_)
      refine And.intro (fun _ => ?_) (fun c9 => absurd c9 (by decide))
      refine hC.1 1 28 _ _ rfl _ _ _ _ _ ?_
      have km1 : (-1 : Int32).toInt = -1 := rfl
      refine pq_iconst (pq_nil ?_)
      refine hC.1 2 29 _ _ rfl _ _ _ _ _ ?_
      refine pq_iret ?_
      exact ⟨rfl, fun e9 => absurd e9 (by decide), rfl, v5, f5, rfl, hs5, (-1 : Int32), rfl, by exact True.intro⟩
  · skip
    have k0 : (0 : Int32).toInt = 0 := rfl
    refine pq_id1 (pq_icond_eq ?_)
    refine And.intro (fun _ => ?_) (fun c9 => absurd c9 (by decide))
    refine hC.1 1 28 _ _ rfl _ _ _ _ _ ?_
    have km1 : (-1 : Int32).toInt = -1 := rfl
    refine pq_iconst (pq_nil ?_)
    refine hC.1 2 29 _ _ rfl _ _ _ _ _ ?_
    refine pq_iret ?_
    exact ⟨rfl, fun e9 => absurd e9 (by decide), rfl, v, f, rfl, hs, (-1 : Int32), rfl, by exact True.intro⟩

set_option maxRecDepth 100000 in
set_option maxHeartbeats 2000000 in
theorem c_X10_often (hI : cw_I K nn dn q w e) (hs : cw_S v f) (x1 : Int32) (x2 : Int32) (x3 : Int32)  : pm_Mt l g 63 4 0 0 [.ref (q 0), .int x1, .int x2, .int x3] (cw A0 g K nn dn q w e v f) (cw_Qs A0 g K nn dn q w e (fun r v2 f2 => ∃ x : Int32, r = some (.int x) ∧ (True))) := by
  refine mt_X10_often rfl (fun J hC => ?_)
  have ro_nn : cw_ro K nn := hI.2.1.2.1
  have ro_dn : cw_ro K dn := hI.2.1.2.2.1
  have hu1 := hI.2.1
  unfold cw_W at hu1
  have rg_x1 := pm_rng x1
  have rg_x2 := pm_rng x2
  have rg_x3 := pm_rng x3
  have zz0 := cw_sz hI ro_nn
  show J 0 [some (.ref (q 0)), some (.int x1), some (.int x2), some (.int x3)] [] (cw A0 g K nn dn q w e v f) 0 0
  refine hC.1 0 0 _ _ rfl _ _ _ _ _ ?_
  refine pq_iload_n3 ?_
  have k1 : (1 : Int32).toInt = 1 := rfl
  refine pq_iconst (pq_icmp_lt ?_)
  refine And.intro (fun c2 => ?_) (fun c2 => ?_)
  · skip
    refine hC.1 1 25 _ _ rfl _ _ _ _ _ ?_
    have km1 : (-1 : Int32).toInt = -1 := rfl
    refine pq_iconst (pq_nil ?_)
    refine hC.1 2 26 _ _ rfl _ _ _ _ _ ?_
    refine pq_iret ?_
    exact ⟨rfl, fun e9 => absurd e9 (by decide), rfl, v, f, rfl, hs, (-1 : Int32), rfl, by exact True.intro⟩
  · skip
    refine pq_aload_n0 (pq_iload_n1 (pq_iload_n2 (pq_iv2_10 ?_)))
    refine And.intro (Exists.intro _ (cw_o0 hI.1)) (Exists.intro _ (Exists.intro _ (Exists.intro _ (Exists.intro _ (And.intro (c_X10_readSpan hI hs x1 x2 ) (And.intro rfl (fun r9 A9 h9 => ?_)))))))
    rcases h9 with ⟨v4, f4, rfl, hs4, hzy3⟩
    rcases hzy3 with ⟨rfl, by3⟩ | ⟨rfl, by3⟩
    · skip
      refine pq_id1 (pq_icond_eq ?_)
      refine And.intro (fun c9 => absurd c9 (by decide)) (fun _ => ?_)
      refine pq_aload_n0 (qgc_0_1 hI.1 (pq_iload_n3 (pq_iv1_2 ?_)))
      refine And.intro (Exists.intro _ (cw_o2 hI.1)) (Exists.intro _ (Exists.intro _ (Exists.intro _ (Exists.intro _ (And.intro (c_X2_kindsFrom hI hs4 x3 ) (And.intro rfl (fun r9 A9 h9 => ?_)))))))
      obtain ⟨y5, rfl, rfl, by5⟩ := h9
      refine pq_id1 (pq_goto ?_)
      refine hC.1 2 26 _ _ rfl _ _ _ _ _ ?_
      refine pq_iret ?_
      exact ⟨rfl, fun e9 => absurd e9 (by decide), rfl, v4, f4, rfl, hs4, y5, rfl, by exact True.intro⟩
    · skip
      have k0 : (0 : Int32).toInt = 0 := rfl
      refine pq_id1 (pq_icond_eq ?_)
      refine And.intro (fun _ => ?_) (fun c9 => absurd c9 (by decide))
      refine hC.1 1 25 _ _ rfl _ _ _ _ _ ?_
      have km1 : (-1 : Int32).toInt = -1 := rfl
      refine pq_iconst (pq_nil ?_)
      refine hC.1 2 26 _ _ rfl _ _ _ _ _ ?_
      refine pq_iret ?_
      exact ⟨rfl, fun e9 => absurd e9 (by decide), rfl, v4, f4, rfl, hs4, (-1 : Int32), rfl, by exact True.intro⟩

set_option maxRecDepth 100000 in
set_option maxHeartbeats 2000000 in
theorem c_X10_report (hI : cw_I K nn dn q w e) (hs : cw_S v f) (x1 : Int32) (x2 : Int32) (x3 : Int32) (x4 : Int32)  : pm_Mt l g 65 4 0 0 [.ref (q 0), .int x1, .int x2, .int x3, .int x4] (cw A0 g K nn dn q w e v f) (cw_Qs A0 g K nn dn q w e (fun r v2 f2 => ∃ x : Int32, r = some (.int x) ∧ (True))) := by
  refine mt_X10_report rfl (fun J hC => ?_)
  have ro_nn : cw_ro K nn := hI.2.1.2.1
  have ro_dn : cw_ro K dn := hI.2.1.2.2.1
  have hu1 := hI.2.1
  unfold cw_W at hu1
  have rg_x1 := pm_rng x1
  have rg_x2 := pm_rng x2
  have rg_x3 := pm_rng x3
  have rg_x4 := pm_rng x4
  have zz0 := cw_sz hI ro_nn
  show J 0 [some (.ref (q 0)), some (.int x1), some (.int x2), some (.int x3), some (.int x4), none, none] [] (cw A0 g K nn dn q w e v f) 0 0
  refine hC.1 0 0 _ _ rfl _ _ _ _ _ ?_
  refine pq_aload_n0 (qgc_0_0 hI.1 (qgc_1_4 hI.1 (pq_astore [some (.ref (q 0)), some (.int x1), some (.int x2), some (.int x3), some (.int x4), some (.ref (q nn)), none] rfl (pq_aload5 (pq_iload_n1 (pq_iload_n2 (pq_iv2_7 ?_)))))))
  refine And.intro (Exists.intro _ (cw_ro_o hI.1 ro_nn)) (Exists.intro _ (Exists.intro _ (Exists.intro _ (Exists.intro _ (And.intro (c_X7_isSpan hI hs ro_nn x1 x2 ) (And.intro rfl (fun r9 A9 h9 => ?_)))))))
  rcases h9 with ⟨y2, rfl, rfl, ⟨rfl, by2⟩ | ⟨rfl, by2⟩⟩
  · skip
    have k1 : (1 : Int32).toInt = 1 := rfl
    refine pq_id1 (pq_icond_ne ?_)
    refine And.intro (fun _ => ?_) (fun c9 => absurd c9 (by decide))
    refine hC.1 1 21 _ _ rfl _ _ _ _ _ ?_
    refine pq_aload_n0 (qgc_0_2 hI.1 (pq_aload5 (pq_iload_n1 (pq_iload_n2 (pq_iload_n3 (pq_iv4_0 ?_))))))
    refine And.intro (Exists.intro _ (cw_o3 hI.1)) (Exists.intro _ (Exists.intro _ (Exists.intro _ (Exists.intro _ (And.intro (c_X0_reported hI hs ro_nn x1 x2 x3 (by omega)) (And.intro rfl (fun r9 A9 h9 => ?_)))))))
    rcases h9 with ⟨v5, f5, rfl, hs5, y4, rfl, by4⟩
    refine pq_id1 (pq_istore [some (.ref (q 0)), some (.int x1), some (.int x2), some (.int x3), some (.int x4), some (.ref (q nn)), some (.int y4)] rfl (pq_iload4 (pq_ts ?_)))
    refine pm_swc 3 rfl (by decide) ?_ ?_
    · intro _
      refine hC.1 5 85 _ _ rfl _ _ _ _ _ ?_
      have km1 : (-1 : Int32).toInt = -1 := rfl
      refine pq_iconst (pq_iret ?_)
      exact ⟨rfl, fun e9 => absurd e9 (by decide), rfl, v5, f5, rfl, hs5, (-1 : Int32), rfl, by exact True.intro⟩
    · intro i9 hi9 he9
      rcases (show i9 = 0 ∨ i9 = 1 ∨ i9 = 2 by omega) with rfl | rfl | rfl
      · skip
        refine hC.1 2 64 _ _ rfl _ _ _ _ _ ?_
        refine pq_iload6 (pq_iret ?_)
        exact ⟨rfl, fun e9 => absurd e9 (by decide), rfl, v5, f5, rfl, hs5, y4, rfl, by exact True.intro⟩
      · skip
        refine hC.1 3 67 _ _ rfl _ _ _ _ _ ?_
        refine pq_aload5 (pq_iload6 ?_)
        have k0 : (0 : Int32).toInt = 0 := rfl
        refine pq_iconst (pq_iv2_7 ?_)
        refine And.intro (Exists.intro _ (cw_ro_o hI.1 ro_nn)) (Exists.intro _ (Exists.intro _ (Exists.intro _ (Exists.intro _ (And.intro (c_X7_tell hI hs5 ro_nn y4 (0 : Int32) ) (And.intro rfl (fun r9 A9 h9 => ?_)))))))
        obtain ⟨y8, rfl, rfl, by8⟩ := h9
        refine pq_id1 (pq_iret ?_)
        exact ⟨rfl, fun e9 => absurd e9 (by decide), rfl, v5, f5, rfl, hs5, y8, rfl, by exact True.intro⟩
      · skip
        refine hC.1 4 76 _ _ rfl _ _ _ _ _ ?_
        refine pq_aload5 (pq_iload6 ?_)
        have k2 : (2 : Int32).toInt = 2 := rfl
        refine pq_iconst (pq_iv2_7 ?_)
        refine And.intro (Exists.intro _ (cw_ro_o hI.1 ro_nn)) (Exists.intro _ (Exists.intro _ (Exists.intro _ (Exists.intro _ (And.intro (c_X7_tell hI hs5 ro_nn y4 (2 : Int32) ) (And.intro rfl (fun r9 A9 h9 => ?_)))))))
        obtain ⟨y10, rfl, rfl, by10⟩ := h9
        refine pq_id1 (pq_iret ?_)
        exact ⟨rfl, fun e9 => absurd e9 (by decide), rfl, v5, f5, rfl, hs5, y10, rfl, by exact True.intro⟩
  · skip
    have k0 : (0 : Int32).toInt = 0 := rfl
    refine pq_id1 (pq_icond_ne ?_)
    refine And.intro (fun c9 => absurd c9 (by decide)) (fun _ => ?_)
    have km1 : (-1 : Int32).toInt = -1 := rfl
    refine pq_iconst (pq_iret ?_)
    exact ⟨rfl, fun e9 => absurd e9 (by decide), rfl, v, f, rfl, hs, (-1 : Int32), rfl, by exact True.intro⟩

set_option maxRecDepth 100000 in
set_option maxHeartbeats 2000000 in
theorem c_X10_kth (hI : cw_I K nn dn q w e) (hs : cw_S v f) (x1 : Int32) (x2 : Int32) (x3 : Int32) (x4 : Int32)  : pm_Mt l g 67 4 0 0 [.ref (q 0), .int x1, .int x2, .int x3, .int x4] (cw A0 g K nn dn q w e v f) (cw_Qs A0 g K nn dn q w e (fun r v2 f2 => ∃ x : Int32, r = some (.int x) ∧ (True))) := by
  refine mt_X10_kth rfl (fun J hC => ?_)
  have ro_nn : cw_ro K nn := hI.2.1.2.1
  have ro_dn : cw_ro K dn := hI.2.1.2.2.1
  have hu1 := hI.2.1
  unfold cw_W at hu1
  have rg_x1 := pm_rng x1
  have rg_x2 := pm_rng x2
  have rg_x3 := pm_rng x3
  have rg_x4 := pm_rng x4
  have zz0 := cw_sz hI ro_nn
  show J 0 [some (.ref (q 0)), some (.int x1), some (.int x2), some (.int x3), some (.int x4)] [] (cw A0 g K nn dn q w e v f) 0 0
  refine hC.1 0 0 _ _ rfl _ _ _ _ _ ?_
  refine pq_aload_n0 (pq_iload_n1 (pq_iload_n2 (pq_iv2_10 ?_)))
  refine And.intro (Exists.intro _ (cw_o0 hI.1)) (Exists.intro _ (Exists.intro _ (Exists.intro _ (Exists.intro _ (And.intro (c_X10_readSpan hI hs x1 x2 ) (And.intro rfl (fun r9 A9 h9 => ?_)))))))
  rcases h9 with ⟨v3, f3, rfl, hs3, hzy2⟩
  rcases hzy2 with ⟨rfl, by2⟩ | ⟨rfl, by2⟩
  · skip
    have k1 : (1 : Int32).toInt = 1 := rfl
    refine pq_id1 (pq_icond_eq ?_)
    refine And.intro (fun c9 => absurd c9 (by decide)) (fun _ => ?_)
    refine pq_aload_n0 (qgc_0_2 hI.1 (pq_aload_n0 (qgc_0_0 hI.1 (qgc_1_4 hI.1 (pq_aload_n0 (qgc_0_1 hI.1 (pq_iload_n1 (pq_iload_n2 (pq_iload_n3 (pq_iload4 (pq_iv6_0 ?_)))))))))))
    refine And.intro (Exists.intro _ (cw_o3 hI.1)) (Exists.intro _ (Exists.intro _ (Exists.intro _ (Exists.intro _ (And.intro (c_X0_colourInOrder hI hs3 ro_nn x1 x2 x3 x4 (by omega)) (And.intro rfl (fun r9 A9 h9 => ?_)))))))
    rcases h9 with ⟨v5, f5, rfl, hs5, y4, rfl, by4⟩
    refine pq_id1 (pq_goto ?_)
    refine hC.1 2 36 _ _ rfl _ _ _ _ _ ?_
    refine pq_iret ?_
    exact ⟨rfl, fun e9 => absurd e9 (by decide), rfl, v5, f5, rfl, hs5, y4, rfl, by exact True.intro⟩
  · skip
    have k0 : (0 : Int32).toInt = 0 := rfl
    refine pq_id1 (pq_icond_eq ?_)
    refine And.intro (fun _ => ?_) (fun c9 => absurd c9 (by decide))
    refine hC.1 1 35 _ _ rfl _ _ _ _ _ ?_
    have km1 : (-1 : Int32).toInt = -1 := rfl
    refine pq_iconst (pq_nil ?_)
    refine hC.1 2 36 _ _ rfl _ _ _ _ _ ?_
    refine pq_iret ?_
    exact ⟨rfl, fun e9 => absurd e9 (by decide), rfl, v3, f3, rfl, hs3, (-1 : Int32), rfl, by exact True.intro⟩

set_option maxRecDepth 100000 in
set_option maxHeartbeats 2000000 in
theorem c_X10_absent (hI : cw_I K nn dn q w e) (hs : cw_S v f) (x1 : Int32) (x2 : Int32) (x3 : Int32)  : pm_Mt l g 73 4 0 0 [.ref (q 0), .int x1, .int x2, .int x3] (cw A0 g K nn dn q w e v f) (cw_Qs A0 g K nn dn q w e (fun r v2 f2 => ∃ x : Int32, r = some (.int x) ∧ (True))) := by
  refine mt_X10_absent rfl (fun J hC => ?_)
  have ro_nn : cw_ro K nn := hI.2.1.2.1
  have ro_dn : cw_ro K dn := hI.2.1.2.2.1
  have hu1 := hI.2.1
  unfold cw_W at hu1
  have rg_x1 := pm_rng x1
  have rg_x2 := pm_rng x2
  have rg_x3 := pm_rng x3
  have zz0 := cw_sz hI ro_nn
  show J 0 [some (.ref (q 0)), some (.int x1), some (.int x2), some (.int x3)] [] (cw A0 g K nn dn q w e v f) 0 0
  refine hC.1 0 0 _ _ rfl _ _ _ _ _ ?_
  refine pq_aload_n0 (pq_iload_n1 (pq_iload_n2 (pq_iv2_10 ?_)))
  refine And.intro (Exists.intro _ (cw_o0 hI.1)) (Exists.intro _ (Exists.intro _ (Exists.intro _ (Exists.intro _ (And.intro (c_X10_readSpan hI hs x1 x2 ) (And.intro rfl (fun r9 A9 h9 => ?_)))))))
  rcases h9 with ⟨v3, f3, rfl, hs3, hzy2⟩
  rcases hzy2 with ⟨rfl, by2⟩ | ⟨rfl, by2⟩
  · skip
    have k1 : (1 : Int32).toInt = 1 := rfl
    refine pq_id1 (pq_icond_eq ?_)
    refine And.intro (fun c9 => absurd c9 (by decide)) (fun _ => ?_)
    refine pq_aload_n0 (qgc_0_2 hI.1 ?_)
    have k16777215 : (16777215 : Int32).toInt = 16777215 := rfl
    refine pq_ldc (pq_aload_n0 (qgc_0_1 hI.1 (qgc_2_4 hI.1 ?_)))
    have km1 : (-1 : Int32).toInt = -1 := rfl
    refine pq_iconst (pq_ixor (pq_iand (pq_iload_n3 (pq_iv2_0 ?_))))
    refine And.intro (Exists.intro _ (cw_o3 hI.1)) (Exists.intro _ (Exists.intro _ (Exists.intro _ (Exists.intro _ (And.intro (c_X0_colourOf hI hs3 ((16777215 : Int32) &&& ((v3 3) ^^^ (-1 : Int32))) x3 ) (And.intro rfl (fun r9 A9 h9 => ?_)))))))
    obtain ⟨y4, rfl, rfl, by4⟩ := h9
    refine pq_id1 (pq_goto ?_)
    refine hC.1 2 33 _ _ rfl _ _ _ _ _ ?_
    refine pq_iret ?_
    exact ⟨rfl, fun e9 => absurd e9 (by decide), rfl, v3, f3, rfl, hs3, y4, rfl, by exact True.intro⟩
  · skip
    have k0 : (0 : Int32).toInt = 0 := rfl
    refine pq_id1 (pq_icond_eq ?_)
    refine And.intro (fun _ => ?_) (fun c9 => absurd c9 (by decide))
    refine hC.1 1 32 _ _ rfl _ _ _ _ _ ?_
    have km1 : (-1 : Int32).toInt = -1 := rfl
    refine pq_iconst (pq_nil ?_)
    refine hC.1 2 33 _ _ rfl _ _ _ _ _ ?_
    refine pq_iret ?_
    exact ⟨rfl, fun e9 => absurd e9 (by decide), rfl, v3, f3, rfl, hs3, (-1 : Int32), rfl, by exact True.intro⟩

set_option maxRecDepth 100000 in
set_option maxHeartbeats 2000000 in
theorem c_X10_both (hI : cw_I K nn dn q w e) (hs : cw_S v f) (x1 : Int32) (x2 : Int32) (x3 : Int32) (x4 : Int32) (x5 : Int32)  : pm_Mt l g 74 4 0 0 [.ref (q 0), .int x1, .int x2, .int x3, .int x4, .int x5] (cw A0 g K nn dn q w e v f) (cw_Qs A0 g K nn dn q w e (fun r v2 f2 => ∃ x : Int32, r = some (.int x) ∧ (True))) := by
  refine mt_X10_both rfl (fun J hC => ?_)
  have ro_nn : cw_ro K nn := hI.2.1.2.1
  have ro_dn : cw_ro K dn := hI.2.1.2.2.1
  have hu1 := hI.2.1
  unfold cw_W at hu1
  have rg_x1 := pm_rng x1
  have rg_x2 := pm_rng x2
  have rg_x3 := pm_rng x3
  have rg_x4 := pm_rng x4
  have rg_x5 := pm_rng x5
  have zz0 := cw_sz hI ro_nn
  show J 0 [some (.ref (q 0)), some (.int x1), some (.int x2), some (.int x3), some (.int x4), some (.int x5), none, none] [] (cw A0 g K nn dn q w e v f) 0 0
  refine hC.1 0 0 _ _ rfl _ _ _ _ _ ?_
  refine pq_aload_n0 (pq_iload_n1 (pq_iload_n2 (pq_iv2_10 ?_)))
  refine And.intro (Exists.intro _ (cw_o0 hI.1)) (Exists.intro _ (Exists.intro _ (Exists.intro _ (Exists.intro _ (And.intro (c_X10_readSpan hI hs x1 x2 ) (And.intro rfl (fun r9 A9 h9 => ?_)))))))
  rcases h9 with ⟨v3, f3, rfl, hs3, hzy2⟩
  rcases hzy2 with ⟨rfl, by2⟩ | ⟨rfl, by2⟩
  · skip
    have k1 : (1 : Int32).toInt = 1 := rfl
    refine pq_id1 (pq_icond_ne ?_)
    refine And.intro (fun _ => ?_) (fun c9 => absurd c9 (by decide))
    refine hC.1 1 11 _ _ rfl _ _ _ _ _ ?_
    refine pq_aload_n0 (qgc_0_1 hI.1 (qgc_2_4 hI.1 (pq_istore [some (.ref (q 0)), some (.int x1), some (.int x2), some (.int x3), some (.int x4), some (.int x5), some (.int (v3 3)), none] rfl (pq_aload_n0 (pq_iload_n3 (pq_iload4 (pq_iv2_10 ?_)))))))
    refine And.intro (Exists.intro _ (cw_o0 hI.1)) (Exists.intro _ (Exists.intro _ (Exists.intro _ (Exists.intro _ (And.intro (c_X10_readSpan hI hs3 x3 x4 ) (And.intro rfl (fun r9 A9 h9 => ?_)))))))
    rcases h9 with ⟨v5, f5, rfl, hs5, hzy4⟩
    rcases hzy4 with ⟨rfl, by4⟩ | ⟨rfl, by4⟩
    · skip
      refine pq_id1 (pq_icond_ne ?_)
      refine And.intro (fun _ => ?_) (fun c9 => absurd c9 (by decide))
      refine hC.1 2 32 _ _ rfl _ _ _ _ _ ?_
      refine pq_aload_n0 (qgc_0_1 hI.1 (qgc_2_4 hI.1 (pq_istore [some (.ref (q 0)), some (.int x1), some (.int x2), some (.int x3), some (.int x4), some (.int x5), some (.int (v3 3)), some (.int (v5 3))] rfl (pq_iload5 (pq_ts ?_)))))
      refine pm_swc 3 rfl (by decide) ?_ ?_
      · intro _
        refine hC.1 6 97 _ _ rfl _ _ _ _ _ ?_
        have km1 : (-1 : Int32).toInt = -1 := rfl
        refine pq_iconst (pq_iret ?_)
        exact ⟨rfl, fun e9 => absurd e9 (by decide), rfl, v5, f5, rfl, hs5, (-1 : Int32), rfl, by exact True.intro⟩
      · intro i9 hi9 he9
        rcases (show i9 = 0 ∨ i9 = 1 ∨ i9 = 2 by omega) with rfl | rfl | rfl
        · skip
          refine hC.1 3 68 _ _ rfl _ _ _ _ _ ?_
          refine pq_iload6 (pq_iload7 (pq_iand (pq_is1 ?_)))
          refine Exists.intro _ (Exists.intro _ (Exists.intro _ (Exists.intro _ (And.intro (c_J6_bitCount_0f7a4 (cw A0 g K nn dn q w e v5 f5) ((v3 3) &&& (v5 3)) ) (And.intro rfl (fun r9 A9 h9 => ?_))))))
          obtain ⟨y8, rfl, rfl, by8⟩ := h9
          refine pq_id1 (pq_iret ?_)
          exact ⟨rfl, fun e9 => absurd e9 (by decide), rfl, v5, f5, rfl, hs5, y8, rfl, by exact True.intro⟩
        · skip
          refine hC.1 4 77 _ _ rfl _ _ _ _ _ ?_
          refine pq_iload6 (pq_iload7 ?_)
          have km1 : (-1 : Int32).toInt = -1 := rfl
          refine pq_iconst (pq_ixor (pq_iand (pq_is1 ?_)))
          refine Exists.intro _ (Exists.intro _ (Exists.intro _ (Exists.intro _ (And.intro (c_J6_bitCount_0f7a4 (cw A0 g K nn dn q w e v5 f5) ((v3 3) &&& ((v5 3) ^^^ (-1 : Int32))) ) (And.intro rfl (fun r9 A9 h9 => ?_))))))
          obtain ⟨y10, rfl, rfl, by10⟩ := h9
          refine pq_id1 (pq_iret ?_)
          exact ⟨rfl, fun e9 => absurd e9 (by decide), rfl, v5, f5, rfl, hs5, y10, rfl, by exact True.intro⟩
        · skip
          refine hC.1 5 88 _ _ rfl _ _ _ _ _ ?_
          refine pq_iload6 (pq_iload7 (pq_ior (pq_is1 ?_)))
          refine Exists.intro _ (Exists.intro _ (Exists.intro _ (Exists.intro _ (And.intro (c_J6_bitCount_0f7a4 (cw A0 g K nn dn q w e v5 f5) ((v3 3) ||| (v5 3)) ) (And.intro rfl (fun r9 A9 h9 => ?_))))))
          obtain ⟨y12, rfl, rfl, by12⟩ := h9
          refine pq_id1 (pq_iret ?_)
          exact ⟨rfl, fun e9 => absurd e9 (by decide), rfl, v5, f5, rfl, hs5, y12, rfl, by exact True.intro⟩
    · skip
      have k0 : (0 : Int32).toInt = 0 := rfl
      refine pq_id1 (pq_icond_ne ?_)
      refine And.intro (fun c9 => absurd c9 (by decide)) (fun _ => ?_)
      have km1 : (-1 : Int32).toInt = -1 := rfl
      refine pq_iconst (pq_iret ?_)
      exact ⟨rfl, fun e9 => absurd e9 (by decide), rfl, v5, f5, rfl, hs5, (-1 : Int32), rfl, by exact True.intro⟩
  · skip
    have k0 : (0 : Int32).toInt = 0 := rfl
    refine pq_id1 (pq_icond_ne ?_)
    refine And.intro (fun c9 => absurd c9 (by decide)) (fun _ => ?_)
    have km1 : (-1 : Int32).toInt = -1 := rfl
    refine pq_iconst (pq_iret ?_)
    exact ⟨rfl, fun e9 => absurd e9 (by decide), rfl, v3, f3, rfl, hs3, (-1 : Int32), rfl, by exact True.intro⟩

end
end
section
section
variable {l : Launch} {g : pm_G} {A0 : pm_H} {K nn dn : Nat} {q : Nat → Nat} {w : Nat → Int32} {e : Nat → Nat → Int32} {v : Nat → Int32} {f : Nat → Nat → Int32}
set_option maxRecDepth 100000 in
set_option maxHeartbeats 2000000 in
theorem c_X10_tally (hI : cw_I K nn dn q w e) (hs : cw_S v f) (x1 : Int32) (x2 : Int32) (x3 : Int32)  : pm_Mt l g 76 4 0 0 [.ref (q 0), .int x1, .int x2, .int x3] (cw A0 g K nn dn q w e v f) (cw_Qs A0 g K nn dn q w e (fun r v2 f2 => ∃ x : Int32, r = some (.int x) ∧ (True))) := by
  refine mt_X10_tally rfl (fun J hC => ?_)
  have ro_nn : cw_ro K nn := hI.2.1.2.1
  have ro_dn : cw_ro K dn := hI.2.1.2.2.1
  have hu1 := hI.2.1
  unfold cw_W at hu1
  have rg_x1 := pm_rng x1
  have rg_x2 := pm_rng x2
  have rg_x3 := pm_rng x3
  have zz0 := cw_sz hI ro_nn
  show J 0 [some (.ref (q 0)), some (.int x1), some (.int x2), some (.int x3)] [] (cw A0 g K nn dn q w e v f) 0 0
  refine hC.1 0 0 _ _ rfl _ _ _ _ _ ?_
  refine pq_iload_n3 ?_
  have k1 : (1 : Int32).toInt = 1 := rfl
  refine pq_iconst (pq_icmp_lt ?_)
  refine And.intro (fun c2 => ?_) (fun c2 => ?_)
  · skip
    refine hC.1 1 25 _ _ rfl _ _ _ _ _ ?_
    have km1 : (-1 : Int32).toInt = -1 := rfl
    refine pq_iconst (pq_nil ?_)
    refine hC.1 2 26 _ _ rfl _ _ _ _ _ ?_
    refine pq_iret ?_
    exact ⟨rfl, fun e9 => absurd e9 (by decide), rfl, v, f, rfl, hs, (-1 : Int32), rfl, by exact True.intro⟩
  · skip
    refine pq_aload_n0 (pq_iload_n1 (pq_iload_n2 (pq_iv2_10 ?_)))
    refine And.intro (Exists.intro _ (cw_o0 hI.1)) (Exists.intro _ (Exists.intro _ (Exists.intro _ (Exists.intro _ (And.intro (c_X10_readSpan hI hs x1 x2 ) (And.intro rfl (fun r9 A9 h9 => ?_)))))))
    rcases h9 with ⟨v4, f4, rfl, hs4, hzy3⟩
    rcases hzy3 with ⟨rfl, by3⟩ | ⟨rfl, by3⟩
    · skip
      refine pq_id1 (pq_icond_eq ?_)
      refine And.intro (fun c9 => absurd c9 (by decide)) (fun _ => ?_)
      refine pq_aload_n0 (qgc_0_1 hI.1 (pq_iload_n3 (pq_iv1_2 ?_)))
      refine And.intro (Exists.intro _ (cw_o2 hI.1)) (Exists.intro _ (Exists.intro _ (Exists.intro _ (Exists.intro _ (And.intro (c_X2_kindsOfJust hI hs4 x3 ) (And.intro rfl (fun r9 A9 h9 => ?_)))))))
      obtain ⟨y5, rfl, rfl, by5⟩ := h9
      refine pq_id1 (pq_goto ?_)
      refine hC.1 2 26 _ _ rfl _ _ _ _ _ ?_
      refine pq_iret ?_
      exact ⟨rfl, fun e9 => absurd e9 (by decide), rfl, v4, f4, rfl, hs4, y5, rfl, by exact True.intro⟩
    · skip
      have k0 : (0 : Int32).toInt = 0 := rfl
      refine pq_id1 (pq_icond_eq ?_)
      refine And.intro (fun _ => ?_) (fun c9 => absurd c9 (by decide))
      refine hC.1 1 25 _ _ rfl _ _ _ _ _ ?_
      have km1 : (-1 : Int32).toInt = -1 := rfl
      refine pq_iconst (pq_nil ?_)
      refine hC.1 2 26 _ _ rfl _ _ _ _ _ ?_
      refine pq_iret ?_
      exact ⟨rfl, fun e9 => absurd e9 (by decide), rfl, v4, f4, rfl, hs4, (-1 : Int32), rfl, by exact True.intro⟩

set_option maxRecDepth 100000 in
set_option maxHeartbeats 2000000 in
theorem c_X10_major (hI : cw_I K nn dn q w e) (hs : cw_S v f) (x1 : Int32) (x2 : Int32)  : pm_Mt l g 78 4 0 0 [.ref (q 0), .int x1, .int x2] (cw A0 g K nn dn q w e v f) (cw_Qs A0 g K nn dn q w e (fun r v2 f2 => ∃ x : Int32, r = some (.int x) ∧ (True))) := by
  refine mt_X10_major rfl (fun J hC => ?_)
  have ro_nn : cw_ro K nn := hI.2.1.2.1
  have ro_dn : cw_ro K dn := hI.2.1.2.2.1
  have hu1 := hI.2.1
  unfold cw_W at hu1
  have rg_x1 := pm_rng x1
  have rg_x2 := pm_rng x2
  have zz0 := cw_sz hI ro_nn
  show J 0 [some (.ref (q 0)), some (.int x1), some (.int x2)] [] (cw A0 g K nn dn q w e v f) 0 0
  refine hC.1 0 0 _ _ rfl _ _ _ _ _ ?_
  refine pq_aload_n0 (pq_iload_n1 (pq_iload_n2 (pq_iv2_10 ?_)))
  refine And.intro (Exists.intro _ (cw_o0 hI.1)) (Exists.intro _ (Exists.intro _ (Exists.intro _ (Exists.intro _ (And.intro (c_X10_readSpan hI hs x1 x2 ) (And.intro rfl (fun r9 A9 h9 => ?_)))))))
  rcases h9 with ⟨v3, f3, rfl, hs3, hzy2⟩
  rcases hzy2 with ⟨rfl, by2⟩ | ⟨rfl, by2⟩
  · skip
    have k1 : (1 : Int32).toInt = 1 := rfl
    refine pq_id1 (pq_icond_eq ?_)
    refine And.intro (fun c9 => absurd c9 (by decide)) (fun _ => ?_)
    refine pq_aload_n0 (qgc_0_2 hI.1 (pq_aload_n0 (qgc_0_1 hI.1 ?_)))
    have k2 : (2 : Int32).toInt = 2 := rfl
    refine pq_iconst (pq_iv1_2 ?_)
    refine And.intro (Exists.intro _ (cw_o2 hI.1)) (Exists.intro _ (Exists.intro _ (Exists.intro _ (Exists.intro _ (And.intro (c_X2_largerThanPart hI hs3 (2 : Int32) ) (And.intro rfl (fun r9 A9 h9 => ?_)))))))
    obtain ⟨y4, rfl, rfl, by4⟩ := h9
    refine pq_id1 ?_
    have k0 : (0 : Int32).toInt = 0 := rfl
    refine pq_iconst (pq_iv2_0 ?_)
    refine And.intro (Exists.intro _ (cw_o3 hI.1)) (Exists.intro _ (Exists.intro _ (Exists.intro _ (Exists.intro _ (And.intro (c_X0_colourOf hI hs3 y4 (0 : Int32) ) (And.intro rfl (fun r9 A9 h9 => ?_)))))))
    obtain ⟨y6, rfl, rfl, by6⟩ := h9
    refine pq_id1 (pq_goto ?_)
    refine hC.1 2 29 _ _ rfl _ _ _ _ _ ?_
    refine pq_iret ?_
    exact ⟨rfl, fun e9 => absurd e9 (by decide), rfl, v3, f3, rfl, hs3, y6, rfl, by exact True.intro⟩
  · skip
    have k0 : (0 : Int32).toInt = 0 := rfl
    refine pq_id1 (pq_icond_eq ?_)
    refine And.intro (fun _ => ?_) (fun c9 => absurd c9 (by decide))
    refine hC.1 1 28 _ _ rfl _ _ _ _ _ ?_
    have km1 : (-1 : Int32).toInt = -1 := rfl
    refine pq_iconst (pq_nil ?_)
    refine hC.1 2 29 _ _ rfl _ _ _ _ _ ?_
    refine pq_iret ?_
    exact ⟨rfl, fun e9 => absurd e9 (by decide), rfl, v3, f3, rfl, hs3, (-1 : Int32), rfl, by exact True.intro⟩

set_option maxRecDepth 100000 in
set_option maxHeartbeats 2000000 in
theorem c_X10_close (hI : cw_I K nn dn q w e) (hs : cw_S v f) (x1 : Int32) (x2 : Int32) (x3 : Int32)  : pm_Mt l g 80 2 0 0 [.ref (q 0), .int x1, .int x2, .int x3] (cw A0 g K nn dn q w e v f) (cw_Qs A0 g K nn dn q w e (fun r v2 f2 => ∃ x : Int32, r = some (.int x) ∧ (True))) := by
  refine mt_X10_close rfl (fun J hC => ?_)
  have ro_nn : cw_ro K nn := hI.2.1.2.1
  have ro_dn : cw_ro K dn := hI.2.1.2.2.1
  have hu1 := hI.2.1
  unfold cw_W at hu1
  have rg_x1 := pm_rng x1
  have rg_x2 := pm_rng x2
  have rg_x3 := pm_rng x3
  have zz0 := cw_sz hI ro_nn
  show J 0 [some (.ref (q 0)), some (.int x1), some (.int x2), some (.int x3), none] [] (cw A0 g K nn dn q w e v f) 0 0
  refine hC.1 0 0 _ _ rfl _ _ _ _ _ ?_
  refine pq_aload_n0 (qgc_0_0 hI.1 (qgc_1_4 hI.1 (pq_astore [some (.ref (q 0)), some (.int x1), some (.int x2), some (.int x3), some (.ref (q nn))] rfl (pq_aload4 (pq_iload_n1 (pq_iload_n2 (pq_iv2_7 ?_)))))))
  refine And.intro (Exists.intro _ (cw_ro_o hI.1 ro_nn)) (Exists.intro _ (Exists.intro _ (Exists.intro _ (Exists.intro _ (And.intro (c_X7_isSpan hI hs ro_nn x1 x2 ) (And.intro rfl (fun r9 A9 h9 => ?_)))))))
  rcases h9 with ⟨y2, rfl, rfl, ⟨rfl, by2⟩ | ⟨rfl, by2⟩⟩
  · skip
    have k1 : (1 : Int32).toInt = 1 := rfl
    refine pq_id1 (pq_icond_ne ?_)
    refine And.intro (fun _ => ?_) (fun c9 => absurd c9 (by decide))
    refine hC.1 1 21 _ _ rfl _ _ _ _ _ ?_
    refine pq_aload_n0 (qgc_0_3 hI.1 (pq_aload4 (pq_iload_n1 (pq_iload_n2 (pq_iv3_1 ?_)))))
    refine And.intro (Exists.intro _ (cw_o4 hI.1)) (Exists.intro _ (Exists.intro _ (Exists.intro _ (Exists.intro _ (And.intro (c_X1_findNearestAlike hI hs ro_nn x1 x2 (by omega)) (And.intro rfl (fun r9 A9 h9 => ?_)))))))
    rcases h9 with ⟨v5, f5, rfl, hs5, rfl, by4⟩
    refine pq_id0 (pq_aload_n0 (qgc_0_3 hI.1 (pq_iload_n3 (pq_iv1_1 ?_))))
    refine And.intro (Exists.intro _ (cw_o4 hI.1)) (Exists.intro _ (Exists.intro _ (Exists.intro _ (Exists.intro _ (And.intro (c_X1_pairFound hI hs5 x3 ) (And.intro rfl (fun r9 A9 h9 => ?_)))))))
    obtain ⟨y6, rfl, rfl, by6⟩ := h9
    refine pq_id1 (pq_iret ?_)
    exact ⟨rfl, fun e9 => absurd e9 (by decide), rfl, v5, f5, rfl, hs5, y6, rfl, by exact True.intro⟩
  · skip
    have k0 : (0 : Int32).toInt = 0 := rfl
    refine pq_id1 (pq_icond_ne ?_)
    refine And.intro (fun c9 => absurd c9 (by decide)) (fun _ => ?_)
    have km1 : (-1 : Int32).toInt = -1 := rfl
    refine pq_iconst (pq_iret ?_)
    exact ⟨rfl, fun e9 => absurd e9 (by decide), rfl, v, f, rfl, hs, (-1 : Int32), rfl, by exact True.intro⟩

set_option maxRecDepth 100000 in
set_option maxHeartbeats 2000000 in
theorem c_X10_sides (hI : cw_I K nn dn q w e) (hs : cw_S v f) (x1 : Int32) (x2 : Int32)  : pm_Mt l g 85 2 0 0 [.ref (q 0), .int x1, .int x2] (cw A0 g K nn dn q w e v f) (cw_Qs A0 g K nn dn q w e (fun r v2 f2 => ∃ x : Int32, r = some (.int x) ∧ (True))) := by
  refine mt_X10_sides rfl (fun J hC => ?_)
  have ro_nn : cw_ro K nn := hI.2.1.2.1
  have ro_dn : cw_ro K dn := hI.2.1.2.2.1
  have hu1 := hI.2.1
  unfold cw_W at hu1
  have rg_x1 := pm_rng x1
  have rg_x2 := pm_rng x2
  have zz0 := cw_sz hI ro_nn
  show J 0 [some (.ref (q 0)), some (.int x1), some (.int x2), none] [] (cw A0 g K nn dn q w e v f) 0 0
  refine hC.1 0 0 _ _ rfl _ _ _ _ _ ?_
  refine pq_aload_n0 (qgc_0_0 hI.1 (qgc_1_4 hI.1 (pq_astore_n [some (.ref (q 0)), some (.int x1), some (.int x2), some (.ref (q nn))] rfl (pq_aload_n3 (pq_iload_n1 (pq_iload_n2 (pq_iv2_7 ?_)))))))
  refine And.intro (Exists.intro _ (cw_ro_o hI.1 ro_nn)) (Exists.intro _ (Exists.intro _ (Exists.intro _ (Exists.intro _ (And.intro (c_X7_isSpan hI hs ro_nn x1 x2 ) (And.intro rfl (fun r9 A9 h9 => ?_)))))))
  rcases h9 with ⟨y2, rfl, rfl, ⟨rfl, by2⟩ | ⟨rfl, by2⟩⟩
  · skip
    have k1 : (1 : Int32).toInt = 1 := rfl
    refine pq_id1 (pq_icond_eq ?_)
    refine And.intro (fun c9 => absurd c9 (by decide)) (fun _ => ?_)
    refine pq_aload_n0 (qgc_0_3 hI.1 (pq_aload_n3 (pq_iload_n1 (pq_iload_n2 (pq_iv3_1 ?_)))))
    refine And.intro (Exists.intro _ (cw_o4 hI.1)) (Exists.intro _ (Exists.intro _ (Exists.intro _ (Exists.intro _ (And.intro (c_X1_unlikeTwos hI hs ro_nn x1 x2 (by omega)) (And.intro rfl (fun r9 A9 h9 => ?_)))))))
    rcases h9 with ⟨v5, f5, rfl, hs5, y4, rfl, by4⟩
    refine pq_id1 (pq_goto ?_)
    refine hC.1 2 31 _ _ rfl _ _ _ _ _ ?_
    refine pq_iret ?_
    exact ⟨rfl, fun e9 => absurd e9 (by decide), rfl, v5, f5, rfl, hs5, y4, rfl, by exact True.intro⟩
  · skip
    have k0 : (0 : Int32).toInt = 0 := rfl
    refine pq_id1 (pq_icond_eq ?_)
    refine And.intro (fun _ => ?_) (fun c9 => absurd c9 (by decide))
    refine hC.1 1 30 _ _ rfl _ _ _ _ _ ?_
    have km1 : (-1 : Int32).toInt = -1 := rfl
    refine pq_iconst (pq_nil ?_)
    refine hC.1 2 31 _ _ rfl _ _ _ _ _ ?_
    refine pq_iret ?_
    exact ⟨rfl, fun e9 => absurd e9 (by decide), rfl, v, f, rfl, hs, (-1 : Int32), rfl, by exact True.intro⟩

set_option maxRecDepth 100000 in
set_option maxHeartbeats 2000000 in
theorem c_X10_cover (hI : cw_I K nn dn q w e) (hs : cw_S v f) (x1 : Int32) (x2 : Int32)  : pm_Mt l g 88 4 0 0 [.ref (q 0), .int x1, .int x2] (cw A0 g K nn dn q w e v f) (cw_Qs A0 g K nn dn q w e (fun r v2 f2 => ∃ x : Int32, r = some (.int x) ∧ (True))) := by
  refine mt_X10_cover rfl (fun J hC => ?_)
  have ro_nn : cw_ro K nn := hI.2.1.2.1
  have ro_dn : cw_ro K dn := hI.2.1.2.2.1
  have hu1 := hI.2.1
  unfold cw_W at hu1
  have rg_x1 := pm_rng x1
  have rg_x2 := pm_rng x2
  have zz0 := cw_sz hI ro_nn
  show J 0 [some (.ref (q 0)), some (.int x1), some (.int x2), none] [] (cw A0 g K nn dn q w e v f) 0 0
  refine hC.1 0 0 _ _ rfl _ _ _ _ _ ?_
  refine pq_aload_n0 (qgc_0_0 hI.1 (qgc_1_4 hI.1 (pq_astore_n [some (.ref (q 0)), some (.int x1), some (.int x2), some (.ref (q nn))] rfl (pq_aload_n3 (pq_iload_n1 (pq_iload_n2 (pq_iv2_7 ?_)))))))
  refine And.intro (Exists.intro _ (cw_ro_o hI.1 ro_nn)) (Exists.intro _ (Exists.intro _ (Exists.intro _ (Exists.intro _ (And.intro (c_X7_isSpan hI hs ro_nn x1 x2 ) (And.intro rfl (fun r9 A9 h9 => ?_)))))))
  rcases h9 with ⟨y2, rfl, rfl, ⟨rfl, by2⟩ | ⟨rfl, by2⟩⟩
  · skip
    have k1 : (1 : Int32).toInt = 1 := rfl
    refine pq_id1 (pq_icond_eq ?_)
    refine And.intro (fun c9 => absurd c9 (by decide)) (fun _ => ?_)
    refine pq_aload_n0 (qgc_0_3 hI.1 (pq_aload_n3 (pq_aload_n0 (qgc_0_1 hI.1 (pq_iload_n1 (pq_iload_n2 (pq_iv4_1 ?_)))))))
    refine And.intro (Exists.intro _ (cw_o4 hI.1)) (Exists.intro _ (Exists.intro _ (Exists.intro _ (Exists.intro _ (And.intro (c_X1_coveringLength hI hs ro_nn x1 x2 (by omega)) (And.intro rfl (fun r9 A9 h9 => ?_)))))))
    rcases h9 with ⟨v5, f5, rfl, hs5, y4, rfl, by4⟩
    refine pq_id1 (pq_goto ?_)
    refine hC.1 2 35 _ _ rfl _ _ _ _ _ ?_
    refine pq_iret ?_
    exact ⟨rfl, fun e9 => absurd e9 (by decide), rfl, v5, f5, rfl, hs5, y4, rfl, by exact True.intro⟩
  · skip
    have k0 : (0 : Int32).toInt = 0 := rfl
    refine pq_id1 (pq_icond_eq ?_)
    refine And.intro (fun _ => ?_) (fun c9 => absurd c9 (by decide))
    refine hC.1 1 34 _ _ rfl _ _ _ _ _ ?_
    have km1 : (-1 : Int32).toInt = -1 := rfl
    refine pq_iconst (pq_nil ?_)
    refine hC.1 2 35 _ _ rfl _ _ _ _ _ ?_
    refine pq_iret ?_
    exact ⟨rfl, fun e9 => absurd e9 (by decide), rfl, v, f, rfl, hs, (-1 : Int32), rfl, by exact True.intro⟩

set_option maxRecDepth 100000 in
set_option maxHeartbeats 2000000 in
theorem c_X10_least (hI : cw_I K nn dn q w e) (hs : cw_S v f) (x1 : Int32) (x2 : Int32) (x3 : Int32)  : pm_Mt l g 90 4 0 0 [.ref (q 0), .int x1, .int x2, .int x3] (cw A0 g K nn dn q w e v f) (cw_Qs A0 g K nn dn q w e (fun r v2 f2 => ∃ x : Int32, r = some (.int x) ∧ (True))) := by
  refine mt_X10_least rfl (fun J hC => ?_)
  have ro_nn : cw_ro K nn := hI.2.1.2.1
  have ro_dn : cw_ro K dn := hI.2.1.2.2.1
  have hu1 := hI.2.1
  unfold cw_W at hu1
  have rg_x1 := pm_rng x1
  have rg_x2 := pm_rng x2
  have rg_x3 := pm_rng x3
  have zz0 := cw_sz hI ro_nn
  show J 0 [some (.ref (q 0)), some (.int x1), some (.int x2), some (.int x3)] [] (cw A0 g K nn dn q w e v f) 0 0
  refine hC.1 0 0 _ _ rfl _ _ _ _ _ ?_
  refine pq_iload_n3 ?_
  have k1 : (1 : Int32).toInt = 1 := rfl
  refine pq_iconst (pq_icmp_lt ?_)
  refine And.intro (fun c2 => ?_) (fun c2 => ?_)
  · skip
    refine hC.1 1 33 _ _ rfl _ _ _ _ _ ?_
    have km1 : (-1 : Int32).toInt = -1 := rfl
    refine pq_iconst (pq_nil ?_)
    refine hC.1 2 34 _ _ rfl _ _ _ _ _ ?_
    refine pq_iret ?_
    exact ⟨rfl, fun e9 => absurd e9 (by decide), rfl, v, f, rfl, hs, (-1 : Int32), rfl, by exact True.intro⟩
  · skip
    refine pq_aload_n0 (pq_iload_n1 (pq_iload_n2 (pq_iv2_10 ?_)))
    refine And.intro (Exists.intro _ (cw_o0 hI.1)) (Exists.intro _ (Exists.intro _ (Exists.intro _ (Exists.intro _ (And.intro (c_X10_readSpan hI hs x1 x2 ) (And.intro rfl (fun r9 A9 h9 => ?_)))))))
    rcases h9 with ⟨v4, f4, rfl, hs4, hzy3⟩
    rcases hzy3 with ⟨rfl, by3⟩ | ⟨rfl, by3⟩
    · skip
      refine pq_id1 (pq_icond_eq ?_)
      refine And.intro (fun c9 => absurd c9 (by decide)) (fun _ => ?_)
      refine pq_aload_n0 (qgc_0_1 hI.1 (qgc_2_2 hI.1 (pq_aload_n0 (qgc_0_1 hI.1 (pq_iload_n3 (pq_iv1_2 ?_))))))
      refine And.intro (Exists.intro _ (cw_o2 hI.1)) (Exists.intro _ (Exists.intro _ (Exists.intro _ (Exists.intro _ (And.intro (c_X2_placesOfLargest hI hs4 x3 ) (And.intro rfl (fun r9 A9 h9 => ?_)))))))
      obtain ⟨y5, rfl, rfl, by5⟩ := h9
      refine pq_id1 (pq_isub ?_)
      intro m7 em_29
      try have e7 : m7.toInt = ((v4 1)).toInt - (y5).toInt := by rw [em_29]; exact pm_sub _ _ (by omega) (by omega)
      refine pq_goto ?_
      refine hC.1 2 34 _ _ rfl _ _ _ _ _ ?_
      refine pq_iret ?_
      exact ⟨rfl, fun e9 => absurd e9 (by decide), rfl, v4, f4, rfl, hs4, m7, rfl, by exact True.intro⟩
    · skip
      have k0 : (0 : Int32).toInt = 0 := rfl
      refine pq_id1 (pq_icond_eq ?_)
      refine And.intro (fun _ => ?_) (fun c9 => absurd c9 (by decide))
      refine hC.1 1 33 _ _ rfl _ _ _ _ _ ?_
      have km1 : (-1 : Int32).toInt = -1 := rfl
      refine pq_iconst (pq_nil ?_)
      refine hC.1 2 34 _ _ rfl _ _ _ _ _ ?_
      refine pq_iret ?_
      exact ⟨rfl, fun e9 => absurd e9 (by decide), rfl, v4, f4, rfl, hs4, (-1 : Int32), rfl, by exact True.intro⟩

set_option maxRecDepth 100000 in
set_option maxHeartbeats 2000000 in
theorem c_X10_fair (hI : cw_I K nn dn q w e) (hs : cw_S v f) (x1 : Int32) (x2 : Int32) (x3 : Int32)  : pm_Mt l g 93 4 0 0 [.ref (q 0), .int x1, .int x2, .int x3] (cw A0 g K nn dn q w e v f) (cw_Qs A0 g K nn dn q w e (fun r v2 f2 => ∃ x : Int32, r = some (.int x) ∧ (True))) := by
  refine mt_X10_fair rfl (fun J hC => ?_)
  have ro_nn : cw_ro K nn := hI.2.1.2.1
  have ro_dn : cw_ro K dn := hI.2.1.2.2.1
  have hu1 := hI.2.1
  unfold cw_W at hu1
  have rg_x1 := pm_rng x1
  have rg_x2 := pm_rng x2
  have rg_x3 := pm_rng x3
  have zz0 := cw_sz hI ro_nn
  show J 0 [some (.ref (q 0)), some (.int x1), some (.int x2), some (.int x3)] [] (cw A0 g K nn dn q w e v f) 0 0
  refine hC.1 0 0 _ _ rfl _ _ _ _ _ ?_
  refine pq_iload_n3 ?_
  have k1 : (1 : Int32).toInt = 1 := rfl
  refine pq_iconst (pq_icmp_lt ?_)
  refine And.intro (fun c2 => ?_) (fun c2 => ?_)
  · skip
    refine hC.1 1 25 _ _ rfl _ _ _ _ _ ?_
    have km1 : (-1 : Int32).toInt = -1 := rfl
    refine pq_iconst (pq_nil ?_)
    refine hC.1 2 26 _ _ rfl _ _ _ _ _ ?_
    refine pq_iret ?_
    exact ⟨rfl, fun e9 => absurd e9 (by decide), rfl, v, f, rfl, hs, (-1 : Int32), rfl, by exact True.intro⟩
  · skip
    refine pq_aload_n0 (pq_iload_n1 (pq_iload_n2 (pq_iv2_10 ?_)))
    refine And.intro (Exists.intro _ (cw_o0 hI.1)) (Exists.intro _ (Exists.intro _ (Exists.intro _ (Exists.intro _ (And.intro (c_X10_readSpan hI hs x1 x2 ) (And.intro rfl (fun r9 A9 h9 => ?_)))))))
    rcases h9 with ⟨v4, f4, rfl, hs4, hzy3⟩
    rcases hzy3 with ⟨rfl, by3⟩ | ⟨rfl, by3⟩
    · skip
      refine pq_id1 (pq_icond_eq ?_)
      refine And.intro (fun c9 => absurd c9 (by decide)) (fun _ => ?_)
      refine pq_aload_n0 (qgc_0_1 hI.1 (pq_iload_n3 (pq_iv1_2 ?_)))
      refine And.intro (Exists.intro _ (cw_o2 hI.1)) (Exists.intro _ (Exists.intro _ (Exists.intro _ (Exists.intro _ (And.intro (c_X2_largerThanPart hI hs4 x3 ) (And.intro rfl (fun r9 A9 h9 => ?_)))))))
      obtain ⟨y5, rfl, rfl, by5⟩ := h9
      refine pq_id1 (pq_goto ?_)
      refine hC.1 2 26 _ _ rfl _ _ _ _ _ ?_
      refine pq_iret ?_
      exact ⟨rfl, fun e9 => absurd e9 (by decide), rfl, v4, f4, rfl, hs4, y5, rfl, by exact True.intro⟩
    · skip
      have k0 : (0 : Int32).toInt = 0 := rfl
      refine pq_id1 (pq_icond_eq ?_)
      refine And.intro (fun _ => ?_) (fun c9 => absurd c9 (by decide))
      refine hC.1 1 25 _ _ rfl _ _ _ _ _ ?_
      have km1 : (-1 : Int32).toInt = -1 := rfl
      refine pq_iconst (pq_nil ?_)
      refine hC.1 2 26 _ _ rfl _ _ _ _ _ ?_
      refine pq_iret ?_
      exact ⟨rfl, fun e9 => absurd e9 (by decide), rfl, v4, f4, rfl, hs4, (-1 : Int32), rfl, by exact True.intro⟩

set_option maxRecDepth 100000 in
set_option maxHeartbeats 2000000 in
theorem c_X10_alike (hI : cw_I K nn dn q w e) (hs : cw_S v f) (x1 : Int32) (x2 : Int32)  : pm_Mt l g 94 4 0 0 [.ref (q 0), .int x1, .int x2] (cw A0 g K nn dn q w e v f) (cw_Qs A0 g K nn dn q w e (fun r v2 f2 => ∃ x : Int32, r = some (.int x) ∧ (True))) := by
  refine mt_X10_alike rfl (fun J hC => ?_)
  have ro_nn : cw_ro K nn := hI.2.1.2.1
  have ro_dn : cw_ro K dn := hI.2.1.2.2.1
  have hu1 := hI.2.1
  unfold cw_W at hu1
  have rg_x1 := pm_rng x1
  have rg_x2 := pm_rng x2
  have zz0 := cw_sz hI ro_nn
  show J 0 [some (.ref (q 0)), some (.int x1), some (.int x2)] [] (cw A0 g K nn dn q w e v f) 0 0
  refine hC.1 0 0 _ _ rfl _ _ _ _ _ ?_
  refine pq_aload_n0 (pq_iload_n1 (pq_iload_n2 (pq_iv2_10 ?_)))
  refine And.intro (Exists.intro _ (cw_o0 hI.1)) (Exists.intro _ (Exists.intro _ (Exists.intro _ (Exists.intro _ (And.intro (c_X10_readSpan hI hs x1 x2 ) (And.intro rfl (fun r9 A9 h9 => ?_)))))))
  rcases h9 with ⟨v3, f3, rfl, hs3, hzy2⟩
  rcases hzy2 with ⟨rfl, by2⟩ | ⟨rfl, by2⟩
  · skip
    have k1 : (1 : Int32).toInt = 1 := rfl
    refine pq_id1 (pq_icond_eq ?_)
    refine And.intro (fun c9 => absurd c9 (by decide)) (fun _ => ?_)
    refine pq_aload_n0 (qgc_0_1 hI.1 (pq_iv0_2 ?_))
    refine And.intro (Exists.intro _ (cw_o2 hI.1)) (Exists.intro _ (Exists.intro _ (Exists.intro _ (Exists.intro _ (And.intro (c_X2_twosAlike hI hs3  ) (And.intro rfl (fun r9 A9 h9 => ?_)))))))
    obtain ⟨y4, rfl, rfl, by4⟩ := h9
    refine pq_id1 (pq_goto ?_)
    refine hC.1 2 20 _ _ rfl _ _ _ _ _ ?_
    refine pq_iret ?_
    exact ⟨rfl, fun e9 => absurd e9 (by decide), rfl, v3, f3, rfl, hs3, y4, rfl, by exact True.intro⟩
  · skip
    have k0 : (0 : Int32).toInt = 0 := rfl
    refine pq_id1 (pq_icond_eq ?_)
    refine And.intro (fun _ => ?_) (fun c9 => absurd c9 (by decide))
    refine hC.1 1 19 _ _ rfl _ _ _ _ _ ?_
    have km1 : (-1 : Int32).toInt = -1 := rfl
    refine pq_iconst (pq_nil ?_)
    refine hC.1 2 20 _ _ rfl _ _ _ _ _ ?_
    refine pq_iret ?_
    exact ⟨rfl, fun e9 => absurd e9 (by decide), rfl, v3, f3, rfl, hs3, (-1 : Int32), rfl, by exact True.intro⟩

set_option maxRecDepth 100000 in
set_option maxHeartbeats 2000000 in
theorem c_X10_even (hI : cw_I K nn dn q w e) (hs : cw_S v f) (x1 : Int32) (x2 : Int32)  : pm_Mt l g 96 3 0 0 [.ref (q 0), .int x1, .int x2] (cw A0 g K nn dn q w e v f) (cw_Qs A0 g K nn dn q w e (fun r v2 f2 => ∃ x : Int32, r = some (.int x) ∧ (True))) := by
  refine mt_X10_even rfl (fun J hC => ?_)
  have ro_nn : cw_ro K nn := hI.2.1.2.1
  have ro_dn : cw_ro K dn := hI.2.1.2.2.1
  have hu1 := hI.2.1
  unfold cw_W at hu1
  have rg_x1 := pm_rng x1
  have rg_x2 := pm_rng x2
  have zz0 := cw_sz hI ro_nn
  show J 0 [some (.ref (q 0)), some (.int x1), some (.int x2), none] [] (cw A0 g K nn dn q w e v f) 0 0
  refine hC.1 0 0 _ _ rfl _ _ _ _ _ ?_
  refine pq_aload_n0 (qgc_0_0 hI.1 (qgc_1_4 hI.1 (pq_astore_n [some (.ref (q 0)), some (.int x1), some (.int x2), some (.ref (q nn))] rfl (pq_aload_n3 (pq_iload_n1 (pq_iload_n2 (pq_iv2_7 ?_)))))))
  refine And.intro (Exists.intro _ (cw_ro_o hI.1 ro_nn)) (Exists.intro _ (Exists.intro _ (Exists.intro _ (Exists.intro _ (And.intro (c_X7_isSpan hI hs ro_nn x1 x2 ) (And.intro rfl (fun r9 A9 h9 => ?_)))))))
  rcases h9 with ⟨y2, rfl, rfl, ⟨rfl, by2⟩ | ⟨rfl, by2⟩⟩
  · skip
    have k1 : (1 : Int32).toInt = 1 := rfl
    refine pq_id1 (pq_icond_eq ?_)
    refine And.intro (fun c9 => absurd c9 (by decide)) (fun _ => ?_)
    refine pq_aload_n0 (qgc_0_3 hI.1 (pq_aload_n3 (pq_aload_n0 (qgc_0_1 hI.1 (pq_iload_n1 (pq_iload_n2 (pq_iv4_1 ?_)))))))
    refine And.intro (Exists.intro _ (cw_o4 hI.1)) (Exists.intro _ (Exists.intro _ (Exists.intro _ (Exists.intro _ (And.intro (c_X1_evenestEnd hI hs ro_nn x1 x2 (by omega)) (And.intro rfl (fun r9 A9 h9 => ?_)))))))
    rcases h9 with ⟨v5, f5, rfl, hs5, y4, rfl, by4⟩
    refine pq_id1 (pq_goto ?_)
    refine hC.1 2 35 _ _ rfl _ _ _ _ _ ?_
    refine pq_iret ?_
    exact ⟨rfl, fun e9 => absurd e9 (by decide), rfl, v5, f5, rfl, hs5, y4, rfl, by exact True.intro⟩
  · skip
    have k0 : (0 : Int32).toInt = 0 := rfl
    refine pq_id1 (pq_icond_eq ?_)
    refine And.intro (fun _ => ?_) (fun c9 => absurd c9 (by decide))
    refine hC.1 1 34 _ _ rfl _ _ _ _ _ ?_
    have km1 : (-1 : Int32).toInt = -1 := rfl
    refine pq_iconst (pq_nil ?_)
    refine hC.1 2 35 _ _ rfl _ _ _ _ _ ?_
    refine pq_iret ?_
    exact ⟨rfl, fun e9 => absurd e9 (by decide), rfl, v, f, rfl, hs, (-1 : Int32), rfl, by exact True.intro⟩

set_option maxRecDepth 100000 in
set_option maxHeartbeats 2000000 in
theorem c_X10_apart (hI : cw_I K nn dn q w e) (hs : cw_S v f) (x1 : Int32) (x2 : Int32) (x3 : Int32)  : pm_Mt l g 98 2 0 0 [.ref (q 0), .int x1, .int x2, .int x3] (cw A0 g K nn dn q w e v f) (cw_Qs A0 g K nn dn q w e (fun r v2 f2 => ∃ x : Int32, r = some (.int x) ∧ (True))) := by
  refine mt_X10_apart rfl (fun J hC => ?_)
  have ro_nn : cw_ro K nn := hI.2.1.2.1
  have ro_dn : cw_ro K dn := hI.2.1.2.2.1
  have hu1 := hI.2.1
  unfold cw_W at hu1
  have rg_x1 := pm_rng x1
  have rg_x2 := pm_rng x2
  have rg_x3 := pm_rng x3
  have zz0 := cw_sz hI ro_nn
  show J 0 [some (.ref (q 0)), some (.int x1), some (.int x2), some (.int x3)] [] (cw A0 g K nn dn q w e v f) 0 0
  refine hC.1 0 0 _ _ rfl _ _ _ _ _ ?_
  refine pq_iload_n1 (pq_iload_n2 (pq_is2 ?_))
  refine Exists.intro _ (Exists.intro _ (Exists.intro _ (Exists.intro _ (And.intro (c_X10_areUnlikeColours (cw A0 g K nn dn q w e v f) x1 x2 ) (And.intro rfl (fun r9 A9 h9 => ?_))))))
  rcases h9 with ⟨y2, rfl, rfl, ⟨rfl, by2⟩ | ⟨rfl, by2⟩⟩
  · skip
    have k1 : (1 : Int32).toInt = 1 := rfl
    refine pq_id1 (pq_icond_ne ?_)
    refine And.intro (fun _ => ?_) (fun c9 => absurd c9 (by decide))
    refine hC.1 1 10 _ _ rfl _ _ _ _ _ ?_
    refine pq_aload_n0 (qgc_0_3 hI.1 (pq_aload_n0 (qgc_0_0 hI.1 (qgc_1_4 hI.1 (pq_iload_n1 (pq_iload_n2 (pq_iv3_1 ?_)))))))
    refine And.intro (Exists.intro _ (cw_o4 hI.1)) (Exists.intro _ (Exists.intro _ (Exists.intro _ (Exists.intro _ (And.intro (c_X1_findNearestOfTwo hI hs ro_nn x1 x2 ) (And.intro rfl (fun r9 A9 h9 => ?_)))))))
    rcases h9 with ⟨v5, f5, rfl, hs5, rfl, by4⟩
    refine pq_id0 (pq_aload_n0 (qgc_0_3 hI.1 (pq_iload_n3 (pq_iv1_1 ?_))))
    refine And.intro (Exists.intro _ (cw_o4 hI.1)) (Exists.intro _ (Exists.intro _ (Exists.intro _ (Exists.intro _ (And.intro (c_X1_pairFound hI hs5 x3 ) (And.intro rfl (fun r9 A9 h9 => ?_)))))))
    obtain ⟨y6, rfl, rfl, by6⟩ := h9
    refine pq_id1 (pq_iret ?_)
    exact ⟨rfl, fun e9 => absurd e9 (by decide), rfl, v5, f5, rfl, hs5, y6, rfl, by exact True.intro⟩
  · skip
    have k0 : (0 : Int32).toInt = 0 := rfl
    refine pq_id1 (pq_icond_ne ?_)
    refine And.intro (fun c9 => absurd c9 (by decide)) (fun _ => ?_)
    have km1 : (-1 : Int32).toInt = -1 := rfl
    refine pq_iconst (pq_iret ?_)
    exact ⟨rfl, fun e9 => absurd e9 (by decide), rfl, v, f, rfl, hs, (-1 : Int32), rfl, by exact True.intro⟩

set_option maxRecDepth 100000 in
set_option maxHeartbeats 2000000 in
theorem c_X10_reach (hI : cw_I K nn dn q w e) (hs : cw_S v f) (x1 : Int32) (x2 : Int32)  : pm_Mt l g 100 3 0 0 [.ref (q 0), .int x1, .int x2] (cw A0 g K nn dn q w e v f) (cw_Qs A0 g K nn dn q w e (fun r v2 f2 => ∃ x : Int32, r = some (.int x) ∧ (True))) := by
  refine mt_X10_reach rfl (fun J hC => ?_)
  have ro_nn : cw_ro K nn := hI.2.1.2.1
  have ro_dn : cw_ro K dn := hI.2.1.2.2.1
  have hu1 := hI.2.1
  unfold cw_W at hu1
  have rg_x1 := pm_rng x1
  have rg_x2 := pm_rng x2
  have zz0 := cw_sz hI ro_nn
  show J 0 [some (.ref (q 0)), some (.int x1), some (.int x2), none] [] (cw A0 g K nn dn q w e v f) 0 0
  refine hC.1 0 0 _ _ rfl _ _ _ _ _ ?_
  refine pq_aload_n0 (qgc_0_0 hI.1 (qgc_1_4 hI.1 (pq_astore_n [some (.ref (q 0)), some (.int x1), some (.int x2), some (.ref (q nn))] rfl (pq_iload_n2 ?_))))
  have k1 : (1 : Int32).toInt = 1 := rfl
  refine pq_iconst (pq_icmp_lt ?_)
  refine And.intro (fun c2 => ?_) (fun c2 => ?_)
  · skip
    refine hC.1 1 38 _ _ rfl _ _ _ _ _ ?_
    have km1 : (-1 : Int32).toInt = -1 := rfl
    refine pq_iconst (pq_nil ?_)
    refine hC.1 2 39 _ _ rfl _ _ _ _ _ ?_
    refine pq_iret ?_
    exact ⟨rfl, fun e9 => absurd e9 (by decide), rfl, v, f, rfl, hs, (-1 : Int32), rfl, by exact True.intro⟩
  · skip
    refine pq_aload_n3 (pq_iload_n1 (pq_iv1_7 ?_))
    refine And.intro (Exists.intro _ (cw_ro_o hI.1 ro_nn)) (Exists.intro _ (Exists.intro _ (Exists.intro _ (Exists.intro _ (And.intro (c_X7_has hI hs ro_nn x1 ) (And.intro rfl (fun r9 A9 h9 => ?_)))))))
    rcases h9 with ⟨y3, rfl, rfl, ⟨rfl, by3⟩ | ⟨rfl, by3⟩⟩
    · skip
      refine pq_id1 (pq_icond_eq ?_)
      refine And.intro (fun c9 => absurd c9 (by decide)) (fun _ => ?_)
      refine pq_aload_n0 (qgc_0_4 hI.1 (pq_aload_n3 (pq_aload_n0 (qgc_0_1 hI.1 (pq_iload_n1 (pq_iload_n2 (pq_iv4_6 ?_)))))))
      refine And.intro (Exists.intro _ (cw_o5 hI.1)) (Exists.intro _ (Exists.intro _ (Exists.intro _ (Exists.intro _ (And.intro (c_X6_forColours hI hs ro_nn x1 x2 (by omega)) (And.intro rfl (fun r9 A9 h9 => ?_)))))))
      rcases h9 with ⟨v6, f6, rfl, hs6, y5, rfl, by5⟩
      refine pq_id1 (pq_goto ?_)
      refine hC.1 2 39 _ _ rfl _ _ _ _ _ ?_
      refine pq_iret ?_
      exact ⟨rfl, fun e9 => absurd e9 (by decide), rfl, v6, f6, rfl, hs6, y5, rfl, by exact True.intro⟩
    · skip
      have k0 : (0 : Int32).toInt = 0 := rfl
      refine pq_id1 (pq_icond_eq ?_)
      refine And.intro (fun _ => ?_) (fun c9 => absurd c9 (by decide))
      refine hC.1 1 38 _ _ rfl _ _ _ _ _ ?_
      have km1 : (-1 : Int32).toInt = -1 := rfl
      refine pq_iconst (pq_nil ?_)
      refine hC.1 2 39 _ _ rfl _ _ _ _ _ ?_
      refine pq_iret ?_
      exact ⟨rfl, fun e9 => absurd e9 (by decide), rfl, v, f, rfl, hs, (-1 : Int32), rfl, by exact True.intro⟩

set_option maxRecDepth 100000 in
set_option maxHeartbeats 2000000 in
theorem c_X10_load (hI : cw_I K nn dn q w e) (hs : cw_S v f) (x1 : Int32) (x2 : Int32)  : pm_Mt l g 104 3 0 0 [.ref (q 0), .int x1, .int x2] (cw A0 g K nn dn q w e v f) (cw_Qs A0 g K nn dn q w e (fun r v2 f2 => ∃ x : Int32, r = some (.int x) ∧ (True))) := by
  refine mt_X10_load rfl (fun J hC => ?_)
  have ro_nn : cw_ro K nn := hI.2.1.2.1
  have ro_dn : cw_ro K dn := hI.2.1.2.2.1
  have hu1 := hI.2.1
  unfold cw_W at hu1
  have rg_x1 := pm_rng x1
  have rg_x2 := pm_rng x2
  have zz0 := cw_sz hI ro_nn
  show J 0 [some (.ref (q 0)), some (.int x1), some (.int x2), none] [] (cw A0 g K nn dn q w e v f) 0 0
  refine hC.1 0 0 _ _ rfl _ _ _ _ _ ?_
  refine pq_aload_n0 (qgc_0_0 hI.1 (qgc_1_4 hI.1 (pq_astore_n [some (.ref (q 0)), some (.int x1), some (.int x2), some (.ref (q nn))] rfl (pq_iload_n2 ?_))))
  have k1 : (1 : Int32).toInt = 1 := rfl
  refine pq_iconst (pq_icmp_lt ?_)
  refine And.intro (fun c2 => ?_) (fun c2 => ?_)
  · skip
    refine hC.1 1 38 _ _ rfl _ _ _ _ _ ?_
    have km1 : (-1 : Int32).toInt = -1 := rfl
    refine pq_iconst (pq_nil ?_)
    refine hC.1 2 39 _ _ rfl _ _ _ _ _ ?_
    refine pq_iret ?_
    exact ⟨rfl, fun e9 => absurd e9 (by decide), rfl, v, f, rfl, hs, (-1 : Int32), rfl, by exact True.intro⟩
  · skip
    refine pq_aload_n3 (pq_iload_n1 (pq_iv1_7 ?_))
    refine And.intro (Exists.intro _ (cw_ro_o hI.1 ro_nn)) (Exists.intro _ (Exists.intro _ (Exists.intro _ (Exists.intro _ (And.intro (c_X7_has hI hs ro_nn x1 ) (And.intro rfl (fun r9 A9 h9 => ?_)))))))
    rcases h9 with ⟨y3, rfl, rfl, ⟨rfl, by3⟩ | ⟨rfl, by3⟩⟩
    · skip
      refine pq_id1 (pq_icond_eq ?_)
      refine And.intro (fun c9 => absurd c9 (by decide)) (fun _ => ?_)
      refine pq_aload_n0 (qgc_0_4 hI.1 (pq_aload_n3 (pq_aload_n0 (qgc_0_1 hI.1 (pq_iload_n1 (pq_iload_n2 (pq_iv4_6 ?_)))))))
      refine And.intro (Exists.intro _ (cw_o5 hI.1)) (Exists.intro _ (Exists.intro _ (Exists.intro _ (Exists.intro _ (And.intro (c_X6_forMass hI hs ro_nn x1 x2 (by omega)) (And.intro rfl (fun r9 A9 h9 => ?_)))))))
      rcases h9 with ⟨v6, f6, rfl, hs6, y5, rfl, by5⟩
      refine pq_id1 (pq_goto ?_)
      refine hC.1 2 39 _ _ rfl _ _ _ _ _ ?_
      refine pq_iret ?_
      exact ⟨rfl, fun e9 => absurd e9 (by decide), rfl, v6, f6, rfl, hs6, y5, rfl, by exact True.intro⟩
    · skip
      have k0 : (0 : Int32).toInt = 0 := rfl
      refine pq_id1 (pq_icond_eq ?_)
      refine And.intro (fun _ => ?_) (fun c9 => absurd c9 (by decide))
      refine hC.1 1 38 _ _ rfl _ _ _ _ _ ?_
      have km1 : (-1 : Int32).toInt = -1 := rfl
      refine pq_iconst (pq_nil ?_)
      refine hC.1 2 39 _ _ rfl _ _ _ _ _ ?_
      refine pq_iret ?_
      exact ⟨rfl, fun e9 => absurd e9 (by decide), rfl, v, f, rfl, hs, (-1 : Int32), rfl, by exact True.intro⟩

set_option maxRecDepth 100000 in
set_option maxHeartbeats 2000000 in
theorem c_X10_window (hI : cw_I K nn dn q w e) (hs : cw_S v f) (x1 : Int32) (x2 : Int32)  : pm_Mt l g 106 3 0 0 [.ref (q 0), .int x1, .int x2] (cw A0 g K nn dn q w e v f) (cw_Qs A0 g K nn dn q w e (fun r v2 f2 => ∃ x : Int32, r = some (.int x) ∧ (True))) := by
  refine mt_X10_window rfl (fun J hC => ?_)
  have ro_nn : cw_ro K nn := hI.2.1.2.1
  have ro_dn : cw_ro K dn := hI.2.1.2.2.1
  have hu1 := hI.2.1
  unfold cw_W at hu1
  have rg_x1 := pm_rng x1
  have rg_x2 := pm_rng x2
  have zz0 := cw_sz hI ro_nn
  show J 0 [some (.ref (q 0)), some (.int x1), some (.int x2), none] [] (cw A0 g K nn dn q w e v f) 0 0
  refine hC.1 0 0 _ _ rfl _ _ _ _ _ ?_
  refine pq_iload_n1 ?_
  have k16777215 : (16777215 : Int32).toInt = 16777215 := rfl
  refine pq_ldc (pq_iand (pq_istore_n [some (.ref (q 0)), some (.int x1), some (.int x2), some (.int (x1 &&& (16777215 : Int32)))] rfl (pq_iload_n3 (pq_icond_ne ?_))))
  refine And.intro (fun c2 => ?_) (fun c2 => ?_)
  · skip
    have dc2 := pm_neI c2
    have k0 : (0 : Int32).toInt = 0 := rfl
    refine hC.1 1 11 _ _ rfl _ _ _ _ _ ?_
    refine pq_aload_n0 (qgc_0_4 hI.1 (pq_aload_n0 (qgc_0_0 hI.1 (qgc_1_4 hI.1 (pq_iload_n3 (pq_iv2_6 ?_))))))
    refine And.intro (Exists.intro _ (cw_o5 hI.1)) (Exists.intro _ (Exists.intro _ (Exists.intro _ (Exists.intro _ (And.intro (c_X6_findShortestWith hI hs ro_nn (x1 &&& (16777215 : Int32)) ) (And.intro rfl (fun r9 A9 h9 => ?_)))))))
    rcases h9 with ⟨v4, f4, rfl, hs4, rfl, by3⟩
    refine pq_id0 (pq_iload_n2 ?_)
    have k2 : (2 : Int32).toInt = 2 := rfl
    refine pq_iconst (pq_icmp_ne ?_)
    refine And.intro (fun c5 => ?_) (fun c5 => ?_)
    · skip
      have dc5 := pm_neI c5
      refine hC.1 2 41 _ _ rfl _ _ _ _ _ ?_
      refine pq_aload_n0 (qgc_0_4 hI.1 (pq_iload_n2 (pq_iv1_6 ?_)))
      refine And.intro (Exists.intro _ (cw_o5 hI.1)) (Exists.intro _ (Exists.intro _ (Exists.intro _ (Exists.intro _ (And.intro (c_X6_endFound hI hs4 x2 ) (And.intro rfl (fun r9 A9 h9 => ?_)))))))
      obtain ⟨y6, rfl, rfl, by6⟩ := h9
      refine pq_id1 (pq_nil ?_)
      refine hC.1 3 49 _ _ rfl _ _ _ _ _ ?_
      refine pq_iret ?_
      exact ⟨rfl, fun e9 => absurd e9 (by decide), rfl, v4, f4, rfl, hs4, y6, rfl, by exact True.intro⟩
    · skip
      have dc5 : (x2).toInt = ((2 : Int32) : Int32).toInt := congrArg Int32.toInt c5
      refine pq_aload_n0 (qgc_0_4 hI.1 (qgc_5_4 hI.1 (pq_goto ?_)))
      refine hC.1 3 49 _ _ rfl _ _ _ _ _ ?_
      refine pq_iret ?_
      exact ⟨rfl, fun e9 => absurd e9 (by decide), rfl, v4, f4, rfl, hs4, (v4 10), rfl, by exact True.intro⟩
  · skip
    have dc2 : ((x1 &&& (16777215 : Int32))).toInt = (0 : Int32).toInt := congrArg Int32.toInt c2
    have k0 : (0 : Int32).toInt = 0 := rfl
    have km1 : (-1 : Int32).toInt = -1 := rfl
    refine pq_iconst (pq_iret ?_)
    exact ⟨rfl, fun e9 => absurd e9 (by decide), rfl, v, f, rfl, hs, (-1 : Int32), rfl, by exact True.intro⟩

set_option maxRecDepth 100000 in
set_option maxHeartbeats 2000000 in
theorem c_X10_longest (hI : cw_I K nn dn q w e) (hs : cw_S v f) (x1 : Int32) (x2 : Int32)  : pm_Mt l g 111 3 0 0 [.ref (q 0), .int x1, .int x2] (cw A0 g K nn dn q w e v f) (cw_Qs A0 g K nn dn q w e (fun r v2 f2 => ∃ x : Int32, r = some (.int x) ∧ (True))) := by
  refine mt_X10_longest rfl (fun J hC => ?_)
  have ro_nn : cw_ro K nn := hI.2.1.2.1
  have ro_dn : cw_ro K dn := hI.2.1.2.2.1
  have hu1 := hI.2.1
  unfold cw_W at hu1
  have rg_x1 := pm_rng x1
  have rg_x2 := pm_rng x2
  have zz0 := cw_sz hI ro_nn
  show J 0 [some (.ref (q 0)), some (.int x1), some (.int x2)] [] (cw A0 g K nn dn q w e v f) 0 0
  refine hC.1 0 0 _ _ rfl _ _ _ _ _ ?_
  refine pq_iload_n1 ?_
  have k1 : (1 : Int32).toInt = 1 := rfl
  refine pq_iconst (pq_icmp_ge ?_)
  refine And.intro (fun c2 => ?_) (fun c2 => ?_)
  · skip
    refine hC.1 1 7 _ _ rfl _ _ _ _ _ ?_
    refine pq_aload_n0 (qgc_0_4 hI.1 (pq_aload_n0 (qgc_0_0 hI.1 (qgc_1_4 hI.1 (pq_aload_n0 (qgc_0_1 hI.1 (pq_iload_n1 (pq_iv3_6 ?_))))))))
    refine And.intro (Exists.intro _ (cw_o5 hI.1)) (Exists.intro _ (Exists.intro _ (Exists.intro _ (Exists.intro _ (And.intro (c_X6_findLongestOf hI hs ro_nn x1 ) (And.intro rfl (fun r9 A9 h9 => ?_)))))))
    rcases h9 with ⟨v4, f4, rfl, hs4, rfl, by3⟩
    refine pq_id0 (pq_aload_n0 (qgc_0_4 hI.1 (pq_iload_n2 (pq_iv1_6 ?_))))
    refine And.intro (Exists.intro _ (cw_o5 hI.1)) (Exists.intro _ (Exists.intro _ (Exists.intro _ (Exists.intro _ (And.intro (c_X6_endFound hI hs4 x2 ) (And.intro rfl (fun r9 A9 h9 => ?_)))))))
    obtain ⟨y5, rfl, rfl, by5⟩ := h9
    refine pq_id1 (pq_iret ?_)
    exact ⟨rfl, fun e9 => absurd e9 (by decide), rfl, v4, f4, rfl, hs4, y5, rfl, by exact True.intro⟩
  · skip
    have km1 : (-1 : Int32).toInt = -1 := rfl
    refine pq_iconst (pq_iret ?_)
    exact ⟨rfl, fun e9 => absurd e9 (by decide), rfl, v, f, rfl, hs, (-1 : Int32), rfl, by exact True.intro⟩

set_option maxRecDepth 100000 in
set_option maxHeartbeats 2000000 in
theorem c_X10_unlike (hI : cw_I K nn dn q w e) (hs : cw_S v f) (x1 : Int32)  : pm_Mt l g 115 2 0 0 [.ref (q 0), .int x1] (cw A0 g K nn dn q w e v f) (cw_Qs A0 g K nn dn q w e (fun r v2 f2 => ∃ x : Int32, r = some (.int x) ∧ (True))) := by
  refine mt_X10_unlike rfl (fun J hC => ?_)
  have ro_nn : cw_ro K nn := hI.2.1.2.1
  have ro_dn : cw_ro K dn := hI.2.1.2.2.1
  have hu1 := hI.2.1
  unfold cw_W at hu1
  have rg_x1 := pm_rng x1
  have zz0 := cw_sz hI ro_nn
  show J 0 [some (.ref (q 0)), some (.int x1)] [] (cw A0 g K nn dn q w e v f) 0 0
  refine hC.1 0 0 _ _ rfl _ _ _ _ _ ?_
  refine pq_aload_n0 (qgc_0_4 hI.1 (pq_aload_n0 (qgc_0_0 hI.1 (qgc_1_4 hI.1 (pq_iv1_6 ?_)))))
  refine And.intro (Exists.intro _ (cw_o5 hI.1)) (Exists.intro _ (Exists.intro _ (Exists.intro _ (Exists.intro _ (And.intro (c_X6_findLongestUnlike hI hs ro_nn ) (And.intro rfl (fun r9 A9 h9 => ?_)))))))
  rcases h9 with ⟨v3, f3, rfl, hs3, rfl, by2⟩
  refine pq_id0 (pq_aload_n0 (qgc_0_4 hI.1 (pq_iload_n1 (pq_iv1_6 ?_))))
  refine And.intro (Exists.intro _ (cw_o5 hI.1)) (Exists.intro _ (Exists.intro _ (Exists.intro _ (Exists.intro _ (And.intro (c_X6_endFound hI hs3 x1 ) (And.intro rfl (fun r9 A9 h9 => ?_)))))))
  obtain ⟨y4, rfl, rfl, by4⟩ := h9
  refine pq_id1 (pq_iret ?_)
  exact ⟨rfl, fun e9 => absurd e9 (by decide), rfl, v3, f3, rfl, hs3, y4, rfl, by exact True.intro⟩

end
end
