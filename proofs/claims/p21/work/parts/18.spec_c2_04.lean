section
variable {l : Launch} {g : pm_G} {A0 : pm_H} {K nn dn : Nat} {q : Nat → Nat} {w : Nat → Int32} {e : Nat → Nat → Int32} {v : Nat → Int32} {f : Nat → Nat → Int32}
set_option maxRecDepth 100000 in
set_option maxHeartbeats 2000000 in
theorem c_X4_matching (hI : cw_I K nn dn q w e) (hs : cw_S v f) {o1 : Nat} (ho1 : cw_ro K o1) (x2 : Int32) (x3 : Int32) (x4 : Int32) (p0 : 0 ≤ x2.toInt ∧ x2.toInt ≤ x3.toInt ∧ x3.toInt < (w o1).toInt) : pm_Mt l g 135 2 0 0 [.ref (q 7), .ref (q o1), .int x2, .int x3, .int x4] (cw A0 g K nn dn q w e v f) (md_Qp (cw A0 g K nn dn q w e v f) (fun r => True)) := by
  refine mt_X4_matching rfl (fun J hC => ?_)
  have hu1 := hI.2.1
  unfold cw_W at hu1
  have ro_nn : cw_ro K nn := hI.2.1.2.1
  have ro_dn : cw_ro K dn := hI.2.1.2.2.1
  have rg_x2 := pm_rng x2
  have rg_x3 := pm_rng x3
  have rg_x4 := pm_rng x4
  have zz0 := cw_sz hI ho1
  refine hC.1 0 0 _ _ rfl _ _ _ _ _ ?_
  have k0 : (0 : Int32).toInt = 0 := rfl
  have lp3 : ∀ (n : Nat) (z5_6 : Int32) (z6_6 : Int32), (0 ≤ z6_6.toInt ∧ z6_6.toInt ≤ 160) → 200 - z6_6.toInt < (n : Int) → J 6 [some (.ref (q 7)), some (.ref (q o1)), some (.int x2), some (.int x3), some (.int x4), some (.int z5_6), some (.int z6_6)] [] (cw A0 g K nn dn q w e v f) 0 0 := by
    intro n
    induction n with
    | zero =>
      intro z5_6 z6_6 j0_6 j1_6
      omega
    | succ n ih4 =>
      intro z5_6 z6_6 j0_6 j1_6
      refine hC.1 1 6 _ _ rfl _ _ _ _ _ ?_
      intro m5 em_9
      try have e5 : m5.toInt = (z6_6).toInt + (x3).toInt := by rw [em_9]; exact pm_add _ _ (by omega) (by omega)
      intro m6 em_11
      try have e6 : m6.toInt = (m5).toInt - (x2).toInt := by rw [em_11]; exact pm_sub _ _ (by omega) (by omega)
      refine Exists.intro _ (And.intro (cw_ro_o hI.1 ho1) ?_)
      have z7 := cw_sz hI ho1
      refine And.intro (fun c8 => ?_) (fun c8 => ?_)
      · skip
        refine hC.1 4 53 _ _ rfl _ _ _ _ _ ?_
        have km1 : (-1 : Int32).toInt = -1 := rfl
        refine And.intro (fun c9 => ?_) (fun c9 => ?_)
        · skip
          have dc9 := pm_neI c9
          refine hC.1 5 64 _ _ rfl _ _ _ _ _ ?_
          refine hC.1 6 65 _ _ rfl _ _ _ _ _ ?_
          exact ⟨rfl, fun e9 => absurd e9 (by decide), rfl, (-1 : Int32), rfl, rfl, by first | trivial | omega | (dsimp only; omega)⟩
        · skip
          have dc9 : (x4).toInt = ((-1 : Int32) : Int32).toInt := congrArg Int32.toInt c9
          refine hC.1 6 65 _ _ rfl _ _ _ _ _ ?_
          exact ⟨rfl, fun e9 => absurd e9 (by decide), rfl, z5_6, rfl, rfl, by first | trivial | omega | (dsimp only; omega)⟩
      · skip
        intro m10 em_25
        try have e10 : m10.toInt = (x3).toInt - (x2).toInt := by rw [em_25]; exact pm_sub _ _ (by omega) (by omega)
        have k1 : (1 : Int32).toInt = 1 := rfl
        intro m11 em_27
        try have e11 : m11.toInt = (m10).toInt + (1) := by rw [em_27]; exact pm_addc _ _ (1) rfl (by omega) (by omega)
        refine Exists.intro _ (Exists.intro _ (Exists.intro _ (Exists.intro _ (And.intro (c_X4_areMatching hI hs ho1 x2 z6_6 m11 (by omega) (by omega)) (And.intro rfl (fun r9 A9 h9 => ?_))))))
        rcases h9 with ⟨y12, rfl, rfl, ⟨rfl, by12⟩ | ⟨rfl, by12⟩⟩
        · skip
          refine And.intro (fun c9 => absurd c9 (by decide)) (fun _ => ?_)
          refine And.intro (fun c14 => ?_) (fun c14 => ?_)
          · skip
            have dc14 := pm_neI c14
            refine hC.1 2 44 _ _ rfl _ _ _ _ _ ?_
            intro m15 em_44
            try have e15 : m15.toInt = (z5_6).toInt + (1) := by rw [em_44]; exact pm_addc _ _ (1) rfl (by omega) (by omega)
            refine hC.1 3 47 _ _ rfl _ _ _ _ _ ?_
            intro m16 em_47
            try have e16 : m16.toInt = (z6_6).toInt + (1) := by rw [em_47]; exact pm_addc _ _ (1) rfl (by omega) (by omega)
            exact ih4 m15 m16 (by omega) (by omega)
          · skip
            have dc14 : (z5_6).toInt = (x4 : Int32).toInt := congrArg Int32.toInt c14
            exact ⟨rfl, fun e9 => absurd e9 (by decide), rfl, z6_6, rfl, rfl, by first | trivial | omega | (dsimp only; omega)⟩
        · skip
          refine And.intro (fun _ => ?_) (fun c9 => absurd c9 (by decide))
          refine hC.1 3 47 _ _ rfl _ _ _ _ _ ?_
          intro m17 em_47
          try have e17 : m17.toInt = (z6_6).toInt + (1) := by rw [em_47]; exact pm_addc _ _ (1) rfl (by omega) (by omega)
          exact ih4 z5_6 m17 (by omega) (by omega)
  exact lp3 (200 - (0 : Int32).toInt).toNat.succ (0 : Int32) (0 : Int32) (by omega) (by omega)

set_option maxRecDepth 100000 in
set_option maxHeartbeats 2000000 in
theorem c_X4_findTwinApart (hI : cw_I K nn dn q w e) (hs : cw_S v f) {o1 : Nat} (ho1 : cw_ro K o1) (x2 : Int32) (p0 : 1 ≤ x2.toInt ∧ x2.toInt < 160) : pm_Mt l g 140 1 0 0 [.ref (q 7), .ref (q o1), .int x2] (cw A0 g K nn dn q w e v f) (cw_Qs A0 g K nn dn q w e (fun r v2 f2 => r = none ∧ (True))) := by
  refine mt_X4_findTwinApart rfl (fun J hC => ?_)
  have hu1 := hI.2.1
  unfold cw_W at hu1
  have ro_nn : cw_ro K nn := hI.2.1.2.1
  have ro_dn : cw_ro K dn := hI.2.1.2.2.1
  have rg_x2 := pm_rng x2
  have zz0 := cw_sz hI ho1
  refine hC.1 0 0 _ _ rfl _ _ _ _ _ ?_
  have k0 : (0 : Int32).toInt = 0 := rfl
  have lp3 : ∀ (n : Nat) (z3_5 : Int32) (z4_5 : Int32) (v2 : Nat → Int32) (f2 : Nat → Nat → Int32), cw_S v2 f2 → (0 ≤ z4_5.toInt ∧ z4_5.toInt ≤ 160) → (0 ≤ z3_5.toInt ∧ z3_5.toInt ≤ 160) → 200 - z4_5.toInt < (n : Int) → J 5 [some (.ref (q 7)), some (.ref (q o1)), some (.int x2), some (.int z3_5), some (.int z4_5), none] [] (cw A0 g K nn dn q w e v2 f2) 0 0 := by
    intro n
    induction n with
    | zero =>
      intro z3_5 z4_5 v2 f2 hs2 j0_5 j1_5 j2_5
      omega
    | succ n ih4 =>
      intro z3_5 z4_5 v2 f2 hs2 j0_5 j1_5 j2_5
      refine hC.1 1 5 _ _ rfl _ _ _ _ _ ?_
      intro m5 em_8
      try have e5 : m5.toInt = (z4_5).toInt + (x2).toInt := by rw [em_8]; exact pm_add _ _ (by omega) (by omega)
      refine Exists.intro _ (And.intro (cw_ro_o hI.1 ho1) ?_)
      have z6 := cw_sz hI ho1
      refine And.intro (fun c7 => ?_) (fun c7 => ?_)
      · skip
        refine hC.1 6 111 _ _ rfl _ _ _ _ _ ?_
        exact ⟨rfl, rfl, v2, f2, rfl, hs2, rfl, by first | trivial | omega | (dsimp only; omega)⟩
      · skip
        refine Exists.intro _ (Exists.intro _ (Exists.intro _ (Exists.intro _ (And.intro (c_J9_max_7cf53 (cw A0 g K nn dn q w e v2 f2) z3_5 z4_5 ) (And.intro rfl (fun r9 A9 h9 => ?_))))))
        obtain ⟨y8, rfl, rfl, by8⟩ := h9
        have lp11 : ∀ (n : Nat) (z3_23 : Int32), (z4_5.toInt ≤ z3_23.toInt ∧ z3_23.toInt ≤ 160) → 200 - z3_23.toInt < (n : Int) → J 23 [some (.ref (q 7)), some (.ref (q o1)), some (.int x2), some (.int z3_23), some (.int z4_5), none] [] (cw A0 g K nn dn q w e v2 f2) 0 0 := by
          intro n
          induction n with
          | zero =>
            intro z3_23 j0_23 j1_23
            omega
          | succ n ih12 =>
            intro z3_23 j0_23 j1_23
            refine hC.1 2 23 _ _ rfl _ _ _ _ _ ?_
            intro m13 em_25
            try have e13 : m13.toInt = (z3_23).toInt + (x2).toInt := by rw [em_25]; exact pm_add _ _ (by omega) (by omega)
            refine Exists.intro _ (And.intro (cw_ro_o hI.1 ho1) ?_)
            have z14 := cw_sz hI ho1
            refine And.intro (fun c15 => ?_) (fun c15 => ?_)
            · skip
              refine hC.1 3 60 _ _ rfl _ _ _ _ _ ?_
              intro m16 em_63
              try have e16 : m16.toInt = (z3_23).toInt - (z4_5).toInt := by rw [em_63]; exact pm_sub _ _ (by omega) (by omega)
              refine Exists.intro _ (And.intro (cw_o7 hI.1) ?_)
              refine And.intro (fun c17 => ?_) (fun c17 => ?_)
              · skip
                refine hC.1 4 93 _ _ rfl _ _ _ _ _ ?_
                refine Exists.intro _ (And.intro (cw_o7 hI.1) (And.intro rfl ?_))
                rw [cw_p_twinFirst hI.1]
                obtain ⟨v18, ev18⟩ : ∃ z9, z9 = upd v2 13 z4_5 := ⟨_, rfl⟩
                rw [← ev18]
                have hs18 : cw_S v18 f2 := by rw [ev18]; exact cw_S_v hs2 13 _ (by decide)
                have ev18_0 : (v18 0).toInt = (v2 0).toInt := by rw [ev18]; rfl
                refine Exists.intro _ (And.intro (cw_o7 hI.1) (And.intro rfl ?_))
                rw [cw_p_twinLength hI.1]
                obtain ⟨v19, ev19⟩ : ∃ z9, z9 = upd v18 14 m16 := ⟨_, rfl⟩
                rw [← ev19]
                have hs19 : cw_S v19 f2 := by rw [ev19]; exact cw_S_v hs18 14 _ (by decide)
                have ev19_0 : (v19 0).toInt = (v18 0).toInt := by rw [ev19]; rfl
                refine hC.1 5 105 _ _ rfl _ _ _ _ _ ?_
                have k1 : (1 : Int32).toInt = 1 := rfl
                intro m20 em_105
                try have e20 : m20.toInt = (z4_5).toInt + (1) := by rw [em_105]; exact pm_addc _ _ (1) rfl (by omega) (by omega)
                exact hC.2 [false, false, false, false, false, true] _ _ _ _ _ _ (ih4 z3_23 m20 v19 f2 hs19 (by omega) (by omega) (by omega))
              · skip
                refine Exists.intro _ (And.intro (cw_o7 hI.1) ?_)
                refine And.intro (fun c21 => ?_) (fun c21 => ?_)
                · skip
                  have dc21 := pm_neI c21
                  refine hC.1 5 105 _ _ rfl _ _ _ _ _ ?_
                  have k1 : (1 : Int32).toInt = 1 := rfl
                  intro m22 em_105
                  try have e22 : m22.toInt = (z4_5).toInt + (1) := by rw [em_105]; exact pm_addc _ _ (1) rfl (by omega) (by omega)
                  exact hC.2 [false, false, false, false, false, true] _ _ _ _ _ _ (ih4 z3_23 m22 v2 f2 hs2 (by omega) (by omega) (by omega))
                · skip
                  have dc21 : (m16).toInt = ((v2 14) : Int32).toInt := congrArg Int32.toInt c21
                  refine Exists.intro _ (And.intro (cw_o7 hI.1) ?_)
                  refine And.intro (fun c23 => ?_) (fun c23 => ?_)
                  · skip
                    refine hC.1 5 105 _ _ rfl _ _ _ _ _ ?_
                    have k1 : (1 : Int32).toInt = 1 := rfl
                    intro m24 em_105
                    try have e24 : m24.toInt = (z4_5).toInt + (1) := by rw [em_105]; exact pm_addc _ _ (1) rfl (by omega) (by omega)
                    exact hC.2 [false, false, false, false, false, true] _ _ _ _ _ _ (ih4 z3_23 m24 v2 f2 hs2 (by omega) (by omega) (by omega))
                  · skip
                    refine hC.1 4 93 _ _ rfl _ _ _ _ _ ?_
                    refine Exists.intro _ (And.intro (cw_o7 hI.1) (And.intro rfl ?_))
                    rw [cw_p_twinFirst hI.1]
                    obtain ⟨v25, ev25⟩ : ∃ z9, z9 = upd v2 13 z4_5 := ⟨_, rfl⟩
                    rw [← ev25]
                    have hs25 : cw_S v25 f2 := by rw [ev25]; exact cw_S_v hs2 13 _ (by decide)
                    have ev25_0 : (v25 0).toInt = (v2 0).toInt := by rw [ev25]; rfl
                    refine Exists.intro _ (And.intro (cw_o7 hI.1) (And.intro rfl ?_))
                    rw [cw_p_twinLength hI.1]
                    obtain ⟨v26, ev26⟩ : ∃ z9, z9 = upd v25 14 m16 := ⟨_, rfl⟩
                    rw [← ev26]
                    have hs26 : cw_S v26 f2 := by rw [ev26]; exact cw_S_v hs25 14 _ (by decide)
                    have ev26_0 : (v26 0).toInt = (v25 0).toInt := by rw [ev26]; rfl
                    refine hC.1 5 105 _ _ rfl _ _ _ _ _ ?_
                    have k1 : (1 : Int32).toInt = 1 := rfl
                    intro m27 em_105
                    try have e27 : m27.toInt = (z4_5).toInt + (1) := by rw [em_105]; exact pm_addc _ _ (1) rfl (by omega) (by omega)
                    exact hC.2 [false, false, false, false, false, true] _ _ _ _ _ _ (ih4 z3_23 m27 v26 f2 hs26 (by omega) (by omega) (by omega))
            · skip
              refine Exists.intro _ (Exists.intro _ (Exists.intro _ (Exists.intro _ (And.intro (c_X4_stepWithin hI hs2 ho1 z4_5 z3_23 (by omega)) (And.intro rfl (fun r9 A9 h9 => ?_))))))
              obtain ⟨y28, rfl, rfl, by28⟩ := h9
              intro m30 em_44
              try have e30 : m30.toInt = (z4_5).toInt + (x2).toInt := by rw [em_44]; exact pm_add _ _ (by omega) (by omega)
              intro m31 em_47
              try have e31 : m31.toInt = (z3_23).toInt + (x2).toInt := by rw [em_47]; exact pm_add _ _ (by omega) (by omega)
              refine Exists.intro _ (Exists.intro _ (Exists.intro _ (Exists.intro _ (And.intro (c_X4_stepWithin hI hs2 ho1 m30 m31 (by omega)) (And.intro rfl (fun r9 A9 h9 => ?_))))))
              obtain ⟨y32, rfl, rfl, by32⟩ := h9
              refine And.intro (fun c34 => ?_) (fun c34 => ?_)
              · skip
                have dc34 := pm_neI c34
                refine hC.1 3 60 _ _ rfl _ _ _ _ _ ?_
                intro m35 em_63
                try have e35 : m35.toInt = (z3_23).toInt - (z4_5).toInt := by rw [em_63]; exact pm_sub _ _ (by omega) (by omega)
                refine Exists.intro _ (And.intro (cw_o7 hI.1) ?_)
                refine And.intro (fun c36 => ?_) (fun c36 => ?_)
                · skip
                  refine hC.1 4 93 _ _ rfl _ _ _ _ _ ?_
                  refine Exists.intro _ (And.intro (cw_o7 hI.1) (And.intro rfl ?_))
                  rw [cw_p_twinFirst hI.1]
                  obtain ⟨v37, ev37⟩ : ∃ z9, z9 = upd v2 13 z4_5 := ⟨_, rfl⟩
                  rw [← ev37]
                  have hs37 : cw_S v37 f2 := by rw [ev37]; exact cw_S_v hs2 13 _ (by decide)
                  have ev37_0 : (v37 0).toInt = (v2 0).toInt := by rw [ev37]; rfl
                  refine Exists.intro _ (And.intro (cw_o7 hI.1) (And.intro rfl ?_))
                  rw [cw_p_twinLength hI.1]
                  obtain ⟨v38, ev38⟩ : ∃ z9, z9 = upd v37 14 m35 := ⟨_, rfl⟩
                  rw [← ev38]
                  have hs38 : cw_S v38 f2 := by rw [ev38]; exact cw_S_v hs37 14 _ (by decide)
                  have ev38_0 : (v38 0).toInt = (v37 0).toInt := by rw [ev38]; rfl
                  refine hC.1 5 105 _ _ rfl _ _ _ _ _ ?_
                  have k1 : (1 : Int32).toInt = 1 := rfl
                  intro m39 em_105
                  try have e39 : m39.toInt = (z4_5).toInt + (1) := by rw [em_105]; exact pm_addc _ _ (1) rfl (by omega) (by omega)
                  exact hC.2 [false, false, false, false, false, true] _ _ _ _ _ _ (ih4 z3_23 m39 v38 f2 hs38 (by omega) (by omega) (by omega))
                · skip
                  refine Exists.intro _ (And.intro (cw_o7 hI.1) ?_)
                  refine And.intro (fun c40 => ?_) (fun c40 => ?_)
                  · skip
                    have dc40 := pm_neI c40
                    refine hC.1 5 105 _ _ rfl _ _ _ _ _ ?_
                    have k1 : (1 : Int32).toInt = 1 := rfl
                    intro m41 em_105
                    try have e41 : m41.toInt = (z4_5).toInt + (1) := by rw [em_105]; exact pm_addc _ _ (1) rfl (by omega) (by omega)
                    exact hC.2 [false, false, false, false, false, true] _ _ _ _ _ _ (ih4 z3_23 m41 v2 f2 hs2 (by omega) (by omega) (by omega))
                  · skip
                    have dc40 : (m35).toInt = ((v2 14) : Int32).toInt := congrArg Int32.toInt c40
                    refine Exists.intro _ (And.intro (cw_o7 hI.1) ?_)
                    refine And.intro (fun c42 => ?_) (fun c42 => ?_)
                    · skip
                      refine hC.1 5 105 _ _ rfl _ _ _ _ _ ?_
                      have k1 : (1 : Int32).toInt = 1 := rfl
                      intro m43 em_105
                      try have e43 : m43.toInt = (z4_5).toInt + (1) := by rw [em_105]; exact pm_addc _ _ (1) rfl (by omega) (by omega)
                      exact hC.2 [false, false, false, false, false, true] _ _ _ _ _ _ (ih4 z3_23 m43 v2 f2 hs2 (by omega) (by omega) (by omega))
                    · skip
                      refine hC.1 4 93 _ _ rfl _ _ _ _ _ ?_
                      refine Exists.intro _ (And.intro (cw_o7 hI.1) (And.intro rfl ?_))
                      rw [cw_p_twinFirst hI.1]
                      obtain ⟨v44, ev44⟩ : ∃ z9, z9 = upd v2 13 z4_5 := ⟨_, rfl⟩
                      rw [← ev44]
                      have hs44 : cw_S v44 f2 := by rw [ev44]; exact cw_S_v hs2 13 _ (by decide)
                      have ev44_0 : (v44 0).toInt = (v2 0).toInt := by rw [ev44]; rfl
                      refine Exists.intro _ (And.intro (cw_o7 hI.1) (And.intro rfl ?_))
                      rw [cw_p_twinLength hI.1]
                      obtain ⟨v45, ev45⟩ : ∃ z9, z9 = upd v44 14 m35 := ⟨_, rfl⟩
                      rw [← ev45]
                      have hs45 : cw_S v45 f2 := by rw [ev45]; exact cw_S_v hs44 14 _ (by decide)
                      have ev45_0 : (v45 0).toInt = (v44 0).toInt := by rw [ev45]; rfl
                      refine hC.1 5 105 _ _ rfl _ _ _ _ _ ?_
                      have k1 : (1 : Int32).toInt = 1 := rfl
                      intro m46 em_105
                      try have e46 : m46.toInt = (z4_5).toInt + (1) := by rw [em_105]; exact pm_addc _ _ (1) rfl (by omega) (by omega)
                      exact hC.2 [false, false, false, false, false, true] _ _ _ _ _ _ (ih4 z3_23 m46 v45 f2 hs45 (by omega) (by omega) (by omega))
              · skip
                have dc34 : (y28).toInt = (y32 : Int32).toInt := congrArg Int32.toInt c34
                have k1 : (1 : Int32).toInt = 1 := rfl
                intro m47 em_54
                try have e47 : m47.toInt = (z3_23).toInt + (1) := by rw [em_54]; exact pm_addc _ _ (1) rfl (by omega) (by omega)
                exact ih12 m47 (by omega) (by omega)
        exact lp11 (200 - y8.toInt).toNat.succ y8 (by omega) (by omega)
  exact lp3 (200 - (0 : Int32).toInt).toNat.succ (0 : Int32) (0 : Int32) v f hs (by omega) (by omega) (by omega)

set_option maxRecDepth 100000 in
set_option maxHeartbeats 2000000 in
theorem c_X4_findTwin (hI : cw_I K nn dn q w e) (hs : cw_S v f) {o1 : Nat} (ho1 : cw_ro K o1)  : pm_Mt l g 139 2 0 0 [.ref (q 7), .ref (q o1)] (cw A0 g K nn dn q w e v f) (cw_Qs A0 g K nn dn q w e (fun r v2 f2 => r = none ∧ (True))) := by
  refine mt_X4_findTwin rfl (fun J hC => ?_)
  have hu1 := hI.2.1
  unfold cw_W at hu1
  have ro_nn : cw_ro K nn := hI.2.1.2.1
  have ro_dn : cw_ro K dn := hI.2.1.2.2.1
  have zz0 := cw_sz hI ho1
  refine hC.1 0 0 _ _ rfl _ _ _ _ _ ?_
  have km1 : (-1 : Int32).toInt = -1 := rfl
  refine Exists.intro _ (And.intro (cw_o7 hI.1) (And.intro rfl ?_))
  rw [cw_p_twinFirst hI.1]
  obtain ⟨v2, ev2⟩ : ∃ z9, z9 = upd v 13 (-1 : Int32) := ⟨_, rfl⟩
  rw [← ev2]
  have hs2 : cw_S v2 f := by rw [ev2]; exact cw_S_v hs 13 _ (by decide)
  have ev2_0 : (v2 0).toInt = (v 0).toInt := by rw [ev2]; rfl
  have k0 : (0 : Int32).toInt = 0 := rfl
  refine Exists.intro _ (And.intro (cw_o7 hI.1) (And.intro rfl ?_))
  rw [cw_p_twinLength hI.1]
  obtain ⟨v3, ev3⟩ : ∃ z9, z9 = upd v2 14 (0 : Int32) := ⟨_, rfl⟩
  rw [← ev3]
  have hs3 : cw_S v3 f := by rw [ev3]; exact cw_S_v hs2 14 _ (by decide)
  have ev3_0 : (v3 0).toInt = (v2 0).toInt := by rw [ev3]; rfl
  have k1 : (1 : Int32).toInt = 1 := rfl
  have lp5 : ∀ (n : Nat) (z2_12 : Int32) (v4 : Nat → Int32) (f4 : Nat → Nat → Int32), cw_S v4 f4 → (1 ≤ z2_12.toInt ∧ z2_12.toInt ≤ 161) → 200 - z2_12.toInt < (n : Int) → J 12 [some (.ref (q 7)), some (.ref (q o1)), some (.int z2_12)] [] (cw A0 g K nn dn q w e v4 f4) 0 0 := by
    intro n
    induction n with
    | zero =>
      intro z2_12 v4 f4 hs4 j0_12 j1_12
      omega
    | succ n ih6 =>
      intro z2_12 v4 f4 hs4 j0_12 j1_12
      refine hC.1 1 12 _ _ rfl _ _ _ _ _ ?_
      refine Exists.intro _ (And.intro (cw_ro_o hI.1 ho1) ?_)
      have z7 := cw_sz hI ho1
      refine And.intro (fun c8 => ?_) (fun c8 => ?_)
      · skip
        refine hC.1 2 32 _ _ rfl _ _ _ _ _ ?_
        exact ⟨rfl, rfl, v4, f4, rfl, hs4, rfl, by first | trivial | omega | (dsimp only; omega)⟩
      · skip
        refine And.intro (Exists.intro _ (cw_o7 hI.1)) (Exists.intro _ (Exists.intro _ (Exists.intro _ (Exists.intro _ (And.intro (c_X4_findTwinApart hI hs4 ho1 z2_12 (by omega)) (And.intro rfl (fun r9 A9 h9 => ?_)))))))
        rcases h9 with ⟨v10, f10, rfl, hs10, rfl, by9⟩
        intro m11 em_26
        try have e11 : m11.toInt = (z2_12).toInt + (1) := by rw [em_26]; exact pm_addc _ _ (1) rfl (by omega) (by omega)
        exact ih6 m11 v10 f10 hs10 (by omega) (by omega)
  exact lp5 (200 - (1 : Int32).toInt).toNat.succ (1 : Int32) v3 f hs3 (by omega) (by omega)

set_option maxRecDepth 100000 in
set_option maxHeartbeats 2000000 in
theorem c_X4_spansUpTo (hI : cw_I K nn dn q w e) (hs : cw_S v f) {o1 : Nat} (ho1 : cw_ro K o1) (x3 : Int32)  : pm_Mt l g 129 2 0 0 [.ref (q 7), .ref (q o1), .ref (q 2), .int x3] (cw A0 g K nn dn q w e v f) (cw_Qs A0 g K nn dn q w e (fun r v2 f2 => ∃ x : Int32, r = some (.int x) ∧ (True))) := by
  refine mt_X4_spansUpTo rfl (fun J hC => ?_)
  have hu1 := hI.2.1
  unfold cw_W at hu1
  have ro_nn : cw_ro K nn := hI.2.1.2.1
  have ro_dn : cw_ro K dn := hI.2.1.2.2.1
  have rg_x3 := pm_rng x3
  have zz0 := cw_sz hI ho1
  refine hC.1 0 0 _ _ rfl _ _ _ _ _ ?_
  refine And.intro (Exists.intro _ (cw_o2 hI.1)) (Exists.intro _ (Exists.intro _ (Exists.intro _ (Exists.intro _ (And.intro (c_X2_clear hI hs  ) (And.intro rfl (fun r9 A9 h9 => ?_)))))))
  rcases h9 with ⟨v3, f3, rfl, hs3, rfl, by2⟩
  have k0 : (0 : Int32).toInt = 0 := rfl
  have lp5 : ∀ (n : Nat) (z4_13 : Int32) (z5_13 : Int32) (z6_13 : Int32) (v4 : Nat → Int32) (f4 : Nat → Nat → Int32), cw_S v4 f4 → (0 ≤ z6_13.toInt ∧ z6_13.toInt ≤ 160) → (0 ≤ z5_13.toInt ∧ z5_13.toInt ≤ z6_13.toInt) → 200 - z6_13.toInt < (n : Int) → J 13 [some (.ref (q 7)), some (.ref (q o1)), some (.ref (q 2)), some (.int x3), some (.int z4_13), some (.int z5_13), some (.int z6_13)] [] (cw A0 g K nn dn q w e v4 f4) 0 0 := by
    intro n
    induction n with
    | zero =>
      intro z4_13 z5_13 z6_13 v4 f4 hs4 j0_13 j1_13 j2_13
      omega
    | succ n ih6 =>
      intro z4_13 z5_13 z6_13 v4 f4 hs4 j0_13 j1_13 j2_13
      refine hC.1 1 13 _ _ rfl _ _ _ _ _ ?_
      refine Exists.intro _ (And.intro (cw_ro_o hI.1 ho1) ?_)
      have z7 := cw_sz hI ho1
      refine And.intro (fun c8 => ?_) (fun c8 => ?_)
      · skip
        refine hC.1 4 83 _ _ rfl _ _ _ _ _ ?_
        exact ⟨rfl, fun e9 => absurd e9 (by decide), rfl, v4, f4, rfl, hs4, z4_13, rfl, by first | trivial | omega | (dsimp only; omega)⟩
      · skip
        refine Exists.intro _ (And.intro (cw_ro_o hI.1 ho1) ?_)
        refine Exists.intro _ (Exists.intro _ (And.intro (Or.inl (cw_ro_1 hI.1 ho1)) (And.intro (by omega) ?_)))
        have w9 := cw_col hI ho1 (z6_13).toInt.toNat
        refine And.intro (Exists.intro _ (cw_o2 hI.1)) (Exists.intro _ (Exists.intro _ (Exists.intro _ (Exists.intro _ (And.intro (c_X2_take hI hs4 (e (o1 + 1) (z6_13).toInt.toNat) (by omega)) (And.intro rfl (fun r9 A9 h9 => ?_)))))))
        rcases h9 with ⟨v11, f11, rfl, hs11, rfl, by10⟩
        have lp13 : ∀ (n : Nat) (z5_33 : Int32) (v12 : Nat → Int32) (f12 : Nat → Nat → Int32), cw_S v12 f12 → (0 ≤ z5_33.toInt ∧ z5_33.toInt ≤ z6_13.toInt + 1) → 200 - z5_33.toInt < (n : Int) → J 33 [some (.ref (q 7)), some (.ref (q o1)), some (.ref (q 2)), some (.int x3), some (.int z4_13), some (.int z5_33), some (.int z6_13)] [] (cw A0 g K nn dn q w e v12 f12) 0 0 := by
          intro n
          induction n with
          | zero =>
            intro z5_33 v12 f12 hs12 j0_33 j1_33
            omega
          | succ n ih14 =>
            intro z5_33 v12 f12 hs12 j0_33 j1_33
            refine hC.1 2 33 _ _ rfl _ _ _ _ _ ?_
            refine Exists.intro _ (And.intro (cw_o2 hI.1) ?_)
            refine And.intro (fun c15 => ?_) (fun c15 => ?_)
            · skip
              refine hC.1 3 65 _ _ rfl _ _ _ _ _ ?_
              intro m16 em_71
              try have e16 : m16.toInt = (z6_13).toInt - (z5_33).toInt := by rw [em_71]; exact pm_sub _ _ (by omega) (by omega)
              have k1 : (1 : Int32).toInt = 1 := rfl
              intro m17 em_73
              try have e17 : m17.toInt = (m16).toInt + (1) := by rw [em_73]; exact pm_addc _ _ (1) rfl (by omega) (by omega)
              intro m18 em_74
              try have e18 : m18.toInt = (z4_13).toInt + (m17).toInt := by rw [em_74]; exact pm_add _ _ (by omega) (by omega)
              intro m19 em_77
              try have e19 : m19.toInt = (z6_13).toInt + (1) := by rw [em_77]; exact pm_addc _ _ (1) rfl (by omega) (by omega)
              exact ih6 m18 z5_33 m19 v12 f12 hs12 (by omega) (by omega) (by omega)
            · skip
              refine And.intro (fun c20 => ?_) (fun c20 => ?_)
              · skip
                refine hC.1 3 65 _ _ rfl _ _ _ _ _ ?_
                intro m21 em_71
                try have e21 : m21.toInt = (z6_13).toInt - (z5_33).toInt := by rw [em_71]; exact pm_sub _ _ (by omega) (by omega)
                have k1 : (1 : Int32).toInt = 1 := rfl
                intro m22 em_73
                try have e22 : m22.toInt = (m21).toInt + (1) := by rw [em_73]; exact pm_addc _ _ (1) rfl (by omega) (by omega)
                intro m23 em_74
                try have e23 : m23.toInt = (z4_13).toInt + (m22).toInt := by rw [em_74]; exact pm_add _ _ (by omega) (by omega)
                intro m24 em_77
                try have e24 : m24.toInt = (z6_13).toInt + (1) := by rw [em_77]; exact pm_addc _ _ (1) rfl (by omega) (by omega)
                exact ih6 m23 z5_33 m24 v12 f12 hs12 (by omega) (by omega) (by omega)
              · skip
                refine Exists.intro _ (And.intro (cw_ro_o hI.1 ho1) ?_)
                refine Exists.intro _ (Exists.intro _ (And.intro (Or.inl (cw_ro_1 hI.1 ho1)) (And.intro (by omega) ?_)))
                have w25 := cw_col hI ho1 (z5_33).toInt.toNat
                refine And.intro (Exists.intro _ (cw_o2 hI.1)) (Exists.intro _ (Exists.intro _ (Exists.intro _ (Exists.intro _ (And.intro (c_X2_drop hI hs12 (e (o1 + 1) (z5_33).toInt.toNat) (by omega)) (And.intro rfl (fun r9 A9 h9 => ?_)))))))
                rcases h9 with ⟨v27, f27, rfl, hs27, rfl, by26⟩
                have k1 : (1 : Int32).toInt = 1 := rfl
                intro m28 em_59
                try have e28 : m28.toInt = (z5_33).toInt + (1) := by rw [em_59]; exact pm_addc _ _ (1) rfl (by omega) (by omega)
                exact ih14 m28 v27 f27 hs27 (by omega) (by omega)
        exact lp13 (200 - z5_13.toInt).toNat.succ z5_13 v11 f11 hs11 (by omega) (by omega)
  exact lp5 (200 - (0 : Int32).toInt).toNat.succ (0 : Int32) (0 : Int32) (0 : Int32) v3 f3 hs3 (by omega) (by omega) (by omega)

set_option maxRecDepth 100000 in
set_option maxHeartbeats 2000000 in
theorem c_X4_isAmong (hI : cw_I K nn dn q w e) (hs : cw_S v f) (x1 : Int32) (x2 : Int32) (p0 : 0 ≤ x2.toInt ∧ x2.toInt ≤ 160) : pm_Mt l g 133 0 0 0 [.ref (q 7), .int x1, .int x2] (cw A0 g K nn dn q w e v f) (md_Qp (cw A0 g K nn dn q w e v f) (fun r => (r = 1 ∧ (True)) ∨ (r = 0 ∧ (True)))) := by
  refine mt_X4_isAmong rfl (fun J hC => ?_)
  have hu1 := hI.2.1
  unfold cw_W at hu1
  have ro_nn : cw_ro K nn := hI.2.1.2.1
  have ro_dn : cw_ro K dn := hI.2.1.2.2.1
  have rg_x1 := pm_rng x1
  have rg_x2 := pm_rng x2
  refine hC.1 0 0 _ _ rfl _ _ _ _ _ ?_
  have k0 : (0 : Int32).toInt = 0 := rfl
  have lp3 : ∀ (n : Nat) (z3_2 : Int32), (0 ≤ z3_2.toInt ∧ z3_2.toInt ≤ 160) → 200 - z3_2.toInt < (n : Int) → J 2 [some (.ref (q 7)), some (.int x1), some (.int x2), some (.int z3_2)] [] (cw A0 g K nn dn q w e v f) 0 0 := by
    intro n
    induction n with
    | zero =>
      intro z3_2 j0_2 j1_2
      omega
    | succ n ih4 =>
      intro z3_2 j0_2 j1_2
      refine hC.1 1 2 _ _ rfl _ _ _ _ _ ?_
      refine And.intro (fun c5 => ?_) (fun c5 => ?_)
      · skip
        refine hC.1 3 25 _ _ rfl _ _ _ _ _ ?_
        exact ⟨rfl, fun _ => (by decide), rfl, (0 : Int32), rfl, rfl, Or.inr ⟨rfl, by first | trivial | omega | (dsimp only; omega)⟩⟩
      · skip
        refine Exists.intro _ (And.intro (cw_o7 hI.1) ?_)
        refine Exists.intro _ (Exists.intro _ (And.intro (Or.inl (cw_a25 hI.1)) (And.intro (by omega) ?_)))
        refine And.intro (fun c6 => ?_) (fun c6 => ?_)
        · skip
          have dc6 := pm_neI c6
          refine hC.1 2 19 _ _ rfl _ _ _ _ _ ?_
          have k1 : (1 : Int32).toInt = 1 := rfl
          intro m7 em_19
          try have e7 : m7.toInt = (z3_2).toInt + (1) := by rw [em_19]; exact pm_addc _ _ (1) rfl (by omega) (by omega)
          exact ih4 m7 (by omega) (by omega)
        · skip
          have dc6 : ((f 25 (z3_2).toInt.toNat)).toInt = (x1 : Int32).toInt := congrArg Int32.toInt c6
          have k1 : (1 : Int32).toInt = 1 := rfl
          exact ⟨rfl, fun _ => (by decide), rfl, (1 : Int32), rfl, rfl, Or.inl ⟨rfl, by first | trivial | omega | (dsimp only; omega)⟩⟩
  exact lp3 (200 - (0 : Int32).toInt).toNat.succ (0 : Int32) (by omega) (by omega)

set_option maxRecDepth 100000 in
set_option maxHeartbeats 2000000 in
theorem c_X4_unlikeSets (hI : cw_I K nn dn q w e) (hs : cw_S v f) {o1 : Nat} (ho1 : cw_ro K o1) (x3 : Int32) (p0 : 1 ≤ x3.toInt ∧ x3.toInt ≤ (w o1).toInt) : pm_Mt l g 132 3 0 0 [.ref (q 7), .ref (q o1), .ref (q 2), .int x3] (cw A0 g K nn dn q w e v f) (cw_Qs A0 g K nn dn q w e (fun r v2 f2 => ∃ x : Int32, r = some (.int x) ∧ (True))) := by
  refine mt_X4_unlikeSets rfl (fun J hC => ?_)
  have hu1 := hI.2.1
  unfold cw_W at hu1
  have ro_nn : cw_ro K nn := hI.2.1.2.1
  have ro_dn : cw_ro K dn := hI.2.1.2.2.1
  have rg_x3 := pm_rng x3
  have zz0 := cw_sz hI ho1
  refine hC.1 0 0 _ _ rfl _ _ _ _ _ ?_
  have k0 : (0 : Int32).toInt = 0 := rfl
  have k1 : (1 : Int32).toInt = 1 := rfl
  intro m2 em_5
  try have e2 : m2.toInt = (x3).toInt - (1) := by rw [em_5]; exact pm_subc _ _ (1) rfl (by omega) (by omega)
  refine And.intro (Exists.intro _ (cw_o2 hI.1)) (Exists.intro _ (Exists.intro _ (Exists.intro _ (Exists.intro _ (And.intro (c_X2_read hI hs ho1 (0 : Int32) m2 ) (And.intro rfl (fun r9 A9 h9 => ?_)))))))
  rcases h9 with ⟨v4, f4, rfl, hs4, rfl, by3⟩
  have lp6 : ∀ (n : Nat) (z4_15 : Int32) (z5_15 : Int32) (v5 : Nat → Int32) (f5 : Nat → Nat → Int32), cw_S v5 f5 → (0 ≤ z5_15.toInt ∧ z5_15.toInt ≤ 161) → (0 ≤ z4_15.toInt ∧ z4_15.toInt ≤ z5_15.toInt) → 200 - z5_15.toInt < (n : Int) → J 15 [some (.ref (q 7)), some (.ref (q o1)), some (.ref (q 2)), some (.int x3), some (.int z4_15), some (.int z5_15)] [] (cw A0 g K nn dn q w e v5 f5) 0 0 := by
    intro n
    induction n with
    | zero =>
      intro z4_15 z5_15 v5 f5 hs5 j0_15 j1_15 j2_15
      omega
    | succ n ih7 =>
      intro z4_15 z5_15 v5 f5 hs5 j0_15 j1_15 j2_15
      refine hC.1 1 15 _ _ rfl _ _ _ _ _ ?_
      intro m8 em_18
      try have e8 : m8.toInt = (z5_15).toInt + (x3).toInt := by rw [em_18]; exact pm_add _ _ (by omega) (by omega)
      refine Exists.intro _ (And.intro (cw_ro_o hI.1 ho1) ?_)
      have z9 := cw_sz hI ho1
      refine And.intro (fun c10 => ?_) (fun c10 => ?_)
      · skip
        refine hC.1 4 92 _ _ rfl _ _ _ _ _ ?_
        exact ⟨rfl, fun e9 => absurd e9 (by decide), rfl, v5, f5, rfl, hs5, z4_15, rfl, by first | trivial | omega | (dsimp only; omega)⟩
      · skip
        refine And.intro (fun c11 => ?_) (fun c11 => ?_)
        · skip
          refine hC.1 2 59 _ _ rfl _ _ _ _ _ ?_
          refine Exists.intro _ (And.intro (cw_o2 hI.1) ?_)
          refine And.intro (Exists.intro _ (cw_o7 hI.1)) (Exists.intro _ (Exists.intro _ (Exists.intro _ (Exists.intro _ (And.intro (c_X4_isAmong hI hs5 (v5 3) z4_15 (by omega)) (And.intro rfl (fun r9 A9 h9 => ?_)))))))
          rcases h9 with ⟨y12, rfl, rfl, ⟨rfl, by12⟩ | ⟨rfl, by12⟩⟩
          · skip
            refine And.intro (fun _ => ?_) (fun c9 => absurd c9 (by decide))
            refine hC.1 3 86 _ _ rfl _ _ _ _ _ ?_
            intro m14 em_86
            try have e14 : m14.toInt = (z5_15).toInt + (1) := by rw [em_86]; exact pm_addc _ _ (1) rfl (by omega) (by omega)
            exact ih7 z4_15 m14 v5 f5 hs5 (by omega) (by omega) (by omega)
          · skip
            refine And.intro (fun c9 => absurd c9 (by decide)) (fun _ => ?_)
            refine Exists.intro _ (And.intro (cw_o7 hI.1) ?_)
            refine Exists.intro _ (And.intro (cw_o2 hI.1) ?_)
            refine Exists.intro _ (Exists.intro _ (And.intro (cw_a25 hI.1) (And.intro (by omega) ?_)))
            rw [cw_s25 hI.1]
            obtain ⟨f15, ef15⟩ : ∃ z9, z9 = va_up f5 25 (upd (f5 25) (z4_15).toInt.toNat (v5 3)) := ⟨_, rfl⟩
            rw [← ef15]
            have hs15 : cw_S v5 f15 := by rw [ef15]; exact cw_S_fr hs5 _ _ (by decide) (by decide)
            intro m16 em_83
            try have e16 : m16.toInt = (z4_15).toInt + (1) := by rw [em_83]; exact pm_addc _ _ (1) rfl (by omega) (by omega)
            refine hC.1 3 86 _ _ rfl _ _ _ _ _ ?_
            intro m17 em_86
            try have e17 : m17.toInt = (z5_15).toInt + (1) := by rw [em_86]; exact pm_addc _ _ (1) rfl (by omega) (by omega)
            exact ih7 m16 m17 v5 f15 hs15 (by omega) (by omega) (by omega)
        · skip
          refine Exists.intro _ (And.intro (cw_ro_o hI.1 ho1) ?_)
          intro m18 em_39
          try have e18 : m18.toInt = (z5_15).toInt - (1) := by rw [em_39]; exact pm_subc _ _ (1) rfl (by omega) (by omega)
          refine Exists.intro _ (Exists.intro _ (And.intro (Or.inl (cw_ro_1 hI.1 ho1)) (And.intro (by omega) ?_)))
          have w19 := cw_col hI ho1 (m18).toInt.toNat
          refine And.intro (Exists.intro _ (cw_o2 hI.1)) (Exists.intro _ (Exists.intro _ (Exists.intro _ (Exists.intro _ (And.intro (c_X2_drop hI hs5 (e (o1 + 1) (m18).toInt.toNat) (by omega)) (And.intro rfl (fun r9 A9 h9 => ?_)))))))
          rcases h9 with ⟨v21, f21, rfl, hs21, rfl, by20⟩
          refine Exists.intro _ (And.intro (cw_ro_o hI.1 ho1) ?_)
          intro m22 em_52
          try have e22 : m22.toInt = (z5_15).toInt + (x3).toInt := by rw [em_52]; exact pm_add _ _ (by omega) (by omega)
          intro m23 em_54
          try have e23 : m23.toInt = (m22).toInt - (1) := by rw [em_54]; exact pm_subc _ _ (1) rfl (by omega) (by omega)
          refine Exists.intro _ (Exists.intro _ (And.intro (Or.inl (cw_ro_1 hI.1 ho1)) (And.intro (by omega) ?_)))
          have w24 := cw_col hI ho1 (m23).toInt.toNat
          refine And.intro (Exists.intro _ (cw_o2 hI.1)) (Exists.intro _ (Exists.intro _ (Exists.intro _ (Exists.intro _ (And.intro (c_X2_take hI hs21 (e (o1 + 1) (m23).toInt.toNat) (by omega)) (And.intro rfl (fun r9 A9 h9 => ?_)))))))
          rcases h9 with ⟨v26, f26, rfl, hs26, rfl, by25⟩
          refine hC.1 2 59 _ _ rfl _ _ _ _ _ ?_
          refine Exists.intro _ (And.intro (cw_o2 hI.1) ?_)
          refine And.intro (Exists.intro _ (cw_o7 hI.1)) (Exists.intro _ (Exists.intro _ (Exists.intro _ (Exists.intro _ (And.intro (c_X4_isAmong hI hs26 (v26 3) z4_15 (by omega)) (And.intro rfl (fun r9 A9 h9 => ?_)))))))
          rcases h9 with ⟨y27, rfl, rfl, ⟨rfl, by27⟩ | ⟨rfl, by27⟩⟩
          · skip
            refine And.intro (fun _ => ?_) (fun c9 => absurd c9 (by decide))
            refine hC.1 3 86 _ _ rfl _ _ _ _ _ ?_
            intro m29 em_86
            try have e29 : m29.toInt = (z5_15).toInt + (1) := by rw [em_86]; exact pm_addc _ _ (1) rfl (by omega) (by omega)
            exact ih7 z4_15 m29 v26 f26 hs26 (by omega) (by omega) (by omega)
          · skip
            refine And.intro (fun c9 => absurd c9 (by decide)) (fun _ => ?_)
            refine Exists.intro _ (And.intro (cw_o7 hI.1) ?_)
            refine Exists.intro _ (And.intro (cw_o2 hI.1) ?_)
            refine Exists.intro _ (Exists.intro _ (And.intro (cw_a25 hI.1) (And.intro (by omega) ?_)))
            rw [cw_s25 hI.1]
            obtain ⟨f30, ef30⟩ : ∃ z9, z9 = va_up f26 25 (upd (f26 25) (z4_15).toInt.toNat (v26 3)) := ⟨_, rfl⟩
            rw [← ef30]
            have hs30 : cw_S v26 f30 := by rw [ef30]; exact cw_S_fr hs26 _ _ (by decide) (by decide)
            intro m31 em_83
            try have e31 : m31.toInt = (z4_15).toInt + (1) := by rw [em_83]; exact pm_addc _ _ (1) rfl (by omega) (by omega)
            refine hC.1 3 86 _ _ rfl _ _ _ _ _ ?_
            intro m32 em_86
            try have e32 : m32.toInt = (z5_15).toInt + (1) := by rw [em_86]; exact pm_addc _ _ (1) rfl (by omega) (by omega)
            exact ih7 m31 m32 v26 f30 hs30 (by omega) (by omega) (by omega)
  exact lp6 (200 - (0 : Int32).toInt).toNat.succ (0 : Int32) (0 : Int32) v4 f4 hs4 (by omega) (by omega) (by omega)

end
