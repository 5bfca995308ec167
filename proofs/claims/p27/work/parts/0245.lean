section
variable {l : Launch} {g : pm_G} {A0 : pm_H} {K nn dn : Nat} {q : Nat → Nat} {w : Nat → Int32} {e : Nat → Nat → Int32} {v : Nat → Int32} {f : Nat → Nat → Int32}
set_option maxRecDepth 100000 in
set_option maxHeartbeats 2000000 in
theorem c_X4_findTwinApart (hI : cw_I K nn dn q w e) (hs : cw_S v f) {o1 : Nat} (ho1 : cw_ro K o1) (x2 : Int32) (p0 : 1 ≤ x2.toInt ∧ x2.toInt < 160) : pm_Mt l g 140 1 0 0 [.ref (q 7), .ref (q o1), .int x2] (cw A0 g K nn dn q w e v f) (cw_Qs A0 g K nn dn q w e (fun r v2 f2 => r = none ∧ (True))) := by
  refine mt_X4_findTwinApart rfl (fun J hC => ?_)
  have ro_nn : cw_ro K nn := hI.2.1.2.1
  have ro_dn : cw_ro K dn := hI.2.1.2.2.1
  have hu1 := hI.2.1
  unfold cw_W at hu1
  have rg_x2 := pm_rng x2
  have zz0 := cw_sz hI ho1
  refine hC.1 0 0 _ _ rfl _ _ _ _ _ ?_
  have k0 : (0 : Int32).toInt = 0 := rfl
  have lp3 : ∀ (n : Nat) (z3_5 : Int32) (z4_5 : Int32) (v2 : Nat → Int32) (f2 : Nat → Nat → Int32), cw_S v2 f2 → (0 ≤ z4_5.toInt ∧ z4_5.toInt ≤ 160) → (0 ≤ z3_5.toInt ∧ z3_5.toInt ≤ 160) → 200 - z4_5.toInt < (n : Int) → J 5 [some (.ref (q 7)), some (.ref (q o1)), some (.int x2), some (.int z3_5), some (.int z4_5), none] [] (cw A0 g K nn dn q w e v2 f2) 0 0 := by
    intro n
    induction n with
    | zero =>
      intro z3_5 z4_5 v2 f2 hs2 j0_5 j1_5 j2_5
      omega
    | succ n ih4 =>
      intro z3_5 z4_5 v2 f2 hs2 j0_5 j1_5 j2_5
      refine hC.1 1 5 _ _ rfl _ _ _ _ _ ?_
      intro m5 em_8
      try have e5 : m5.toInt = (z4_5).toInt + (x2).toInt := by rw [em_8]; exact pm_add _ _ (by omega) (by omega)
      refine Exists.intro _ (And.intro (cw_ro_o hI.1 ho1) ?_)
      have z6 := cw_sz hI ho1
      refine And.intro (fun c7 => ?_) (fun c7 => ?_)
      · skip
        refine hC.1 6 111 _ _ rfl _ _ _ _ _ ?_
        exact ⟨rfl, rfl, v2, f2, rfl, hs2, rfl, by exact True.intro⟩
      · skip
        refine Exists.intro _ (Exists.intro _ (Exists.intro _ (Exists.intro _ (And.intro (c_J9_max_7cf53 (cw A0 g K nn dn q w e v2 f2) z3_5 z4_5 ) (And.intro rfl (fun r9 A9 h9 => ?_))))))
        obtain ⟨y8, rfl, rfl, by8⟩ := h9
        have lp11 : ∀ (n : Nat) (z3_23 : Int32), (z4_5.toInt ≤ z3_23.toInt ∧ z3_23.toInt ≤ 160) → 200 - z3_23.toInt < (n : Int) → J 23 [some (.ref (q 7)), some (.ref (q o1)), some (.int x2), some (.int z3_23), some (.int z4_5), none] [] (cw A0 g K nn dn q w e v2 f2) 0 0 := by
          intro n
          induction n with
          | zero =>
            intro z3_23 j0_23 j1_23
            omega
          | succ n ih12 =>
            intro z3_23 j0_23 j1_23
            refine hC.1 2 23 _ _ rfl _ _ _ _ _ ?_
            intro m13 em_25
            try have e13 : m13.toInt = (z3_23).toInt + (x2).toInt := by rw [em_25]; exact pm_add _ _ (by omega) (by omega)
            refine Exists.intro _ (And.intro (cw_ro_o hI.1 ho1) ?_)
            have z14 := cw_sz hI ho1
            refine And.intro (fun c15 => ?_) (fun c15 => ?_)
            · skip
              refine hC.1 3 60 _ _ rfl _ _ _ _ _ ?_
              intro m16 em_63
              try have e16 : m16.toInt = (z3_23).toInt - (z4_5).toInt := by rw [em_63]; exact pm_sub _ _ (by omega) (by omega)
              refine Exists.intro _ (And.intro (cw_o7 hI.1) ?_)
              refine And.intro (fun c17 => ?_) (fun c17 => ?_)
              · skip
                refine hC.1 4 93 _ _ rfl _ _ _ _ _ ?_
                refine Exists.intro _ (And.intro (cw_o7 hI.1) (And.intro rfl ?_))
                rw [cw_p_twinFirst hI.1]
                obtain ⟨v18, ev18⟩ : ∃ z9, z9 = upd v2 13 z4_5 := ⟨_, rfl⟩
                rw [← ev18]
                have hs18 : cw_S v18 f2 := by rw [ev18]; exact cw_S_v hs2 13 _ (by decide)
                have ev18_0 : (v18 0).toInt = (v2 0).toInt := by rw [ev18]; rfl
                refine Exists.intro _ (And.intro (cw_o7 hI.1) (And.intro rfl ?_))
                rw [cw_p_twinLength hI.1]
                obtain ⟨v19, ev19⟩ : ∃ z9, z9 = upd v18 14 m16 := ⟨_, rfl⟩
                rw [← ev19]
                have hs19 : cw_S v19 f2 := by rw [ev19]; exact cw_S_v hs18 14 _ (by decide)
                have ev19_0 : (v19 0).toInt = (v18 0).toInt := by rw [ev19]; rfl
                refine hC.1 5 105 _ _ rfl _ _ _ _ _ ?_
                have k1 : (1 : Int32).toInt = 1 := rfl
                intro m20 em_105
                try have e20 : m20.toInt = (z4_5).toInt + (1) := by rw [em_105]; exact pm_addc _ _ (1) rfl (by omega) (by omega)
                exact hC.2 [false, false, false, false, false, true] _ _ _ _ _ _ (ih4 z3_23 m20 v19 f2 hs19 (by omega) (by omega) (by omega))
              · skip
                refine Exists.intro _ (And.intro (cw_o7 hI.1) ?_)
                refine And.intro (fun c21 => ?_) (fun c21 => ?_)
                · skip
                  have dc21 := pm_neI c21
                  refine hC.1 5 105 _ _ rfl _ _ _ _ _ ?_
                  have k1 : (1 : Int32).toInt = 1 := rfl
                  intro m22 em_105
                  try have e22 : m22.toInt = (z4_5).toInt + (1) := by rw [em_105]; exact pm_addc _ _ (1) rfl (by omega) (by omega)
                  exact hC.2 [false, false, false, false, false, true] _ _ _ _ _ _ (ih4 z3_23 m22 v2 f2 hs2 (by omega) (by omega) (by omega))
                · skip
                  have dc21 : (m16).toInt = ((v2 14) : Int32).toInt := congrArg Int32.toInt c21
                  refine Exists.intro _ (And.intro (cw_o7 hI.1) ?_)
                  refine And.intro (fun c23 => ?_) (fun c23 => ?_)
                  · skip
                    refine hC.1 5 105 _ _ rfl _ _ _ _ _ ?_
                    have k1 : (1 : Int32).toInt = 1 := rfl
                    intro m24 em_105
                    try have e24 : m24.toInt = (z4_5).toInt + (1) := by rw [em_105]; exact pm_addc _ _ (1) rfl (by omega) (by omega)
                    exact hC.2 [false, false, false, false, false, true] _ _ _ _ _ _ (ih4 z3_23 m24 v2 f2 hs2 (by omega) (by omega) (by omega))
                  · skip
                    refine hC.1 4 93 _ _ rfl _ _ _ _ _ ?_
                    refine Exists.intro _ (And.intro (cw_o7 hI.1) (And.intro rfl ?_))
                    rw [cw_p_twinFirst hI.1]
                    obtain ⟨v25, ev25⟩ : ∃ z9, z9 = upd v2 13 z4_5 := ⟨_, rfl⟩
                    rw [← ev25]
                    have hs25 : cw_S v25 f2 := by rw [ev25]; exact cw_S_v hs2 13 _ (by decide)
                    have ev25_0 : (v25 0).toInt = (v2 0).toInt := by rw [ev25]; rfl
                    refine Exists.intro _ (And.intro (cw_o7 hI.1) (And.intro rfl ?_))
                    rw [cw_p_twinLength hI.1]
                    obtain ⟨v26, ev26⟩ : ∃ z9, z9 = upd v25 14 m16 := ⟨_, rfl⟩
                    rw [← ev26]
                    have hs26 : cw_S v26 f2 := by rw [ev26]; exact cw_S_v hs25 14 _ (by decide)
                    have ev26_0 : (v26 0).toInt = (v25 0).toInt := by rw [ev26]; rfl
                    refine hC.1 5 105 _ _ rfl _ _ _ _ _ ?_
                    have k1 : (1 : Int32).toInt = 1 := rfl
                    intro m27 em_105
                    try have e27 : m27.toInt = (z4_5).toInt + (1) := by rw [em_105]; exact pm_addc _ _ (1) rfl (by omega) (by omega)
                    exact hC.2 [false, false, false, false, false, true] _ _ _ _ _ _ (ih4 z3_23 m27 v26 f2 hs26 (by omega) (by omega) (by omega))
            · skip
              refine Exists.intro _ (Exists.intro _ (Exists.intro _ (Exists.intro _ (And.intro (c_X4_stepWithin hI hs2 ho1 z4_5 z3_23 (by omega)) (And.intro rfl (fun r9 A9 h9 => ?_))))))
              obtain ⟨y28, rfl, rfl, by28⟩ := h9
              intro m30 em_44
              try have e30 : m30.toInt = (z4_5).toInt + (x2).toInt := by rw [em_44]; exact pm_add _ _ (by omega) (by omega)
              intro m31 em_47
              try have e31 : m31.toInt = (z3_23).toInt + (x2).toInt := by rw [em_47]; exact pm_add _ _ (by omega) (by omega)
              refine Exists.intro _ (Exists.intro _ (Exists.intro _ (Exists.intro _ (And.intro (c_X4_stepWithin hI hs2 ho1 m30 m31 (by omega)) (And.intro rfl (fun r9 A9 h9 => ?_))))))
              obtain ⟨y32, rfl, rfl, by32⟩ := h9
              refine And.intro (fun c34 => ?_) (fun c34 => ?_)
              · skip
                have dc34 := pm_neI c34
                refine hC.1 3 60 _ _ rfl _ _ _ _ _ ?_
                intro m35 em_63
                try have e35 : m35.toInt = (z3_23).toInt - (z4_5).toInt := by rw [em_63]; exact pm_sub _ _ (by omega) (by omega)
                refine Exists.intro _ (And.intro (cw_o7 hI.1) ?_)
                refine And.intro (fun c36 => ?_) (fun c36 => ?_)
                · skip
                  refine hC.1 4 93 _ _ rfl _ _ _ _ _ ?_
                  refine Exists.intro _ (And.intro (cw_o7 hI.1) (And.intro rfl ?_))
                  rw [cw_p_twinFirst hI.1]
                  obtain ⟨v37, ev37⟩ : ∃ z9, z9 = upd v2 13 z4_5 := ⟨_, rfl⟩
                  rw [← ev37]
                  have hs37 : cw_S v37 f2 := by rw [ev37]; exact cw_S_v hs2 13 _ (by decide)
                  have ev37_0 : (v37 0).toInt = (v2 0).toInt := by rw [ev37]; rfl
                  refine Exists.intro _ (And.intro (cw_o7 hI.1) (And.intro rfl ?_))
                  rw [cw_p_twinLength hI.1]
                  obtain ⟨v38, ev38⟩ : ∃ z9, z9 = upd v37 14 m35 := ⟨_, rfl⟩
                  rw [← ev38]
                  have hs38 : cw_S v38 f2 := by rw [ev38]; exact cw_S_v hs37 14 _ (by decide)
                  have ev38_0 : (v38 0).toInt = (v37 0).toInt := by rw [ev38]; rfl
                  refine hC.1 5 105 _ _ rfl _ _ _ _ _ ?_
                  have k1 : (1 : Int32).toInt = 1 := rfl
                  intro m39 em_105
                  try have e39 : m39.toInt = (z4_5).toInt + (1) := by rw [em_105]; exact pm_addc _ _ (1) rfl (by omega) (by omega)
                  exact hC.2 [false, false, false, false, false, true] _ _ _ _ _ _ (ih4 z3_23 m39 v38 f2 hs38 (by omega) (by omega) (by omega))
                · skip
                  refine Exists.intro _ (And.intro (cw_o7 hI.1) ?_)
                  refine And.intro (fun c40 => ?_) (fun c40 => ?_)
                  · skip
                    have dc40 := pm_neI c40
                    refine hC.1 5 105 _ _ rfl _ _ _ _ _ ?_
                    have k1 : (1 : Int32).toInt = 1 := rfl
                    intro m41 em_105
                    try have e41 : m41.toInt = (z4_5).toInt + (1) := by rw [em_105]; exact pm_addc _ _ (1) rfl (by omega) (by omega)
                    exact hC.2 [false, false, false, false, false, true] _ _ _ _ _ _ (ih4 z3_23 m41 v2 f2 hs2 (by omega) (by omega) (by omega))
                  · skip
                    have dc40 : (m35).toInt = ((v2 14) : Int32).toInt := congrArg Int32.toInt c40
                    refine Exists.intro _ (And.intro (cw_o7 hI.1) ?_)
                    refine And.intro (fun c42 => ?_) (fun c42 => ?_)
                    · skip
                      refine hC.1 5 105 _ _ rfl _ _ _ _ _ ?_
                      have k1 : (1 : Int32).toInt = 1 := rfl
                      intro m43 em_105
                      try have e43 : m43.toInt = (z4_5).toInt + (1) := by rw [em_105]; exact pm_addc _ _ (1) rfl (by omega) (by omega)
                      exact hC.2 [false, false, false, false, false, true] _ _ _ _ _ _ (ih4 z3_23 m43 v2 f2 hs2 (by omega) (by omega) (by omega))
                    · skip
                      refine hC.1 4 93 _ _ rfl _ _ _ _ _ ?_
                      refine Exists.intro _ (And.intro (cw_o7 hI.1) (And.intro rfl ?_))
                      rw [cw_p_twinFirst hI.1]
                      obtain ⟨v44, ev44⟩ : ∃ z9, z9 = upd v2 13 z4_5 := ⟨_, rfl⟩
                      rw [← ev44]
                      have hs44 : cw_S v44 f2 := by rw [ev44]; exact cw_S_v hs2 13 _ (by decide)
                      have ev44_0 : (v44 0).toInt = (v2 0).toInt := by rw [ev44]; rfl
                      refine Exists.intro _ (And.intro (cw_o7 hI.1) (And.intro rfl ?_))
                      rw [cw_p_twinLength hI.1]
                      obtain ⟨v45, ev45⟩ : ∃ z9, z9 = upd v44 14 m35 := ⟨_, rfl⟩
                      rw [← ev45]
                      have hs45 : cw_S v45 f2 := by rw [ev45]; exact cw_S_v hs44 14 _ (by decide)
                      have ev45_0 : (v45 0).toInt = (v44 0).toInt := by rw [ev45]; rfl
                      refine hC.1 5 105 _ _ rfl _ _ _ _ _ ?_
                      have k1 : (1 : Int32).toInt = 1 := rfl
                      intro m46 em_105
                      try have e46 : m46.toInt = (z4_5).toInt + (1) := by rw [em_105]; exact pm_addc _ _ (1) rfl (by omega) (by omega)
                      exact hC.2 [false, false, false, false, false, true] _ _ _ _ _ _ (ih4 z3_23 m46 v45 f2 hs45 (by omega) (by omega) (by omega))
              · skip
                have dc34 : (y28).toInt = (y32 : Int32).toInt := congrArg Int32.toInt c34
                have k1 : (1 : Int32).toInt = 1 := rfl
                intro m47 em_54
                try have e47 : m47.toInt = (z3_23).toInt + (1) := by rw [em_54]; exact pm_addc _ _ (1) rfl (by omega) (by omega)
                exact ih12 m47 (by omega) (by omega)
        exact lp11 (200 - y8.toInt).toNat.succ y8 (by omega) (by omega)
  exact lp3 (200 - (0 : Int32).toInt).toNat.succ (0 : Int32) (0 : Int32) v f hs (by omega) (by omega) (by omega)

end
