section
variable {l : Launch} {g : pm_G} {A0 : pm_H} {K nn dn : Nat} {q : Nat → Nat} {w : Nat → Int32} {e : Nat → Nat → Int32} {v : Nat → Int32} {f : Nat → Nat → Int32}
set_option maxRecDepth 100000 in
set_option maxHeartbeats 2000000 in
theorem c_X3_weighUp_l5 (hI : cw_I K nn dn q w e) (hs : cw_S v f) {o1 : Nat} (ho1 : cw_ro K o1) (x3 : Int32) (p0 : 1 ≤ x3.toInt ∧ x3.toInt ≤ 8) : pm_Mt l g 144 2 0 0 [.ref (q 8), .ref (q o1), .ref (q 2), .int x3] (cw A0 g K nn dn q w e v f) (cw_Qs A0 g K nn dn q w e (fun r v2 f2 => r = none ∧ (True))) := by
  refine mt_X3_weighUp rfl (fun J hC => ?_)
  have ro_nn : cw_ro K nn := hI.2.1.2.1
  have ro_dn : cw_ro K dn := hI.2.1.2.2.1
  have hu1 := hI.2.1
  unfold cw_W at hu1
  have rg_x3 := pm_rng x3
  have zz0 := cw_sz hI ho1
  refine hC.1 0 0 _ _ rfl _ _ _ _ _ ?_
  have k0 : (0 : Int32).toInt = 0 := rfl
  have lp3 : ∀ (n : Nat) (z4_3 : Int32) (v2 : Nat → Int32) (f2 : Nat → Nat → Int32), cw_S v2 f2 → (0 ≤ z4_3.toInt ∧ z4_3.toInt ≤ 9) → 200 - z4_3.toInt < (n : Int) → J 3 [some (.ref (q 8)), some (.ref (q o1)), some (.ref (q 2)), some (.int x3), some (.int z4_3), none, none, none] [] (cw A0 g K nn dn q w e v2 f2) 0 0 := by
    intro n
    induction n with
    | zero =>
      intro z4_3 v2 f2 hs2 j0_3 j1_3
      omega
    | succ n ih4 =>
      intro z4_3 v2 f2 hs2 j0_3 j1_3
      refine hC.1 1 3 _ _ rfl _ _ _ _ _ ?_
      refine And.intro (fun c5 => ?_) (fun c5 => ?_)
      · skip
        refine hC.1 2 26 _ _ rfl _ _ _ _ _ ?_
        refine Exists.intro _ (And.intro (cw_o8 hI.1) ?_)
        refine Exists.intro _ (Exists.intro _ (And.intro (Or.inr (cw_worths hI.1)) (And.intro (by omega) ?_)))
        have hw6 : ((0 : Int32)).toInt.toNat < 9 := by omega
        rw [cw_ww_lt hw6]
        refine Exists.intro _ (And.intro (cw_ro_o hI.1 ho1) ?_)
        have z7 := cw_sz hI ho1
        refine Exists.intro _ (Exists.intro _ (And.intro (cw_wr hI.1 hw6) (And.intro (by omega) ?_)))
        rw [cw_swr hI.1 hw6]
        obtain ⟨f8, ef8⟩ : ∃ z9, z9 = va_up f2 (26 + ((0 : Int32)).toInt.toNat) (upd (f2 (26 + ((0 : Int32)).toInt.toNat)) ((w o1)).toInt.toNat (0 : Int32)) := ⟨_, rfl⟩
        rw [← ef8]
        have hs8 : cw_S v2 f8 := by rw [ef8]; exact cw_S_fr hs2 _ _ (by omega) (by omega)
        refine Exists.intro _ (And.intro (cw_ro_o hI.1 ho1) ?_)
        have z9 := cw_sz hI ho1
        have k1 : (1 : Int32).toInt = 1 := rfl
        intro m10 em_43
        try have e10 : m10.toInt = ((w o1)).toInt - (1) := by rw [em_43]; exact pm_subc _ _ (1) rfl (by omega) (by omega)
        have lp12 : ∀ (n : Nat) (z4_46 : Int32) (v11 : Nat → Int32) (f11 : Nat → Nat → Int32), cw_S v11 f11 → (-1 ≤ z4_46.toInt ∧ z4_46.toInt ≤ 159) → z4_46.toInt + 1 < (n : Int) → J 46 [some (.ref (q 8)), some (.ref (q o1)), some (.ref (q 2)), some (.int x3), some (.int z4_46), none, none, none] [] (cw A0 g K nn dn q w e v11 f11) 0 0 := by
          intro n
          induction n with
          | zero =>
            intro z4_46 v11 f11 hs11 j0_46 j1_46
            omega
          | succ n ih13 =>
            intro z4_46 v11 f11 hs11 j0_46 j1_46
            refine hC.1 3 46 _ _ rfl _ _ _ _ _ ?_
            refine And.intro (fun c14 => ?_) (fun c14 => ?_)
            · skip
              refine hC.1 9 158 _ _ rfl _ _ _ _ _ ?_
              exact ⟨rfl, rfl, v11, f11, rfl, hs11, rfl, by exact True.intro⟩
            · skip
              refine And.intro (Exists.intro _ (cw_o2 hI.1)) (Exists.intro _ (Exists.intro _ (Exists.intro _ (Exists.intro _ (And.intro (c_X2_clear hI hs11  ) (And.intro rfl (fun r9 A9 h9 => ?_)))))))
              rcases h9 with ⟨v16, f16, rfl, hs16, rfl, by15⟩
              have lp18 : ∀ (n : Nat) (z5_59 : Int32) (v17 : Nat → Int32) (f17 : Nat → Nat → Int32), cw_S v17 f17 → (z4_46.toInt ≤ z5_59.toInt ∧ z5_59.toInt ≤ 160) → 200 - z5_59.toInt < (n : Int) → J 59 [some (.ref (q 8)), some (.ref (q o1)), some (.ref (q 2)), some (.int x3), some (.int z4_46), some (.int z5_59), none, none] [] (cw A0 g K nn dn q w e v17 f17) 0 0 := by
                intro n
                induction n with
                | zero =>
                  intro z5_59 v17 f17 hs17 j0_59 j1_59
                  omega
                | succ n ih19 =>
                  intro z5_59 v17 f17 hs17 j0_59 j1_59
                  refine hC.1 4 59 _ _ rfl _ _ _ _ _ ?_
                  refine Exists.intro _ (And.intro (cw_ro_o hI.1 ho1) ?_)
                  have z20 := cw_sz hI ho1
                  refine And.intro (fun c21 => ?_) (fun c21 => ?_)
                  · skip
                    refine hC.1 8 152 _ _ rfl _ _ _ _ _ ?_
                    have km1 : (-1 : Int32).toInt = -1 := rfl
                    intro m22 em_152
                    try have e22 : m22.toInt = (z4_46).toInt + (-1) := by rw [em_152]; exact pm_addc _ _ (-1) rfl (by omega) (by omega)
                    exact hC.2 [false, false, false, false, false, true, false, false] _ _ _ _ _ _ (ih13 m22 v17 f17 hs17 (by omega) (by omega))
                  · skip
                    refine Exists.intro _ (And.intro (cw_ro_o hI.1 ho1) ?_)
                    refine Exists.intro _ (Exists.intro _ (And.intro (Or.inl (cw_ro_1 hI.1 ho1)) (And.intro (by omega) ?_)))
                    have w23 := cw_col hI ho1 (z5_59).toInt.toNat
                    refine And.intro (Exists.intro _ (cw_o2 hI.1)) (Exists.intro _ (Exists.intro _ (Exists.intro _ (Exists.intro _ (And.intro (c_X2_take hI hs17 (e (o1 + 1) (z5_59).toInt.toNat) (by omega)) (And.intro rfl (fun r9 A9 h9 => ?_)))))))
                    rcases h9 with ⟨v25, f25, rfl, hs25, rfl, by24⟩
                    have lp27 : ∀ (n : Nat) (z6_82 : Int32) (v26 : Nat → Int32) (f26 : Nat → Nat → Int32), cw_S v26 f26 → (1 ≤ z6_82.toInt ∧ z6_82.toInt ≤ 9) → 200 - z6_82.toInt < (n : Int) → J 82 [some (.ref (q 8)), some (.ref (q o1)), some (.ref (q 2)), some (.int x3), some (.int z4_46), some (.int z5_59), some (.int z6_82), none] [] (cw A0 g K nn dn q w e v26 f26) 0 0 := by
                      intro n
                      induction n with
                      | zero =>
                        intro z6_82 v26 f26 hs26 j0_82 j1_82
                        omega
                      | succ n ih28 =>
                        intro z6_82 v26 f26 hs26 j0_82 j1_82
                        refine hC.1 5 82 _ _ rfl _ _ _ _ _ ?_
                        refine And.intro (fun c29 => ?_) (fun c29 => ?_)
                        · skip
                          refine hC.1 7 146 _ _ rfl _ _ _ _ _ ?_
                          intro m30 em_146
                          try have e30 : m30.toInt = (z5_59).toInt + (1) := by rw [em_146]; exact pm_addc _ _ (1) rfl (by omega) (by omega)
                          exact hC.2 [false, false, false, false, false, false, true, false] _ _ _ _ _ _ (ih19 m30 v26 f26 hs26 (by omega) (by omega))
                        · skip
                          refine Exists.intro _ (And.intro (cw_o8 hI.1) ?_)
                          intro m31 em_95
                          try have e31 : m31.toInt = (z6_82).toInt - (1) := by rw [em_95]; exact pm_subc _ _ (1) rfl (by omega) (by omega)
                          refine Exists.intro _ (Exists.intro _ (And.intro (Or.inr (cw_worths hI.1)) (And.intro (by omega) ?_)))
                          have hw32 : (m31).toInt.toNat < 9 := by omega
                          rw [cw_ww_lt hw32]
                          intro m33 em_100
                          try have e33 : m33.toInt = (z5_59).toInt + (1) := by rw [em_100]; exact pm_addc _ _ (1) rfl (by omega) (by omega)
                          refine Exists.intro _ (Exists.intro _ (And.intro (Or.inl (cw_wr hI.1 hw32)) (And.intro (by omega) ?_)))
                          have km1 : (-1 : Int32).toInt = -1 := rfl
                          refine And.intro (fun c34 => ?_) (fun c34 => ?_)
                          · skip
                            have dc34 : ((f26 (26 + (m31).toInt.toNat) (m33).toInt.toNat)).toInt = ((-1 : Int32) : Int32).toInt := congrArg Int32.toInt c34
                            refine hC.1 6 140 _ _ rfl _ _ _ _ _ ?_
                            intro m35 em_140
                            try have e35 : m35.toInt = (z6_82).toInt + (1) := by rw [em_140]; exact pm_addc _ _ (1) rfl (by omega) (by omega)
                            exact hC.2 [false, false, false, false, false, false, false, true] _ _ _ _ _ _ (ih28 m35 v26 f26 hs26 (by omega) (by omega))
                          · skip
                            have dc34 := pm_neI c34
                            refine Exists.intro _ (And.intro (cw_o8 hI.1) ?_)
                            refine Exists.intro _ (Exists.intro _ (And.intro (Or.inr (cw_worths hI.1)) (And.intro (by omega) ?_)))
                            have hw36 : (z6_82).toInt.toNat < 9 := by omega
                            rw [cw_ww_lt hw36]
                            refine Exists.intro _ (And.intro (cw_o8 hI.1) ?_)
                            refine Exists.intro _ (Exists.intro _ (And.intro (Or.inr (cw_worths hI.1)) (And.intro (by omega) ?_)))
                            have hw37 : (z6_82).toInt.toNat < 9 := by omega
                            rw [cw_ww_lt hw37]
                            refine Exists.intro _ (Exists.intro _ (And.intro (Or.inl (cw_wr hI.1 hw37)) (And.intro (by omega) ?_)))
                            refine Exists.intro _ (And.intro (cw_o2 hI.1) ?_)
                            intro m38 em_135
                            try have e38 : m38.toInt = ((v26 2)).toInt + ((f26 (26 + (m31).toInt.toNat) (m33).toInt.toNat)).toInt := by rw [em_135]; exact pm_add _ _ (by omega) (by omega)
                            refine Exists.intro _ (Exists.intro _ (Exists.intro _ (Exists.intro _ (And.intro (c_J9_max_7cf53 (cw A0 g K nn dn q w e v26 f26) (f26 (26 + (z6_82).toInt.toNat) (z4_46).toInt.toNat) m38 ) (And.intro rfl (fun r9 A9 h9 => ?_))))))
                            obtain ⟨y39, rfl, rfl, by39⟩ := h9
                            refine Exists.intro _ (Exists.intro _ (And.intro (cw_wr hI.1 hw36) (And.intro (by omega) ?_)))
                            rw [cw_swr hI.1 hw36]
                            obtain ⟨f41, ef41⟩ : ∃ z9, z9 = va_up f26 (26 + (z6_82).toInt.toNat) (upd (f26 (26 + (z6_82).toInt.toNat)) (z4_46).toInt.toNat y39) := ⟨_, rfl⟩
                            rw [← ef41]
                            have hs41 : cw_S v26 f41 := by rw [ef41]; exact cw_S_fr hs26 _ _ (by omega) (by omega)
                            refine hC.1 6 140 _ _ rfl _ _ _ _ _ ?_
                            intro m42 em_140
                            try have e42 : m42.toInt = (z6_82).toInt + (1) := by rw [em_140]; exact pm_addc _ _ (1) rfl (by omega) (by omega)
                            exact hC.2 [false, false, false, false, false, false, false, true] _ _ _ _ _ _ (ih28 m42 v26 f41 hs41 (by omega) (by omega))
                    exact lp27 (200 - (1 : Int32).toInt).toNat.succ (1 : Int32) v25 f25 hs25 (by omega) (by omega)
              exact lp18 (200 - z4_46.toInt).toNat.succ z4_46 v16 f16 hs16 (by omega) (by omega)
        exact lp12 (m10.toInt + 1).toNat.succ m10 v2 f8 hs8 (by omega) (by omega)
      · skip
        refine Exists.intro _ (And.intro (cw_o8 hI.1) ?_)
        refine Exists.intro _ (Exists.intro _ (And.intro (Or.inr (cw_worths hI.1)) (And.intro (by omega) ?_)))
        have hw43 : (z4_3).toInt.toNat < 9 := by omega
        rw [cw_ww_lt hw43]
        have km1 : (-1 : Int32).toInt = -1 := rfl
        refine Exists.intro _ (Exists.intro _ (Exists.intro _ (Exists.intro _ (And.intro (c_fill (cw_wr hI.1 hw43) (by decide) (-1 : Int32)) (And.intro rfl (fun r9 A9 h9 => ?_))))))
        obtain ⟨rfl, rfl⟩ := h9
        rw [cw_swr hI.1 hw43]
        obtain ⟨f44, ef44⟩ : ∃ z9, z9 = va_up f2 (26 + (z4_3).toInt.toNat) (fun j => if j < 161 then (-1 : Int32) else f2 (26 + (z4_3).toInt.toNat) j) := ⟨_, rfl⟩
        rw [← ef44]
        have hs44 : cw_S v2 f44 := by rw [ef44]; exact cw_S_fr hs2 _ _ (by omega) (by omega)
        have k1 : (1 : Int32).toInt = 1 := rfl
        intro m45 em_20
        try have e45 : m45.toInt = (z4_3).toInt + (1) := by rw [em_20]; exact pm_addc _ _ (1) rfl (by omega) (by omega)
        exact ih4 m45 v2 f44 hs44 (by omega) (by omega)
  exact lp3 (200 - (0 : Int32).toInt).toNat.succ (0 : Int32) v f hs (by omega) (by omega)
end
