section
variable {l : Launch} {g : pm_G} {A0 : pm_H} {h : Nat} {q : Nat → Nat}
set_option maxRecDepth 100000 in
set_option maxHeartbeats 2000000 in
theorem F_X11_laysOrder (D : md_D h q) (v : Nat → Int32) (f : Nat → Nat → Int32) (hv : md_V v) (hf : md_F f) (x1 : Int32) (x2 : Int32) (x3 : Int32) (p0 : 0 ≤ x1.toInt ∧ x1.toInt ≤ x2.toInt ∧ x2.toInt < (v 0).toInt) : pm_Mt l g 221 2 0 0 [.ref h, .int x1, .int x2, .int x3] (md A0 g h q v f) (md_Qw A0 g h q f (fun r v2 f2 => f2 0 = f 0 ∧ f2 1 = f 1 ∧ (v2 0).toInt = (v 0).toInt ∧ (v2 1).toInt = (v 1).toInt ∧ (v2 2).toInt = (v 2).toInt ∧ (v2 3).toInt = (v 3).toInt ∧ (v2 4).toInt = (v 4).toInt ∧ (v2 6).toInt = (v 6).toInt ∧ 0 ≤ r.toInt ∧ r.toInt ≤ 24)) := by
  refine mt_X11_laysOrder rfl (fun J hC => ?_)
  have hv9 := hv
  unfold md_V at hv9
  have rg_x1 := pm_rng x1
  have rg_x2 := pm_rng x2
  have rg_x3 := pm_rng x3
  refine hC.1 0 0 _ _ rfl _ _ _ _ _ ?_
  have k0 : (0 : Int32).toInt = 0 := rfl
  have lp2 : ∀ (n : Nat) (z4_9 : Int32) (z5_9 : Int32) (z6_9 : Int32) (v1 : Nat → Int32) (f1 : Nat → Nat → Int32), md_V v1 → md_F f1 → f1 2 = f 2 → f1 0 = f 0 → f1 1 = f 1 → (0 ≤ z6_9.toInt ∧ z6_9.toInt ≤ x2.toInt - x1.toInt + 1) → (z4_9.toInt = (cntB z5_9 24 : Int)) → (2 ≤ x3.toInt → z4_9.toInt = 0) → (v1 0).toInt = (v 0).toInt → (v1 1).toInt = (v 1).toInt → (v1 2).toInt = (v 2).toInt → (v1 3).toInt = (v 3).toInt → (v1 4).toInt = (v 4).toInt → (v1 6).toInt = (v 6).toInt → 200 - z6_9.toInt < (n : Int) → J 9 [some (.ref h), some (.int x1), some (.int x2), some (.int x3), some (.int z4_9), some (.int z5_9), some (.int z6_9), none, none] [] (md A0 g h q v1 f1) 0 0 := by
    intro n
    induction n with
    | zero =>
      intro z4_9 z5_9 z6_9 v1 f1 hv1 hf1 hw1 hr1_0 hr1_1 j0_9 j1_9 j2_9 j3_9 j4_9 j5_9 j6_9 j7_9 j8_9 j9_9
      omega
    | succ n ih3 =>
      intro z4_9 z5_9 z6_9 v1 f1 hv1 hf1 hw1 hr1_0 hr1_1 j0_9 j1_9 j2_9 j3_9 j4_9 j5_9 j6_9 j7_9 j8_9 j9_9
      have cb9 := cntB_le z5_9 24
      refine hC.1 1 9 _ _ rfl _ _ _ _ _ ?_
      have hu4 := hv1
      unfold md_V at hu4
      intro m5 em_13
      try have e5 : m5.toInt = (x2).toInt - (x1).toInt := by rw [em_13]; exact pm_sub _ _ (by omega) (by omega)
      refine And.intro (fun c6 => ?_) (fun c6 => ?_)
      · skip
        refine hC.1 6 85 _ _ rfl _ _ _ _ _ ?_
        have k2 : (2 : Int32).toInt = 2 := rfl
        refine And.intro (fun c7 => ?_) (fun c7 => ?_)
        · skip
          refine hC.1 7 93 _ _ rfl _ _ _ _ _ ?_
          refine And.intro (Exists.intro _ md_o) (Exists.intro _ (Exists.intro _ (Exists.intro _ (Exists.intro _ (And.intro (c_X11_setOf D v1 f1 hv1 hf1 x1 x2 (by omega) (by omega)) (And.intro rfl (fun r9 A9 h9 => ?_)))))))
          obtain ⟨y8, rfl, rfl, by8⟩ := h9
          have lp10 : ∀ (n : Nat) (z4_104 : Int32) (z7_104 : Int32) (v9 : Nat → Int32) (f9 : Nat → Nat → Int32), md_V v9 → md_F f9 → f9 2 = f 2 → f9 0 = f 0 → f9 1 = f 1 → (0 ≤ z7_104.toInt ∧ z7_104.toInt ≤ 24 ∧ 0 ≤ z4_104.toInt ∧ z4_104.toInt ≤ z7_104.toInt) → (v9 0).toInt = (v 0).toInt → (v9 1).toInt = (v 1).toInt → (v9 2).toInt = (v 2).toInt → (v9 3).toInt = (v 3).toInt → (v9 4).toInt = (v 4).toInt → (v9 6).toInt = (v 6).toInt → 30 - z7_104.toInt < (n : Int) → J 104 [some (.ref h), some (.int x1), some (.int x2), some (.int x3), some (.int z4_104), some (.int z5_9), some (.int y8), some (.int z7_104), none] [] (md A0 g h q v9 f9) 0 0 := by
            intro n
            induction n with
            | zero =>
              intro z4_104 z7_104 v9 f9 hv9 hf9 hw9 hr9_0 hr9_1 j0_104 j1_104 j2_104 j3_104 j4_104 j5_104 j6_104 j7_104
              omega
            | succ n ih11 =>
              intro z4_104 z7_104 v9 f9 hv9 hf9 hw9 hr9_0 hr9_1 j0_104 j1_104 j2_104 j3_104 j4_104 j5_104 j6_104 j7_104
              refine hC.1 8 104 _ _ rfl _ _ _ _ _ ?_
              have hu12 := hv9
              unfold md_V at hu12
              have k24 : (24 : Int32).toInt = 24 := rfl
              refine And.intro (fun c13 => ?_) (fun c13 => ?_)
              · skip
                refine hC.1 13 194 _ _ rfl _ _ _ _ _ ?_
                exact ⟨rfl, fun e9 => absurd e9 (by decide), rfl, z4_104, v9, f9, rfl, rfl, hv9, hf9, hw9, hr9_0, hr9_1, by first | omega | (dsimp only; omega) | trivial⟩
              · skip
                have k1 : (1 : Int32).toInt = 1 := rfl
                refine And.intro (fun c14 => ?_) (fun c14 => ?_)
                · skip
                  have dc14 := pm_neI c14
                  refine hC.1 9 124 _ _ rfl _ _ _ _ _ ?_
                  have lp16 : ∀ (n : Nat) (z8_128 : Int32) (v15 : Nat → Int32) (f15 : Nat → Nat → Int32), md_V v15 → md_F f15 → f15 2 = f 2 → f15 0 = f 0 → f15 1 = f 1 → (0 ≤ z8_128.toInt ∧ z8_128.toInt ≤ z4_104.toInt) → (v15 0).toInt = (v 0).toInt → (v15 1).toInt = (v 1).toInt → (v15 2).toInt = (v 2).toInt → (v15 3).toInt = (v 3).toInt → (v15 4).toInt = (v 4).toInt → (v15 6).toInt = (v 6).toInt → z8_128.toInt < (n : Int) → J 128 [some (.ref h), some (.int x1), some (.int x2), some (.int x3), some (.int z4_104), some (.int z5_9), some (.int y8), some (.int z7_104), some (.int z8_128)] [] (md A0 g h q v15 f15) 0 0 := by
                    intro n
                    induction n with
                    | zero =>
                      intro z8_128 v15 f15 hv15 hf15 hw15 hr15_0 hr15_1 j0_128 j1_128 j2_128 j3_128 j4_128 j5_128 j6_128 j7_128
                      omega
                    | succ n ih17 =>
                      intro z8_128 v15 f15 hv15 hf15 hw15 hr15_0 hr15_1 j0_128 j1_128 j2_128 j3_128 j4_128 j5_128 j6_128 j7_128
                      refine hC.1 10 128 _ _ rfl _ _ _ _ _ ?_
                      have hu18 := hv15
                      unfold md_V at hu18
                      refine And.intro (fun c19 => ?_) (fun c19 => ?_)
                      · skip
                        refine hC.1 11 176 _ _ rfl _ _ _ _ _ ?_
                        refine Exists.intro _ (And.intro md_o ?_)
                        refine Exists.intro _ (Exists.intro _ (And.intro (md_a_row D) (And.intro (by omega) ?_)))
                        rw [md_s_row D]
                        obtain ⟨f20, ef20⟩ : ∃ z9, z9 = va_up f15 16 (upd (f15 16) (z8_128).toInt.toNat z7_104) := ⟨_, rfl⟩
                        rw [← ef20]
                        have hf20 : md_F f20 := by rw [ef20]; exact md_F_st hf15 16 _ _ (by show (0 : Int) ≤ _ ∧ _ ≤ (23 : Int); omega)
                        have hw20 : f20 2 = f 2 := (show f20 2 = f15 2 by rw [ef20]; rfl).trans hw15
                        have hr20_0 : f20 0 = f 0 := (show f20 0 = f15 0 by rw [ef20]; rfl).trans hr15_0
                        have hr20_1 : f20 1 = f 1 := (show f20 1 = f15 1 by rw [ef20]; rfl).trans hr15_1
                        intro m21 em_185
                        try have e21 : m21.toInt = (z4_104).toInt + (1) := by rw [em_185]; exact pm_addc _ _ (1) rfl (by omega) (by omega)
                        refine hC.1 12 188 _ _ rfl _ _ _ _ _ ?_
                        intro m22 em_188
                        try have e22 : m22.toInt = (z7_104).toInt + (1) := by rw [em_188]; exact pm_addc _ _ (1) rfl (by omega) (by omega)
                        exact hC.2 [false, false, false, false, false, false, false, false, true] _ _ _ _ _ _ (ih11 m21 m22 v15 f20 hv15 hf20 hw20 hr20_0 hr20_1 (by omega) (by omega) (by omega) (by omega) (by omega) (by omega) (by omega) (by omega))
                      · skip
                        refine Exists.intro _ (And.intro md_o ?_)
                        intro m23 em_143
                        try have e23 : m23.toInt = (z8_128).toInt - (1) := by rw [em_143]; exact pm_subc _ _ (1) rfl (by omega) (by omega)
                        refine Exists.intro _ (Exists.intro _ (And.intro (Or.inl (md_a_row D)) (And.intro (by omega) ?_)))
                        have w24 : (0 : Int) ≤ (f15 16 (m23).toInt.toNat).toInt ∧ (f15 16 (m23).toInt.toNat).toInt ≤ (23 : Int) := hf15 16 _
                        refine And.intro (Exists.intro _ md_o) (Exists.intro _ (Exists.intro _ (Exists.intro _ (Exists.intro _ (And.intro (c_X11_isAhead D v15 f15 hv15 hf15 z7_104 (f15 16 (m23).toInt.toNat) x1 x2 x3 (by omega) (by omega) (by omega) (by omega)) (And.intro rfl (fun r9 A9 h9 => ?_)))))))
                        rcases h9 with ⟨y25, rfl, rfl, ⟨rfl, by25⟩ | ⟨rfl, by25⟩⟩
                        · skip
                          refine And.intro (fun c9 => absurd c9 (by decide)) (fun _ => ?_)
                          refine Exists.intro _ (And.intro md_o ?_)
                          refine Exists.intro _ (And.intro md_o ?_)
                          intro m26 em_167
                          try have e26 : m26.toInt = (z8_128).toInt - (1) := by rw [em_167]; exact pm_subc _ _ (1) rfl (by omega) (by omega)
                          refine Exists.intro _ (Exists.intro _ (And.intro (Or.inl (md_a_row D)) (And.intro (by omega) ?_)))
                          have w27 : (0 : Int) ≤ (f15 16 (m26).toInt.toNat).toInt ∧ (f15 16 (m26).toInt.toNat).toInt ≤ (23 : Int) := hf15 16 _
                          refine Exists.intro _ (Exists.intro _ (And.intro (md_a_row D) (And.intro (by omega) ?_)))
                          rw [md_s_row D]
                          obtain ⟨f28, ef28⟩ : ∃ z9, z9 = va_up f15 16 (upd (f15 16) (z8_128).toInt.toNat (f15 16 (m26).toInt.toNat)) := ⟨_, rfl⟩
                          rw [← ef28]
                          have hf28 : md_F f28 := by rw [ef28]; exact md_F_st hf15 16 _ _ (by show (0 : Int) ≤ _ ∧ _ ≤ (23 : Int); omega)
                          have hw28 : f28 2 = f 2 := (show f28 2 = f15 2 by rw [ef28]; rfl).trans hw15
                          have hr28_0 : f28 0 = f 0 := (show f28 0 = f15 0 by rw [ef28]; rfl).trans hr15_0
                          have hr28_1 : f28 1 = f 1 := (show f28 1 = f15 1 by rw [ef28]; rfl).trans hr15_1
                          have km1 : (-1 : Int32).toInt = -1 := rfl
                          intro m29 em_170
                          try have e29 : m29.toInt = (z8_128).toInt + (-1) := by rw [em_170]; exact pm_addc _ _ (-1) rfl (by omega) (by omega)
                          exact ih17 m29 v15 f28 hv15 hf28 hw28 hr28_0 hr28_1 (by omega) (by omega) (by omega) (by omega) (by omega) (by omega) (by omega) (by omega)
                        · skip
                          refine And.intro (fun _ => ?_) (fun c9 => absurd c9 (by decide))
                          refine hC.1 11 176 _ _ rfl _ _ _ _ _ ?_
                          refine Exists.intro _ (And.intro md_o ?_)
                          refine Exists.intro _ (Exists.intro _ (And.intro (md_a_row D) (And.intro (by omega) ?_)))
                          rw [md_s_row D]
                          obtain ⟨f30, ef30⟩ : ∃ z9, z9 = va_up f15 16 (upd (f15 16) (z8_128).toInt.toNat z7_104) := ⟨_, rfl⟩
                          rw [← ef30]
                          have hf30 : md_F f30 := by rw [ef30]; exact md_F_st hf15 16 _ _ (by show (0 : Int) ≤ _ ∧ _ ≤ (23 : Int); omega)
                          have hw30 : f30 2 = f 2 := (show f30 2 = f15 2 by rw [ef30]; rfl).trans hw15
                          have hr30_0 : f30 0 = f 0 := (show f30 0 = f15 0 by rw [ef30]; rfl).trans hr15_0
                          have hr30_1 : f30 1 = f 1 := (show f30 1 = f15 1 by rw [ef30]; rfl).trans hr15_1
                          intro m31 em_185
                          try have e31 : m31.toInt = (z4_104).toInt + (1) := by rw [em_185]; exact pm_addc _ _ (1) rfl (by omega) (by omega)
                          refine hC.1 12 188 _ _ rfl _ _ _ _ _ ?_
                          intro m32 em_188
                          try have e32 : m32.toInt = (z7_104).toInt + (1) := by rw [em_188]; exact pm_addc _ _ (1) rfl (by omega) (by omega)
                          exact hC.2 [false, false, false, false, false, false, false, false, true] _ _ _ _ _ _ (ih11 m31 m32 v15 f30 hv15 hf30 hw30 hr30_0 hr30_1 (by omega) (by omega) (by omega) (by omega) (by omega) (by omega) (by omega) (by omega))
                  exact lp16 (z4_104.toInt).toNat.succ z4_104 v9 f9 hv9 hf9 hw9 hr9_0 hr9_1 (by omega) (by omega) (by omega) (by omega) (by omega) (by omega) (by omega) (by omega)
                · skip
                  have dc14 : (((y8 >>> (z7_104 &&& 31)) &&& (1 : Int32))).toInt = (0 : Int32).toInt := congrArg Int32.toInt c14
                  refine hC.1 12 188 _ _ rfl _ _ _ _ _ ?_
                  intro m33 em_188
                  try have e33 : m33.toInt = (z7_104).toInt + (1) := by rw [em_188]; exact pm_addc _ _ (1) rfl (by omega) (by omega)
                  exact ih11 z4_104 m33 v9 f9 hv9 hf9 hw9 hr9_0 hr9_1 (by omega) (by omega) (by omega) (by omega) (by omega) (by omega) (by omega) (by omega)
          exact lp10 (30 - (0 : Int32).toInt).toNat.succ z4_9 (0 : Int32) v1 f1 hv1 hf1 hw1 hr1_0 hr1_1 (by omega) (by omega) (by omega) (by omega) (by omega) (by omega) (by omega) (by omega)
        · skip
          exact ⟨rfl, fun e9 => absurd e9 (by decide), rfl, z4_9, v1, f1, rfl, rfl, hv1, hf1, hw1, hr1_0, hr1_1, by first | omega | (dsimp only; omega) | trivial⟩
      · skip
        have k2 : (2 : Int32).toInt = 2 := rfl
        refine And.intro (fun c34 => ?_) (fun c34 => ?_)
        · skip
          refine hC.1 6 85 _ _ rfl _ _ _ _ _ ?_
          refine And.intro (fun c35 => ?_) (fun c35 => ?_)
          · skip
            refine hC.1 7 93 _ _ rfl _ _ _ _ _ ?_
            refine And.intro (Exists.intro _ md_o) (Exists.intro _ (Exists.intro _ (Exists.intro _ (Exists.intro _ (And.intro (c_X11_setOf D v1 f1 hv1 hf1 x1 x2 (by omega) (by omega)) (And.intro rfl (fun r9 A9 h9 => ?_)))))))
            obtain ⟨y36, rfl, rfl, by36⟩ := h9
            have lp38 : ∀ (n : Nat) (z4_104 : Int32) (z7_104 : Int32) (v37 : Nat → Int32) (f37 : Nat → Nat → Int32), md_V v37 → md_F f37 → f37 2 = f 2 → f37 0 = f 0 → f37 1 = f 1 → (0 ≤ z7_104.toInt ∧ z7_104.toInt ≤ 24 ∧ 0 ≤ z4_104.toInt ∧ z4_104.toInt ≤ z7_104.toInt) → (v37 0).toInt = (v 0).toInt → (v37 1).toInt = (v 1).toInt → (v37 2).toInt = (v 2).toInt → (v37 3).toInt = (v 3).toInt → (v37 4).toInt = (v 4).toInt → (v37 6).toInt = (v 6).toInt → 30 - z7_104.toInt < (n : Int) → J 104 [some (.ref h), some (.int x1), some (.int x2), some (.int x3), some (.int z4_104), some (.int z5_9), some (.int y36), some (.int z7_104), none] [] (md A0 g h q v37 f37) 0 0 := by
              intro n
              induction n with
              | zero =>
                intro z4_104 z7_104 v37 f37 hv37 hf37 hw37 hr37_0 hr37_1 j0_104 j1_104 j2_104 j3_104 j4_104 j5_104 j6_104 j7_104
                omega
              | succ n ih39 =>
                intro z4_104 z7_104 v37 f37 hv37 hf37 hw37 hr37_0 hr37_1 j0_104 j1_104 j2_104 j3_104 j4_104 j5_104 j6_104 j7_104
                refine hC.1 8 104 _ _ rfl _ _ _ _ _ ?_
                have hu40 := hv37
                unfold md_V at hu40
                have k24 : (24 : Int32).toInt = 24 := rfl
                refine And.intro (fun c41 => ?_) (fun c41 => ?_)
                · skip
                  refine hC.1 13 194 _ _ rfl _ _ _ _ _ ?_
                  exact ⟨rfl, fun e9 => absurd e9 (by decide), rfl, z4_104, v37, f37, rfl, rfl, hv37, hf37, hw37, hr37_0, hr37_1, by first | omega | (dsimp only; omega) | trivial⟩
                · skip
                  have k1 : (1 : Int32).toInt = 1 := rfl
                  refine And.intro (fun c42 => ?_) (fun c42 => ?_)
                  · skip
                    have dc42 := pm_neI c42
                    refine hC.1 9 124 _ _ rfl _ _ _ _ _ ?_
                    have lp44 : ∀ (n : Nat) (z8_128 : Int32) (v43 : Nat → Int32) (f43 : Nat → Nat → Int32), md_V v43 → md_F f43 → f43 2 = f 2 → f43 0 = f 0 → f43 1 = f 1 → (0 ≤ z8_128.toInt ∧ z8_128.toInt ≤ z4_104.toInt) → (v43 0).toInt = (v 0).toInt → (v43 1).toInt = (v 1).toInt → (v43 2).toInt = (v 2).toInt → (v43 3).toInt = (v 3).toInt → (v43 4).toInt = (v 4).toInt → (v43 6).toInt = (v 6).toInt → z8_128.toInt < (n : Int) → J 128 [some (.ref h), some (.int x1), some (.int x2), some (.int x3), some (.int z4_104), some (.int z5_9), some (.int y36), some (.int z7_104), some (.int z8_128)] [] (md A0 g h q v43 f43) 0 0 := by
                      intro n
                      induction n with
                      | zero =>
                        intro z8_128 v43 f43 hv43 hf43 hw43 hr43_0 hr43_1 j0_128 j1_128 j2_128 j3_128 j4_128 j5_128 j6_128 j7_128
                        omega
                      | succ n ih45 =>
                        intro z8_128 v43 f43 hv43 hf43 hw43 hr43_0 hr43_1 j0_128 j1_128 j2_128 j3_128 j4_128 j5_128 j6_128 j7_128
                        refine hC.1 10 128 _ _ rfl _ _ _ _ _ ?_
                        have hu46 := hv43
                        unfold md_V at hu46
                        refine And.intro (fun c47 => ?_) (fun c47 => ?_)
                        · skip
                          refine hC.1 11 176 _ _ rfl _ _ _ _ _ ?_
                          refine Exists.intro _ (And.intro md_o ?_)
                          refine Exists.intro _ (Exists.intro _ (And.intro (md_a_row D) (And.intro (by omega) ?_)))
                          rw [md_s_row D]
                          obtain ⟨f48, ef48⟩ : ∃ z9, z9 = va_up f43 16 (upd (f43 16) (z8_128).toInt.toNat z7_104) := ⟨_, rfl⟩
                          rw [← ef48]
                          have hf48 : md_F f48 := by rw [ef48]; exact md_F_st hf43 16 _ _ (by show (0 : Int) ≤ _ ∧ _ ≤ (23 : Int); omega)
                          have hw48 : f48 2 = f 2 := (show f48 2 = f43 2 by rw [ef48]; rfl).trans hw43
                          have hr48_0 : f48 0 = f 0 := (show f48 0 = f43 0 by rw [ef48]; rfl).trans hr43_0
                          have hr48_1 : f48 1 = f 1 := (show f48 1 = f43 1 by rw [ef48]; rfl).trans hr43_1
                          intro m49 em_185
                          try have e49 : m49.toInt = (z4_104).toInt + (1) := by rw [em_185]; exact pm_addc _ _ (1) rfl (by omega) (by omega)
                          refine hC.1 12 188 _ _ rfl _ _ _ _ _ ?_
                          intro m50 em_188
                          try have e50 : m50.toInt = (z7_104).toInt + (1) := by rw [em_188]; exact pm_addc _ _ (1) rfl (by omega) (by omega)
                          exact hC.2 [false, false, false, false, false, false, false, false, true] _ _ _ _ _ _ (ih39 m49 m50 v43 f48 hv43 hf48 hw48 hr48_0 hr48_1 (by omega) (by omega) (by omega) (by omega) (by omega) (by omega) (by omega) (by omega))
                        · skip
                          refine Exists.intro _ (And.intro md_o ?_)
                          intro m51 em_143
                          try have e51 : m51.toInt = (z8_128).toInt - (1) := by rw [em_143]; exact pm_subc _ _ (1) rfl (by omega) (by omega)
                          refine Exists.intro _ (Exists.intro _ (And.intro (Or.inl (md_a_row D)) (And.intro (by omega) ?_)))
                          have w52 : (0 : Int) ≤ (f43 16 (m51).toInt.toNat).toInt ∧ (f43 16 (m51).toInt.toNat).toInt ≤ (23 : Int) := hf43 16 _
                          refine And.intro (Exists.intro _ md_o) (Exists.intro _ (Exists.intro _ (Exists.intro _ (Exists.intro _ (And.intro (c_X11_isAhead D v43 f43 hv43 hf43 z7_104 (f43 16 (m51).toInt.toNat) x1 x2 x3 (by omega) (by omega) (by omega) (by omega)) (And.intro rfl (fun r9 A9 h9 => ?_)))))))
                          rcases h9 with ⟨y53, rfl, rfl, ⟨rfl, by53⟩ | ⟨rfl, by53⟩⟩
                          · skip
                            refine And.intro (fun c9 => absurd c9 (by decide)) (fun _ => ?_)
                            refine Exists.intro _ (And.intro md_o ?_)
                            refine Exists.intro _ (And.intro md_o ?_)
                            intro m54 em_167
                            try have e54 : m54.toInt = (z8_128).toInt - (1) := by rw [em_167]; exact pm_subc _ _ (1) rfl (by omega) (by omega)
                            refine Exists.intro _ (Exists.intro _ (And.intro (Or.inl (md_a_row D)) (And.intro (by omega) ?_)))
                            have w55 : (0 : Int) ≤ (f43 16 (m54).toInt.toNat).toInt ∧ (f43 16 (m54).toInt.toNat).toInt ≤ (23 : Int) := hf43 16 _
                            refine Exists.intro _ (Exists.intro _ (And.intro (md_a_row D) (And.intro (by omega) ?_)))
                            rw [md_s_row D]
                            obtain ⟨f56, ef56⟩ : ∃ z9, z9 = va_up f43 16 (upd (f43 16) (z8_128).toInt.toNat (f43 16 (m54).toInt.toNat)) := ⟨_, rfl⟩
                            rw [← ef56]
                            have hf56 : md_F f56 := by rw [ef56]; exact md_F_st hf43 16 _ _ (by show (0 : Int) ≤ _ ∧ _ ≤ (23 : Int); omega)
                            have hw56 : f56 2 = f 2 := (show f56 2 = f43 2 by rw [ef56]; rfl).trans hw43
                            have hr56_0 : f56 0 = f 0 := (show f56 0 = f43 0 by rw [ef56]; rfl).trans hr43_0
                            have hr56_1 : f56 1 = f 1 := (show f56 1 = f43 1 by rw [ef56]; rfl).trans hr43_1
                            have km1 : (-1 : Int32).toInt = -1 := rfl
                            intro m57 em_170
                            try have e57 : m57.toInt = (z8_128).toInt + (-1) := by rw [em_170]; exact pm_addc _ _ (-1) rfl (by omega) (by omega)
                            exact ih45 m57 v43 f56 hv43 hf56 hw56 hr56_0 hr56_1 (by omega) (by omega) (by omega) (by omega) (by omega) (by omega) (by omega) (by omega)
                          · skip
                            refine And.intro (fun _ => ?_) (fun c9 => absurd c9 (by decide))
                            refine hC.1 11 176 _ _ rfl _ _ _ _ _ ?_
                            refine Exists.intro _ (And.intro md_o ?_)
                            refine Exists.intro _ (Exists.intro _ (And.intro (md_a_row D) (And.intro (by omega) ?_)))
                            rw [md_s_row D]
                            obtain ⟨f58, ef58⟩ : ∃ z9, z9 = va_up f43 16 (upd (f43 16) (z8_128).toInt.toNat z7_104) := ⟨_, rfl⟩
                            rw [← ef58]
                            have hf58 : md_F f58 := by rw [ef58]; exact md_F_st hf43 16 _ _ (by show (0 : Int) ≤ _ ∧ _ ≤ (23 : Int); omega)
                            have hw58 : f58 2 = f 2 := (show f58 2 = f43 2 by rw [ef58]; rfl).trans hw43
                            have hr58_0 : f58 0 = f 0 := (show f58 0 = f43 0 by rw [ef58]; rfl).trans hr43_0
                            have hr58_1 : f58 1 = f 1 := (show f58 1 = f43 1 by rw [ef58]; rfl).trans hr43_1
                            intro m59 em_185
                            try have e59 : m59.toInt = (z4_104).toInt + (1) := by rw [em_185]; exact pm_addc _ _ (1) rfl (by omega) (by omega)
                            refine hC.1 12 188 _ _ rfl _ _ _ _ _ ?_
                            intro m60 em_188
                            try have e60 : m60.toInt = (z7_104).toInt + (1) := by rw [em_188]; exact pm_addc _ _ (1) rfl (by omega) (by omega)
                            exact hC.2 [false, false, false, false, false, false, false, false, true] _ _ _ _ _ _ (ih39 m59 m60 v43 f58 hv43 hf58 hw58 hr58_0 hr58_1 (by omega) (by omega) (by omega) (by omega) (by omega) (by omega) (by omega) (by omega))
                    exact lp44 (z4_104.toInt).toNat.succ z4_104 v37 f37 hv37 hf37 hw37 hr37_0 hr37_1 (by omega) (by omega) (by omega) (by omega) (by omega) (by omega) (by omega) (by omega)
                  · skip
                    have dc42 : (((y36 >>> (z7_104 &&& 31)) &&& (1 : Int32))).toInt = (0 : Int32).toInt := congrArg Int32.toInt c42
                    refine hC.1 12 188 _ _ rfl _ _ _ _ _ ?_
                    intro m61 em_188
                    try have e61 : m61.toInt = (z7_104).toInt + (1) := by rw [em_188]; exact pm_addc _ _ (1) rfl (by omega) (by omega)
                    exact ih39 z4_104 m61 v37 f37 hv37 hf37 hw37 hr37_0 hr37_1 (by omega) (by omega) (by omega) (by omega) (by omega) (by omega) (by omega) (by omega)
            exact lp38 (30 - (0 : Int32).toInt).toNat.succ z4_9 (0 : Int32) v1 f1 hv1 hf1 hw1 hr1_0 hr1_1 (by omega) (by omega) (by omega) (by omega) (by omega) (by omega) (by omega) (by omega)
          · skip
            exact ⟨rfl, fun e9 => absurd e9 (by decide), rfl, z4_9, v1, f1, rfl, rfl, hv1, hf1, hw1, hr1_0, hr1_1, by first | omega | (dsimp only; omega) | trivial⟩
        · skip
          refine Exists.intro _ (And.intro md_o ?_)
          refine And.intro (fun c62 => ?_) (fun c62 => ?_)
          · skip
            have dc62 := pm_neI c62
            refine hC.1 2 37 _ _ rfl _ _ _ _ _ ?_
            intro m63 em_40
            try have e63 : m63.toInt = (x2).toInt - (z6_9).toInt := by rw [em_40]; exact pm_sub _ _ (by omega) (by omega)
            refine hC.1 3 41 _ _ rfl _ _ _ _ _ ?_
            refine Exists.intro _ (Exists.intro _ (And.intro (Or.inl (md_a_colours D)) (And.intro (by omega) ?_)))
            have w64 : (0 : Int) ≤ (f1 0 (m63).toInt.toNat).toInt ∧ (f1 0 (m63).toInt.toNat).toInt ≤ (23 : Int) := hf1 0 _
            have k1 : (1 : Int32).toInt = 1 := rfl
            refine And.intro (fun c65 => ?_) (fun c65 => ?_)
            · skip
              have dc65 := pm_neI c65
              refine hC.1 4 58 _ _ rfl _ _ _ _ _ ?_
              have hn9 := cnt_lt (c := (f1 0 (m63).toInt.toNat)) j1_9 (by omega) (by assumption)
              refine Exists.intro _ (And.intro md_o ?_)
              refine Exists.intro _ (Exists.intro _ (And.intro (md_a_row D) (And.intro (by omega) ?_)))
              rw [md_s_row D]
              obtain ⟨f66, ef66⟩ : ∃ z9, z9 = va_up f1 16 (upd (f1 16) (z4_9).toInt.toNat (f1 0 (m63).toInt.toNat)) := ⟨_, rfl⟩
              rw [← ef66]
              have hf66 : md_F f66 := by rw [ef66]; exact md_F_st hf1 16 _ _ (by show (0 : Int) ≤ _ ∧ _ ≤ (23 : Int); omega)
              have hw66 : f66 2 = f 2 := (show f66 2 = f1 2 by rw [ef66]; rfl).trans hw1
              have hr66_0 : f66 0 = f 0 := (show f66 0 = f1 0 by rw [ef66]; rfl).trans hr1_0
              have hr66_1 : f66 1 = f 1 := (show f66 1 = f1 1 by rw [ef66]; rfl).trans hr1_1
              intro m67 em_76
              try have e67 : m67.toInt = (z4_9).toInt + (1) := by rw [em_76]; exact pm_addc _ _ (1) rfl (by omega) (by omega)
              refine hC.1 5 79 _ _ rfl _ _ _ _ _ ?_
              intro m68 em_79
              try have e68 : m68.toInt = (z6_9).toInt + (1) := by rw [em_79]; exact pm_addc _ _ (1) rfl (by omega) (by omega)
              exact hC.2 [false, false, false, false, false, false, false, true, false] _ _ _ _ _ _ (ih3 m67 (z5_9 ||| ((1 : Int32) <<< ((f1 0 (m63).toInt.toNat) &&& 31))) m68 v1 f66 hv1 hf66 hw66 hr66_0 hr66_1 (by omega) (by first | exact j1_9 | (rw [em_76]; exact cnt_st j1_9 (by omega) (by assumption))) (by omega) (by omega) (by omega) (by omega) (by omega) (by omega) (by omega) (by omega))
            · skip
              have dc65 : (((z5_9 >>> ((f1 0 (m63).toInt.toNat) &&& 31)) &&& (1 : Int32))).toInt = ((1 : Int32) : Int32).toInt := congrArg Int32.toInt c65
              refine hC.1 5 79 _ _ rfl _ _ _ _ _ ?_
              intro m69 em_79
              try have e69 : m69.toInt = (z6_9).toInt + (1) := by rw [em_79]; exact pm_addc _ _ (1) rfl (by omega) (by omega)
              exact hC.2 [false, false, false, false, false, false, false, true, false] _ _ _ _ _ _ (ih3 z4_9 z5_9 m69 v1 f1 hv1 hf1 hw1 hr1_0 hr1_1 (by omega) (by first | exact j1_9 | (rw [em_76]; exact cnt_st j1_9 (by omega) (by assumption))) (by omega) (by omega) (by omega) (by omega) (by omega) (by omega) (by omega) (by omega))
          · skip
            have dc62 : (x3).toInt = (0 : Int32).toInt := congrArg Int32.toInt c62
            intro m70 em_33
            try have e70 : m70.toInt = (x1).toInt + (z6_9).toInt := by rw [em_33]; exact pm_add _ _ (by omega) (by omega)
            refine hC.1 3 41 _ _ rfl _ _ _ _ _ ?_
            refine Exists.intro _ (Exists.intro _ (And.intro (Or.inl (md_a_colours D)) (And.intro (by omega) ?_)))
            have w71 : (0 : Int) ≤ (f1 0 (m70).toInt.toNat).toInt ∧ (f1 0 (m70).toInt.toNat).toInt ≤ (23 : Int) := hf1 0 _
            have k1 : (1 : Int32).toInt = 1 := rfl
            refine And.intro (fun c72 => ?_) (fun c72 => ?_)
            · skip
              have dc72 := pm_neI c72
              refine hC.1 4 58 _ _ rfl _ _ _ _ _ ?_
              have hn9 := cnt_lt (c := (f1 0 (m70).toInt.toNat)) j1_9 (by omega) (by assumption)
              refine Exists.intro _ (And.intro md_o ?_)
              refine Exists.intro _ (Exists.intro _ (And.intro (md_a_row D) (And.intro (by omega) ?_)))
              rw [md_s_row D]
              obtain ⟨f73, ef73⟩ : ∃ z9, z9 = va_up f1 16 (upd (f1 16) (z4_9).toInt.toNat (f1 0 (m70).toInt.toNat)) := ⟨_, rfl⟩
              rw [← ef73]
              have hf73 : md_F f73 := by rw [ef73]; exact md_F_st hf1 16 _ _ (by show (0 : Int) ≤ _ ∧ _ ≤ (23 : Int); omega)
              have hw73 : f73 2 = f 2 := (show f73 2 = f1 2 by rw [ef73]; rfl).trans hw1
              have hr73_0 : f73 0 = f 0 := (show f73 0 = f1 0 by rw [ef73]; rfl).trans hr1_0
              have hr73_1 : f73 1 = f 1 := (show f73 1 = f1 1 by rw [ef73]; rfl).trans hr1_1
              intro m74 em_76
              try have e74 : m74.toInt = (z4_9).toInt + (1) := by rw [em_76]; exact pm_addc _ _ (1) rfl (by omega) (by omega)
              refine hC.1 5 79 _ _ rfl _ _ _ _ _ ?_
              intro m75 em_79
              try have e75 : m75.toInt = (z6_9).toInt + (1) := by rw [em_79]; exact pm_addc _ _ (1) rfl (by omega) (by omega)
              exact hC.2 [false, false, false, false, false, false, false, true, false] _ _ _ _ _ _ (ih3 m74 (z5_9 ||| ((1 : Int32) <<< ((f1 0 (m70).toInt.toNat) &&& 31))) m75 v1 f73 hv1 hf73 hw73 hr73_0 hr73_1 (by omega) (by first | exact j1_9 | (rw [em_76]; exact cnt_st j1_9 (by omega) (by assumption))) (by omega) (by omega) (by omega) (by omega) (by omega) (by omega) (by omega) (by omega))
            · skip
              have dc72 : (((z5_9 >>> ((f1 0 (m70).toInt.toNat) &&& 31)) &&& (1 : Int32))).toInt = ((1 : Int32) : Int32).toInt := congrArg Int32.toInt c72
              refine hC.1 5 79 _ _ rfl _ _ _ _ _ ?_
              intro m76 em_79
              try have e76 : m76.toInt = (z6_9).toInt + (1) := by rw [em_79]; exact pm_addc _ _ (1) rfl (by omega) (by omega)
              exact hC.2 [false, false, false, false, false, false, false, true, false] _ _ _ _ _ _ (ih3 z4_9 z5_9 m76 v1 f1 hv1 hf1 hw1 hr1_0 hr1_1 (by omega) (by first | exact j1_9 | (rw [em_76]; exact cnt_st j1_9 (by omega) (by assumption))) (by omega) (by omega) (by omega) (by omega) (by omega) (by omega) (by omega) (by omega))
  exact lp2 (200 - (0 : Int32).toInt).toNat.succ (0 : Int32) (0 : Int32) (0 : Int32) v f hv hf rfl rfl rfl (by omega) (by exact cnt_0) (by omega) (by omega) (by omega) (by omega) (by omega) (by omega) (by omega) (by omega)

end
