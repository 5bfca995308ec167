section
variable {l : Launch} {g : pm_G} {A0 : pm_H} {h : Nat} {q : Nat → Nat}
set_option maxRecDepth 100000 in
set_option maxHeartbeats 2000000 in
theorem F_X11_layBest (D : md_D h q) (v : Nat → Int32) (f : Nat → Nat → Int32) (hv : md_V v) (hf : md_F f) (x1 : Int32) (p0 : 0 ≤ x1.toInt ∧ x1.toInt ≤ 8) : pm_Mt l g 273 2 0 0 [.ref h, .int x1] (md A0 g h q v f) (md_Qv A0 g h q f (fun v2 f2 => f2 0 = f 0 ∧ f2 1 = f 1 ∧ (v2 0).toInt = (v 0).toInt ∧ (v2 1).toInt = (v 1).toInt ∧ (v2 2).toInt = (v 2).toInt ∧ (v2 3).toInt = (v 3).toInt ∧ (v2 4).toInt = (v 4).toInt ∧ (v2 6).toInt = (v 6).toInt)) := by
  refine mt_X11_layBest rfl (fun J hC => ?_)
  have hv9 := hv
  unfold md_V at hv9
  have rg_x1 := pm_rng x1
  refine hC.1 0 0 _ _ rfl _ _ _ _ _ ?_
  have k161 : (161 : Int32).toInt = 161 := rfl
  have k0 : (0 : Int32).toInt = 0 := rfl
  have lp2 : ∀ (n : Nat) (z3_6 : Int32) (v1 : Nat → Int32) (f1 : Nat → Nat → Int32), md_V v1 → md_F f1 → f1 2 = f 2 → f1 0 = f 0 → f1 1 = f 1 → (0 ≤ z3_6.toInt ∧ z3_6.toInt ≤ 9) → (v1 0).toInt = (v 0).toInt → (v1 1).toInt = (v 1).toInt → (v1 2).toInt = (v 2).toInt → (v1 3).toInt = (v 3).toInt → (v1 4).toInt = (v 4).toInt → (v1 6).toInt = (v 6).toInt → 200 - z3_6.toInt < (n : Int) → J 6 [some (.ref h), some (.int x1), some (.int (161 : Int32)), some (.int z3_6), none] [] (md A0 g h q v1 f1) 0 0 := by
    intro n
    induction n with
    | zero =>
      intro z3_6 v1 f1 hv1 hf1 hw1 hr1_0 hr1_1 j0_6 j1_6 j2_6 j3_6 j4_6 j5_6 j6_6 j7_6
      omega
    | succ n ih3 =>
      intro z3_6 v1 f1 hv1 hf1 hw1 hr1_0 hr1_1 j0_6 j1_6 j2_6 j3_6 j4_6 j5_6 j6_6 j7_6
      refine hC.1 1 6 _ _ rfl _ _ _ _ _ ?_
      have hu4 := hv1
      unfold md_V at hu4
      refine And.intro (fun c5 => ?_) (fun c5 => ?_)
      · skip
        refine hC.1 7 85 _ _ rfl _ _ _ _ _ ?_
        exact ⟨rfl, rfl, v1, f1, rfl, rfl, hv1, hf1, hw1, hr1_0, hr1_1, by first | omega | (dsimp only; omega) | trivial⟩
      · skip
        refine Exists.intro _ (And.intro md_o ?_)
        have lp7 : ∀ (n : Nat) (z4_17 : Int32) (v6 : Nat → Int32) (f6 : Nat → Nat → Int32), md_V v6 → md_F f6 → f6 2 = f 2 → f6 0 = f 0 → f6 1 = f 1 → (-1 ≤ z4_17.toInt ∧ z4_17.toInt ≤ (v 0).toInt) → (v6 0).toInt = (v 0).toInt → (v6 1).toInt = (v 1).toInt → (v6 2).toInt = (v 2).toInt → (v6 3).toInt = (v 3).toInt → (v6 4).toInt = (v 4).toInt → (v6 6).toInt = (v 6).toInt → z4_17.toInt + 1 < (n : Int) → J 17 [some (.ref h), some (.int x1), some (.int (161 : Int32)), some (.int z3_6), some (.int z4_17)] [] (md A0 g h q v6 f6) 0 0 := by
          intro n
          induction n with
          | zero =>
            intro z4_17 v6 f6 hv6 hf6 hw6 hr6_0 hr6_1 j0_17 j1_17 j2_17 j3_17 j4_17 j5_17 j6_17 j7_17
            omega
          | succ n ih8 =>
            intro z4_17 v6 f6 hv6 hf6 hw6 hr6_0 hr6_1 j0_17 j1_17 j2_17 j3_17 j4_17 j5_17 j6_17 j7_17
            refine hC.1 2 17 _ _ rfl _ _ _ _ _ ?_
            have hu9 := hv6
            unfold md_V at hu9
            refine And.intro (fun c10 => ?_) (fun c10 => ?_)
            · skip
              refine hC.1 6 79 _ _ rfl _ _ _ _ _ ?_
              have k1 : (1 : Int32).toInt = 1 := rfl
              intro m11 em_79
              try have e11 : m11.toInt = (z3_6).toInt + (1) := by rw [em_79]; exact pm_addc _ _ (1) rfl (by omega) (by omega)
              exact hC.2 [false, false, false, false, true] _ _ _ _ _ _ (ih3 m11 v6 f6 hv6 hf6 hw6 hr6_0 hr6_1 (by omega) (by omega) (by omega) (by omega) (by omega) (by omega) (by omega) (by omega))
            · skip
              refine Exists.intro _ (And.intro md_o ?_)
              intro m12 em_28
              try have e12 : m12.toInt = (161) * (z3_6).toInt := by rw [em_28]; exact pm_mulk _ _ (161) rfl (by omega) (by omega)
              intro m13 em_31
              try have e13 : m13.toInt = (m12).toInt + (z4_17).toInt := by rw [em_31]; exact pm_add _ _ (by omega) (by omega)
              refine And.intro (fun c14 => ?_) (fun c14 => ?_)
              · skip
                have dc14 := pm_neI c14
                refine hC.1 3 49 _ _ rfl _ _ _ _ _ ?_
                have km268435456 : (-268435456 : Int32).toInt = -268435456 := rfl
                refine hC.1 4 51 _ _ rfl _ _ _ _ _ ?_
                refine Exists.intro _ (Exists.intro _ (And.intro (md_a_worth D) (And.intro (by omega) ?_)))
                rw [md_s_worth D]
                obtain ⟨f15, ef15⟩ : ∃ z9, z9 = va_up f6 18 (upd (f6 18) (m13).toInt.toNat (-268435456 : Int32)) := ⟨_, rfl⟩
                rw [← ef15]
                have hf15 : md_F f15 := by rw [ef15]; exact md_F_st hf6 18 _ _ (md_rng _ _ (by decide))
                have hw15 : f15 2 = f 2 := (show f15 2 = f6 2 by rw [ef15]; rfl).trans hw6
                have hr15_0 : f15 0 = f 0 := (show f15 0 = f6 0 by rw [ef15]; rfl).trans hr6_0
                have hr15_1 : f15 1 = f 1 := (show f15 1 = f6 1 by rw [ef15]; rfl).trans hr6_1
                refine And.intro (fun c16 => ?_) (fun c16 => ?_)
                · skip
                  refine hC.1 5 73 _ _ rfl _ _ _ _ _ ?_
                  have km1 : (-1 : Int32).toInt = -1 := rfl
                  intro m17 em_73
                  try have e17 : m17.toInt = (z4_17).toInt + (-1) := by rw [em_73]; exact pm_addc _ _ (-1) rfl (by omega) (by omega)
                  exact ih8 m17 v6 f15 hv6 hf15 hw15 hr15_0 hr15_1 (by omega) (by omega) (by omega) (by omega) (by omega) (by omega) (by omega) (by omega)
                · skip
                  refine Exists.intro _ (And.intro md_o ?_)
                  refine And.intro (fun c18 => ?_) (fun c18 => ?_)
                  · skip
                    refine hC.1 5 73 _ _ rfl _ _ _ _ _ ?_
                    have km1 : (-1 : Int32).toInt = -1 := rfl
                    intro m19 em_73
                    try have e19 : m19.toInt = (z4_17).toInt + (-1) := by rw [em_73]; exact pm_addc _ _ (-1) rfl (by omega) (by omega)
                    exact ih8 m19 v6 f15 hv6 hf15 hw15 hr15_0 hr15_1 (by omega) (by omega) (by omega) (by omega) (by omega) (by omega) (by omega) (by omega)
                  · skip
                    refine And.intro (Exists.intro _ md_o) (Exists.intro _ (Exists.intro _ (Exists.intro _ (Exists.intro _ (And.intro (F_X11_layPart D v6 f15 hv6 hf15 z3_6 z4_17 (161 : Int32) (by omega) (by omega) (by omega)) (And.intro rfl (fun r9 A9 h9 => ?_)))))))
                    obtain ⟨v21, f21, rfl, rfl, hv21, hf21, hx21, hg21_0, hg21_1, by20⟩ := h9
                    have hw21 : f21 2 = f 2 := hx21.trans hw15
                    have hr21_0 : f21 0 = f 0 := hg21_0.trans hr15_0
                    have hr21_1 : f21 1 = f 1 := hg21_1.trans hr15_1
                    have hu22 := hv21
                    unfold md_V at hu22
                    refine hC.1 5 73 _ _ rfl _ _ _ _ _ ?_
                    have km1 : (-1 : Int32).toInt = -1 := rfl
                    intro m23 em_73
                    try have e23 : m23.toInt = (z4_17).toInt + (-1) := by rw [em_73]; exact pm_addc _ _ (-1) rfl (by omega) (by omega)
                    exact ih8 m23 v21 f21 hv21 hf21 hw21 hr21_0 hr21_1 (by omega) (by omega) (by omega) (by omega) (by omega) (by omega) (by omega) (by omega)
              · skip
                have dc14 : (z3_6).toInt = (0 : Int32).toInt := congrArg Int32.toInt c14
                refine Exists.intro _ (And.intro md_o ?_)
                refine And.intro (fun c24 => ?_) (fun c24 => ?_)
                · skip
                  have dc24 := pm_neI c24
                  refine hC.1 3 49 _ _ rfl _ _ _ _ _ ?_
                  have km268435456 : (-268435456 : Int32).toInt = -268435456 := rfl
                  refine hC.1 4 51 _ _ rfl _ _ _ _ _ ?_
                  refine Exists.intro _ (Exists.intro _ (And.intro (md_a_worth D) (And.intro (by omega) ?_)))
                  rw [md_s_worth D]
                  obtain ⟨f25, ef25⟩ : ∃ z9, z9 = va_up f6 18 (upd (f6 18) (m13).toInt.toNat (-268435456 : Int32)) := ⟨_, rfl⟩
                  rw [← ef25]
                  have hf25 : md_F f25 := by rw [ef25]; exact md_F_st hf6 18 _ _ (md_rng _ _ (by decide))
                  have hw25 : f25 2 = f 2 := (show f25 2 = f6 2 by rw [ef25]; rfl).trans hw6
                  have hr25_0 : f25 0 = f 0 := (show f25 0 = f6 0 by rw [ef25]; rfl).trans hr6_0
                  have hr25_1 : f25 1 = f 1 := (show f25 1 = f6 1 by rw [ef25]; rfl).trans hr6_1
                  refine And.intro (fun c26 => ?_) (fun c26 => ?_)
                  · skip
                    refine hC.1 5 73 _ _ rfl _ _ _ _ _ ?_
                    have km1 : (-1 : Int32).toInt = -1 := rfl
                    intro m27 em_73
                    try have e27 : m27.toInt = (z4_17).toInt + (-1) := by rw [em_73]; exact pm_addc _ _ (-1) rfl (by omega) (by omega)
                    exact ih8 m27 v6 f25 hv6 hf25 hw25 hr25_0 hr25_1 (by omega) (by omega) (by omega) (by omega) (by omega) (by omega) (by omega) (by omega)
                  · skip
                    refine Exists.intro _ (And.intro md_o ?_)
                    refine And.intro (fun c28 => ?_) (fun c28 => ?_)
                    · skip
                      refine hC.1 5 73 _ _ rfl _ _ _ _ _ ?_
                      have km1 : (-1 : Int32).toInt = -1 := rfl
                      intro m29 em_73
                      try have e29 : m29.toInt = (z4_17).toInt + (-1) := by rw [em_73]; exact pm_addc _ _ (-1) rfl (by omega) (by omega)
                      exact ih8 m29 v6 f25 hv6 hf25 hw25 hr25_0 hr25_1 (by omega) (by omega) (by omega) (by omega) (by omega) (by omega) (by omega) (by omega)
                    · skip
                      refine And.intro (Exists.intro _ md_o) (Exists.intro _ (Exists.intro _ (Exists.intro _ (Exists.intro _ (And.intro (F_X11_layPart D v6 f25 hv6 hf25 z3_6 z4_17 (161 : Int32) (by omega) (by omega) (by omega)) (And.intro rfl (fun r9 A9 h9 => ?_)))))))
                      obtain ⟨v31, f31, rfl, rfl, hv31, hf31, hx31, hg31_0, hg31_1, by30⟩ := h9
                      have hw31 : f31 2 = f 2 := hx31.trans hw25
                      have hr31_0 : f31 0 = f 0 := hg31_0.trans hr25_0
                      have hr31_1 : f31 1 = f 1 := hg31_1.trans hr25_1
                      have hu32 := hv31
                      unfold md_V at hu32
                      refine hC.1 5 73 _ _ rfl _ _ _ _ _ ?_
                      have km1 : (-1 : Int32).toInt = -1 := rfl
                      intro m33 em_73
                      try have e33 : m33.toInt = (z4_17).toInt + (-1) := by rw [em_73]; exact pm_addc _ _ (-1) rfl (by omega) (by omega)
                      exact ih8 m33 v31 f31 hv31 hf31 hw31 hr31_0 hr31_1 (by omega) (by omega) (by omega) (by omega) (by omega) (by omega) (by omega) (by omega)
                · skip
                  have dc24 : (z4_17).toInt = ((v6 0) : Int32).toInt := congrArg Int32.toInt c24
                  refine hC.1 4 51 _ _ rfl _ _ _ _ _ ?_
                  refine Exists.intro _ (Exists.intro _ (And.intro (md_a_worth D) (And.intro (by omega) ?_)))
                  rw [md_s_worth D]
                  obtain ⟨f34, ef34⟩ : ∃ z9, z9 = va_up f6 18 (upd (f6 18) (m13).toInt.toNat (0 : Int32)) := ⟨_, rfl⟩
                  rw [← ef34]
                  have hf34 : md_F f34 := by rw [ef34]; exact md_F_st hf6 18 _ _ (md_rng _ _ (by decide))
                  have hw34 : f34 2 = f 2 := (show f34 2 = f6 2 by rw [ef34]; rfl).trans hw6
                  have hr34_0 : f34 0 = f 0 := (show f34 0 = f6 0 by rw [ef34]; rfl).trans hr6_0
                  have hr34_1 : f34 1 = f 1 := (show f34 1 = f6 1 by rw [ef34]; rfl).trans hr6_1
                  refine And.intro (fun c35 => ?_) (fun c35 => ?_)
                  · skip
                    refine hC.1 5 73 _ _ rfl _ _ _ _ _ ?_
                    have km1 : (-1 : Int32).toInt = -1 := rfl
                    intro m36 em_73
                    try have e36 : m36.toInt = (z4_17).toInt + (-1) := by rw [em_73]; exact pm_addc _ _ (-1) rfl (by omega) (by omega)
                    exact ih8 m36 v6 f34 hv6 hf34 hw34 hr34_0 hr34_1 (by omega) (by omega) (by omega) (by omega) (by omega) (by omega) (by omega) (by omega)
                  · skip
                    refine Exists.intro _ (And.intro md_o ?_)
                    refine And.intro (fun c37 => ?_) (fun c37 => ?_)
                    · skip
                      refine hC.1 5 73 _ _ rfl _ _ _ _ _ ?_
                      have km1 : (-1 : Int32).toInt = -1 := rfl
                      intro m38 em_73
                      try have e38 : m38.toInt = (z4_17).toInt + (-1) := by rw [em_73]; exact pm_addc _ _ (-1) rfl (by omega) (by omega)
                      exact ih8 m38 v6 f34 hv6 hf34 hw34 hr34_0 hr34_1 (by omega) (by omega) (by omega) (by omega) (by omega) (by omega) (by omega) (by omega)
                    · skip
                      refine And.intro (Exists.intro _ md_o) (Exists.intro _ (Exists.intro _ (Exists.intro _ (Exists.intro _ (And.intro (F_X11_layPart D v6 f34 hv6 hf34 z3_6 z4_17 (161 : Int32) (by omega) (by omega) (by omega)) (And.intro rfl (fun r9 A9 h9 => ?_)))))))
                      obtain ⟨v40, f40, rfl, rfl, hv40, hf40, hx40, hg40_0, hg40_1, by39⟩ := h9
                      have hw40 : f40 2 = f 2 := hx40.trans hw34
                      have hr40_0 : f40 0 = f 0 := hg40_0.trans hr34_0
                      have hr40_1 : f40 1 = f 1 := hg40_1.trans hr34_1
                      have hu41 := hv40
                      unfold md_V at hu41
                      refine hC.1 5 73 _ _ rfl _ _ _ _ _ ?_
                      have km1 : (-1 : Int32).toInt = -1 := rfl
                      intro m42 em_73
                      try have e42 : m42.toInt = (z4_17).toInt + (-1) := by rw [em_73]; exact pm_addc _ _ (-1) rfl (by omega) (by omega)
                      exact ih8 m42 v40 f40 hv40 hf40 hw40 hr40_0 hr40_1 (by omega) (by omega) (by omega) (by omega) (by omega) (by omega) (by omega) (by omega)
        exact lp7 ((v1 0).toInt + 1).toNat.succ (v1 0) v1 f1 hv1 hf1 hw1 hr1_0 hr1_1 (by omega) (by omega) (by omega) (by omega) (by omega) (by omega) (by omega) (by omega)
  exact lp2 (200 - (0 : Int32).toInt).toNat.succ (0 : Int32) v f hv hf rfl rfl rfl (by omega) (by omega) (by omega) (by omega) (by omega) (by omega) (by omega) (by omega)

end
