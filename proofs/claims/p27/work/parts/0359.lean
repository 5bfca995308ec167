section
variable {l : Launch} {g : pm_G} {A0 : pm_H} {h : Nat} {q : Nat → Nat}
set_option maxRecDepth 100000 in
set_option maxHeartbeats 2000000 in
theorem F_X11_layPart (D : md_D h q) (v : Nat → Int32) (f : Nat → Nat → Int32) (hv : md_V v) (hf : md_F f) (x1 : Int32) (x2 : Int32) (x3 : Int32) (p0 : 1 ≤ x1.toInt ∧ x1.toInt ≤ 8) (p1 : 0 ≤ x2.toInt ∧ x2.toInt ≤ (v 0).toInt) (p2 : x3.toInt = 161) : pm_Mt l g 274 1 0 0 [.ref h, .int x1, .int x2, .int x3] (md A0 g h q v f) (md_Qv A0 g h q f (fun v2 f2 => f2 0 = f 0 ∧ f2 1 = f 1 ∧ (v2 0).toInt = (v 0).toInt ∧ (v2 1).toInt = (v 1).toInt ∧ (v2 2).toInt = (v 2).toInt ∧ (v2 3).toInt = (v 3).toInt ∧ (v2 4).toInt = (v 4).toInt ∧ (v2 6).toInt = (v 6).toInt)) := by
  refine mt_X11_layPart rfl (fun J hC => ?_)
  have hv9 := hv
  unfold md_V at hv9
  have rg_x1 := pm_rng x1
  have rg_x2 := pm_rng x2
  have rg_x3 := pm_rng x3
  refine hC.1 0 0 _ _ rfl _ _ _ _ _ ?_
  have k0 : (0 : Int32).toInt = 0 := rfl
  have lp2 : ∀ (n : Nat) (z4_6 : Int32) (z5_6 : Int32) (v1 : Nat → Int32) (f1 : Nat → Nat → Int32), md_V v1 → md_F f1 → f1 2 = f 2 → f1 0 = f 0 → f1 1 = f 1 → (0 ≤ z5_6.toInt ∧ z5_6.toInt ≤ (v 0).toInt) → (v1 0).toInt = (v 0).toInt → (v1 1).toInt = (v 1).toInt → (v1 2).toInt = (v 2).toInt → (v1 3).toInt = (v 3).toInt → (v1 4).toInt = (v 4).toInt → (v1 6).toInt = (v 6).toInt → 200 - z5_6.toInt < (n : Int) → J 6 [some (.ref h), some (.int x1), some (.int x2), some (.int x3), some (.int z4_6), some (.int z5_6), none] [] (md A0 g h q v1 f1) 0 0 := by
    intro n
    induction n with
    | zero =>
      intro z4_6 z5_6 v1 f1 hv1 hf1 hw1 hr1_0 hr1_1 j0_6 j1_6 j2_6 j3_6 j4_6 j5_6 j6_6 j7_6
      omega
    | succ n ih3 =>
      intro z4_6 z5_6 v1 f1 hv1 hf1 hw1 hr1_0 hr1_1 j0_6 j1_6 j2_6 j3_6 j4_6 j5_6 j6_6 j7_6
      refine hC.1 1 6 _ _ rfl _ _ _ _ _ ?_
      have hu4 := hv1
      unfold md_V at hu4
      refine Exists.intro _ (And.intro md_o ?_)
      refine And.intro (fun c5 => ?_) (fun c5 => ?_)
      · skip
        refine hC.1 4 105 _ _ rfl _ _ _ _ _ ?_
        exact ⟨rfl, rfl, v1, f1, rfl, rfl, hv1, hf1, hw1, hr1_0, hr1_1, by first | omega | (dsimp only; omega) | trivial⟩
      · skip
        have k1 : (1 : Int32).toInt = 1 := rfl
        refine Exists.intro _ (And.intro md_o ?_)
        refine Exists.intro _ (Exists.intro _ (And.intro (Or.inl (md_a_colours D)) (And.intro (by omega) ?_)))
        have w6 : (0 : Int) ≤ (f1 0 (z5_6).toInt.toNat).toInt ∧ (f1 0 (z5_6).toInt.toNat).toInt ≤ (23 : Int) := hf1 0 _
        refine Exists.intro _ (Exists.intro _ (Exists.intro _ (Exists.intro _ (And.intro (c_X11_bits (md A0 g h q v1 f1) (z4_6 ||| ((1 : Int32) <<< ((f1 0 (z5_6).toInt.toNat) &&& 31))) ) (And.intro rfl (fun r9 A9 h9 => ?_))))))
        obtain ⟨y7, rfl, rfl, by7⟩ := h9
        refine Exists.intro _ (And.intro md_o ?_)
        intro m8 em_41
        try have e8 : m8.toInt = (x1).toInt - (1) := by rw [em_41]; exact pm_subc _ _ (1) rfl (by omega) (by omega)
        intro m9 em_42
        try have e9 : m9.toInt = (161) * (m8).toInt := by rw [em_42]; exact pm_mulk _ _ (161) (by omega) (by omega) (by omega)
        intro m10 em_45
        try have e10 : m10.toInt = (m9).toInt + (z5_6).toInt := by rw [em_45]; exact pm_add _ _ (by omega) (by omega)
        intro m11 em_47
        try have e11 : m11.toInt = (m10).toInt + (1) := by rw [em_47]; exact pm_addc _ _ (1) rfl (by omega) (by omega)
        refine Exists.intro _ (Exists.intro _ (And.intro (Or.inl (md_a_worth D)) (And.intro (by omega) ?_)))
        intro m12 em_49
        try have e12 : m12.toInt = (y7).toInt + ((f1 18 (m11).toInt.toNat)).toInt := by rw [em_49]; exact pm_add _ _ (by omega) (by omega)
        refine Exists.intro _ (And.intro md_o ?_)
        intro m13 em_60
        try have e13 : m13.toInt = (161) * (x1).toInt := by rw [em_60]; exact pm_mulk _ _ (161) (by omega) (by omega) (by omega)
        intro m14 em_62
        try have e14 : m14.toInt = (m13).toInt + (x2).toInt := by rw [em_62]; exact pm_add _ _ (by omega) (by omega)
        refine Exists.intro _ (Exists.intro _ (And.intro (Or.inl (md_a_worth D)) (And.intro (by omega) ?_)))
        refine And.intro (fun c15 => ?_) (fun c15 => ?_)
        · skip
          refine hC.1 3 99 _ _ rfl _ _ _ _ _ ?_
          intro m16 em_99
          try have e16 : m16.toInt = (z5_6).toInt + (1) := by rw [em_99]; exact pm_addc _ _ (1) rfl (by omega) (by omega)
          exact hC.2 [false, false, false, false, false, false, true] _ _ _ _ _ _ (ih3 (z4_6 ||| ((1 : Int32) <<< ((f1 0 (z5_6).toInt.toNat) &&& 31))) m16 v1 f1 hv1 hf1 hw1 hr1_0 hr1_1 (by omega) (by omega) (by omega) (by omega) (by omega) (by omega) (by omega) (by omega))
        · skip
          refine And.intro (fun c17 => ?_) (fun c17 => ?_)
          · skip
            refine hC.1 2 75 _ _ rfl _ _ _ _ _ ?_
            refine Exists.intro _ (And.intro md_o ?_)
            intro m18 em_81
            try have e18 : m18.toInt = (161) * (x1).toInt := by rw [em_81]; exact pm_mulk _ _ (161) (by omega) (by omega) (by omega)
            intro m19 em_83
            try have e19 : m19.toInt = (m18).toInt + (x2).toInt := by rw [em_83]; exact pm_add _ _ (by omega) (by omega)
            refine Exists.intro _ (Exists.intro _ (And.intro (md_a_worth D) (And.intro (by omega) ?_)))
            rw [md_s_worth D]
            obtain ⟨f20, ef20⟩ : ∃ z9, z9 = va_up f1 18 (upd (f1 18) (m19).toInt.toNat m12) := ⟨_, rfl⟩
            rw [← ef20]
            have hf20 : md_F f20 := by rw [ef20]; exact md_F_st hf1 18 _ _ (md_rng _ _ (by decide))
            have hw20 : f20 2 = f 2 := (show f20 2 = f1 2 by rw [ef20]; rfl).trans hw1
            have hr20_0 : f20 0 = f 0 := (show f20 0 = f1 0 by rw [ef20]; rfl).trans hr1_0
            have hr20_1 : f20 1 = f 1 := (show f20 1 = f1 1 by rw [ef20]; rfl).trans hr1_1
            refine Exists.intro _ (And.intro md_o ?_)
            intro m21 em_93
            try have e21 : m21.toInt = (161) * (x1).toInt := by rw [em_93]; exact pm_mulk _ _ (161) (by omega) (by omega) (by omega)
            intro m22 em_95
            try have e22 : m22.toInt = (m21).toInt + (x2).toInt := by rw [em_95]; exact pm_add _ _ (by omega) (by omega)
            refine Exists.intro _ (Exists.intro _ (And.intro (md_a_ends0 D) (And.intro (by omega) ?_)))
            rw [md_s_ends0 D]
            obtain ⟨f23, ef23⟩ : ∃ z9, z9 = va_up f20 19 (upd (f20 19) (m22).toInt.toNat z5_6) := ⟨_, rfl⟩
            rw [← ef23]
            have hf23 : md_F f23 := by rw [ef23]; exact md_F_st hf20 19 _ _ (by show (0 : Int) ≤ _ ∧ _ ≤ (159 : Int); omega)
            have hw23 : f23 2 = f 2 := (show f23 2 = f20 2 by rw [ef23]; rfl).trans hw20
            have hr23_0 : f23 0 = f 0 := (show f23 0 = f20 0 by rw [ef23]; rfl).trans hr20_0
            have hr23_1 : f23 1 = f 1 := (show f23 1 = f20 1 by rw [ef23]; rfl).trans hr20_1
            refine hC.1 3 99 _ _ rfl _ _ _ _ _ ?_
            intro m24 em_99
            try have e24 : m24.toInt = (z5_6).toInt + (1) := by rw [em_99]; exact pm_addc _ _ (1) rfl (by omega) (by omega)
            exact hC.2 [false, false, false, false, false, false, true] _ _ _ _ _ _ (ih3 (z4_6 ||| ((1 : Int32) <<< ((f1 0 (z5_6).toInt.toNat) &&& 31))) m24 v1 f23 hv1 hf23 hw23 hr23_0 hr23_1 (by omega) (by omega) (by omega) (by omega) (by omega) (by omega) (by omega) (by omega))
          · skip
            refine hC.1 3 99 _ _ rfl _ _ _ _ _ ?_
            intro m25 em_99
            try have e25 : m25.toInt = (z5_6).toInt + (1) := by rw [em_99]; exact pm_addc _ _ (1) rfl (by omega) (by omega)
            exact hC.2 [false, false, false, false, false, false, true] _ _ _ _ _ _ (ih3 (z4_6 ||| ((1 : Int32) <<< ((f1 0 (z5_6).toInt.toNat) &&& 31))) m25 v1 f1 hv1 hf1 hw1 hr1_0 hr1_1 (by omega) (by omega) (by omega) (by omega) (by omega) (by omega) (by omega) (by omega))
  exact lp2 (200 - x2.toInt).toNat.succ (0 : Int32) x2 v f hv hf rfl rfl rfl (by omega) (by omega) (by omega) (by omega) (by omega) (by omega) (by omega) (by omega)

end
