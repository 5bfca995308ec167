section
variable {l : Launch} {g : pm_G} {A0 : pm_H} {h : Nat} {q : Nat → Nat}
set_option maxRecDepth 100000 in
set_option maxHeartbeats 2000000 in
theorem F_X11_solve (D : md_D h q) (v : Nat → Int32) (f : Nat → Nat → Int32) (hv : md_V v) (hf : md_F f)  : pm_Mt l g 278 3 0 0 [.ref h] (md A0 g h q v f) (md_Qw A0 g h q f (fun r v2 f2 => f2 0 = f 0 ∧ f2 1 = f 1 ∧ (v2 0).toInt = (v 0).toInt ∧ (v2 1).toInt = (v 1).toInt ∧ (v2 2).toInt = (v 2).toInt ∧ (v2 3).toInt = (v 3).toInt ∧ (v2 4).toInt = (v 4).toInt ∧ (v2 6).toInt = (v 6).toInt)) := by
  refine mt_X11_solve rfl (fun J hC => ?_)
  have hv9 := hv
  unfold md_V at hv9
  refine hC.1 0 0 _ _ rfl _ _ _ _ _ ?_
  have k0 : (0 : Int32).toInt = 0 := rfl
  have lp2 : ∀ (n : Nat) (z1_4 : Int32) (z2_4 : Int32) (v1 : Nat → Int32) (f1 : Nat → Nat → Int32), md_V v1 → md_F f1 → f1 2 = f 2 → f1 0 = f 0 → f1 1 = f 1 → (0 ≤ z2_4.toInt ∧ z2_4.toInt ≤ (v 6).toInt) → (v1 0).toInt = (v 0).toInt → (v1 1).toInt = (v 1).toInt → (v1 2).toInt = (v 2).toInt → (v1 3).toInt = (v 3).toInt → (v1 4).toInt = (v 4).toInt → (v1 6).toInt = (v 6).toInt → 200 - z2_4.toInt < (n : Int) → J 4 [some (.ref h), some (.int z1_4), some (.int z2_4), none, none, none, none] [] (md A0 g h q v1 f1) 0 0 := by
    intro n
    induction n with
    | zero =>
      intro z1_4 z2_4 v1 f1 hv1 hf1 hw1 hr1_0 hr1_1 j0_4 j1_4 j2_4 j3_4 j4_4 j5_4 j6_4 j7_4
      omega
    | succ n ih3 =>
      intro z1_4 z2_4 v1 f1 hv1 hf1 hw1 hr1_0 hr1_1 j0_4 j1_4 j2_4 j3_4 j4_4 j5_4 j6_4 j7_4
      refine hC.1 1 4 _ _ rfl _ _ _ _ _ ?_
      have hu4 := hv1
      unfold md_V at hu4
      refine Exists.intro _ (And.intro md_o ?_)
      refine And.intro (fun c5 => ?_) (fun c5 => ?_)
      · skip
        refine hC.1 13 169 _ _ rfl _ _ _ _ _ ?_
        exact ⟨rfl, fun e9 => absurd e9 (by decide), rfl, z1_4, v1, f1, rfl, rfl, hv1, hf1, hw1, hr1_0, hr1_1, by first | omega | (dsimp only; omega) | trivial⟩
      · skip
        refine Exists.intro _ (And.intro md_o ?_)
        refine Exists.intro _ (Exists.intro _ (And.intro (Or.inl (md_a_askedEdit D)) (And.intro (by omega) ?_)))
        refine Exists.intro _ (And.intro md_o ?_)
        refine Exists.intro _ (Exists.intro _ (And.intro (Or.inl (md_a_askedOne D)) (And.intro (by omega) ?_)))
        refine And.intro (Exists.intro _ md_o) (Exists.intro _ (Exists.intro _ (Exists.intro _ (Exists.intro _ (And.intro (c_X11_placeBy D v1 f1 hv1 hf1 (f1 11 (z2_4).toInt.toNat) (f1 7 (z2_4).toInt.toNat) ) (And.intro rfl (fun r9 A9 h9 => ?_)))))))
        obtain ⟨y6, rfl, rfl, by6⟩ := h9
        refine Exists.intro _ (And.intro md_o ?_)
        refine Exists.intro _ (Exists.intro _ (And.intro (Or.inl (md_a_askedEdit D)) (And.intro (by omega) ?_)))
        refine Exists.intro _ (And.intro md_o ?_)
        refine Exists.intro _ (Exists.intro _ (And.intro (Or.inl (md_a_askedOther D)) (And.intro (by omega) ?_)))
        refine And.intro (Exists.intro _ md_o) (Exists.intro _ (Exists.intro _ (Exists.intro _ (Exists.intro _ (And.intro (c_X11_placeBy D v1 f1 hv1 hf1 (f1 11 (z2_4).toInt.toNat) (f1 8 (z2_4).toInt.toNat) ) (And.intro rfl (fun r9 A9 h9 => ?_)))))))
        obtain ⟨y7, rfl, rfl, by7⟩ := h9
        refine And.intro (fun c8 => ?_) (fun c8 => ?_)
        · skip
          refine hC.1 2 60 _ _ rfl _ _ _ _ _ ?_
          refine hC.1 3 61 _ _ rfl _ _ _ _ _ ?_
          refine And.intro (fun c9 => absurd c9 (by decide)) (fun _ => ?_)
          refine hC.1 6 107 _ _ rfl _ _ _ _ _ ?_
          refine Exists.intro _ (And.intro md_o ?_)
          refine And.intro (fun _ => ?_) (fun c9 => absurd c9 (by decide))
          refine hC.1 7 127 _ _ rfl _ _ _ _ _ ?_
          have km1 : (-1 : Int32).toInt = -1 := rfl
          refine hC.1 8 128 _ _ rfl _ _ _ _ _ ?_
          refine Exists.intro _ (Exists.intro _ (And.intro (md_a_answerCount D) (And.intro (by omega) ?_)))
          rw [md_s_answerCount D]
          obtain ⟨f9, ef9⟩ : ∃ z9, z9 = va_up f1 9 (upd (f1 9) (z2_4).toInt.toNat (-1 : Int32)) := ⟨_, rfl⟩
          rw [← ef9]
          have hf9 : md_F f9 := by rw [ef9]; exact md_F_st hf1 9 _ _ (md_rng _ _ (by decide))
          have hw9 : f9 2 = f 2 := (show f9 2 = f1 2 by rw [ef9]; rfl).trans hw1
          have hr9_0 : f9 0 = f 0 := (show f9 0 = f1 0 by rw [ef9]; rfl).trans hr1_0
          have hr9_1 : f9 1 = f 1 := (show f9 1 = f1 1 by rw [ef9]; rfl).trans hr1_1
          refine Exists.intro _ (And.intro md_o ?_)
          refine And.intro (fun _ => ?_) (fun c9 => absurd c9 (by decide))
          refine hC.1 9 148 _ _ rfl _ _ _ _ _ ?_
          refine hC.1 10 149 _ _ rfl _ _ _ _ _ ?_
          refine Exists.intro _ (Exists.intro _ (And.intro (md_a_answerWeight D) (And.intro (by omega) ?_)))
          rw [md_s_answerWeight D]
          obtain ⟨f10, ef10⟩ : ∃ z9, z9 = va_up f9 10 (upd (f9 10) (z2_4).toInt.toNat (-1 : Int32)) := ⟨_, rfl⟩
          rw [← ef10]
          have hf10 : md_F f10 := by rw [ef10]; exact md_F_st hf9 10 _ _ (md_rng _ _ (by decide))
          have hw10 : f10 2 = f 2 := (show f10 2 = f9 2 by rw [ef10]; rfl).trans hw9
          have hr10_0 : f10 0 = f 0 := (show f10 0 = f9 0 by rw [ef10]; rfl).trans hr9_0
          have hr10_1 : f10 1 = f 1 := (show f10 1 = f9 1 by rw [ef10]; rfl).trans hr9_1
          refine And.intro (fun _ => ?_) (fun c9 => absurd c9 (by decide))
          refine hC.1 11 160 _ _ rfl _ _ _ _ _ ?_
          refine hC.1 12 161 _ _ rfl _ _ _ _ _ ?_
          intro m11 em_161
          try have e11 : m11.toInt = (z1_4).toInt + (0) := by rw [em_161]; exact pm_addc _ _ (0) rfl (by omega) (by omega)
          have k1 : (1 : Int32).toInt = 1 := rfl
          intro m12 em_163
          try have e12 : m12.toInt = (z2_4).toInt + (1) := by rw [em_163]; exact pm_addc _ _ (1) rfl (by omega) (by omega)
          exact hC.2 [false, false, false, true, true, true, true] _ _ _ _ _ _ (ih3 m11 m12 v1 f10 hv1 hf10 hw10 hr10_0 hr10_1 (by omega) (by omega) (by omega) (by omega) (by omega) (by omega) (by omega) (by omega))
        · skip
          refine And.intro (fun c13 => ?_) (fun c13 => ?_)
          · skip
            refine hC.1 2 60 _ _ rfl _ _ _ _ _ ?_
            refine hC.1 3 61 _ _ rfl _ _ _ _ _ ?_
            refine And.intro (fun c9 => absurd c9 (by decide)) (fun _ => ?_)
            refine hC.1 6 107 _ _ rfl _ _ _ _ _ ?_
            refine Exists.intro _ (And.intro md_o ?_)
            refine And.intro (fun _ => ?_) (fun c9 => absurd c9 (by decide))
            refine hC.1 7 127 _ _ rfl _ _ _ _ _ ?_
            have km1 : (-1 : Int32).toInt = -1 := rfl
            refine hC.1 8 128 _ _ rfl _ _ _ _ _ ?_
            refine Exists.intro _ (Exists.intro _ (And.intro (md_a_answerCount D) (And.intro (by omega) ?_)))
            rw [md_s_answerCount D]
            obtain ⟨f14, ef14⟩ : ∃ z9, z9 = va_up f1 9 (upd (f1 9) (z2_4).toInt.toNat (-1 : Int32)) := ⟨_, rfl⟩
            rw [← ef14]
            have hf14 : md_F f14 := by rw [ef14]; exact md_F_st hf1 9 _ _ (md_rng _ _ (by decide))
            have hw14 : f14 2 = f 2 := (show f14 2 = f1 2 by rw [ef14]; rfl).trans hw1
            have hr14_0 : f14 0 = f 0 := (show f14 0 = f1 0 by rw [ef14]; rfl).trans hr1_0
            have hr14_1 : f14 1 = f 1 := (show f14 1 = f1 1 by rw [ef14]; rfl).trans hr1_1
            refine Exists.intro _ (And.intro md_o ?_)
            refine And.intro (fun _ => ?_) (fun c9 => absurd c9 (by decide))
            refine hC.1 9 148 _ _ rfl _ _ _ _ _ ?_
            refine hC.1 10 149 _ _ rfl _ _ _ _ _ ?_
            refine Exists.intro _ (Exists.intro _ (And.intro (md_a_answerWeight D) (And.intro (by omega) ?_)))
            rw [md_s_answerWeight D]
            obtain ⟨f15, ef15⟩ : ∃ z9, z9 = va_up f14 10 (upd (f14 10) (z2_4).toInt.toNat (-1 : Int32)) := ⟨_, rfl⟩
            rw [← ef15]
            have hf15 : md_F f15 := by rw [ef15]; exact md_F_st hf14 10 _ _ (md_rng _ _ (by decide))
            have hw15 : f15 2 = f 2 := (show f15 2 = f14 2 by rw [ef15]; rfl).trans hw14
            have hr15_0 : f15 0 = f 0 := (show f15 0 = f14 0 by rw [ef15]; rfl).trans hr14_0
            have hr15_1 : f15 1 = f 1 := (show f15 1 = f14 1 by rw [ef15]; rfl).trans hr14_1
            refine And.intro (fun _ => ?_) (fun c9 => absurd c9 (by decide))
            refine hC.1 11 160 _ _ rfl _ _ _ _ _ ?_
            refine hC.1 12 161 _ _ rfl _ _ _ _ _ ?_
            intro m16 em_161
            try have e16 : m16.toInt = (z1_4).toInt + (0) := by rw [em_161]; exact pm_addc _ _ (0) rfl (by omega) (by omega)
            have k1 : (1 : Int32).toInt = 1 := rfl
            intro m17 em_163
            try have e17 : m17.toInt = (z2_4).toInt + (1) := by rw [em_163]; exact pm_addc _ _ (1) rfl (by omega) (by omega)
            exact hC.2 [false, false, false, true, true, true, true] _ _ _ _ _ _ (ih3 m16 m17 v1 f15 hv1 hf15 hw15 hr15_0 hr15_1 (by omega) (by omega) (by omega) (by omega) (by omega) (by omega) (by omega) (by omega))
          · skip
            have k1 : (1 : Int32).toInt = 1 := rfl
            refine hC.1 3 61 _ _ rfl _ _ _ _ _ ?_
            refine And.intro (fun _ => ?_) (fun c9 => absurd c9 (by decide))
            refine hC.1 4 72 _ _ rfl _ _ _ _ _ ?_
            refine And.intro (fun c18 => ?_) (fun c18 => ?_)
            · skip
              refine hC.1 5 94 _ _ rfl _ _ _ _ _ ?_
              refine Exists.intro _ (And.intro md_o ?_)
              refine Exists.intro _ (Exists.intro _ (And.intro (Or.inl (md_a_askedEdit D)) (And.intro (by omega) ?_)))
              refine And.intro (Exists.intro _ md_o) (Exists.intro _ (Exists.intro _ (Exists.intro _ (Exists.intro _ (And.intro (c_X11_setBy D v1 f1 hv1 hf1 (f1 11 (z2_4).toInt.toNat) y7 y6 (by omega) (by omega) (by omega)) (And.intro rfl (fun r9 A9 h9 => ?_)))))))
              obtain ⟨y19, rfl, rfl, by19⟩ := h9
              refine hC.1 6 107 _ _ rfl _ _ _ _ _ ?_
              refine Exists.intro _ (And.intro md_o ?_)
              refine And.intro (fun c9 => absurd c9 (by decide)) (fun _ => ?_)
              refine Exists.intro _ (Exists.intro _ (Exists.intro _ (Exists.intro _ (And.intro (c_X11_bits (md A0 g h q v1 f1) y19 ) (And.intro rfl (fun r9 A9 h9 => ?_))))))
              obtain ⟨y20, rfl, rfl, by20⟩ := h9
              refine hC.1 8 128 _ _ rfl _ _ _ _ _ ?_
              refine Exists.intro _ (Exists.intro _ (And.intro (md_a_answerCount D) (And.intro (by omega) ?_)))
              rw [md_s_answerCount D]
              obtain ⟨f21, ef21⟩ : ∃ z9, z9 = va_up f1 9 (upd (f1 9) (z2_4).toInt.toNat y20) := ⟨_, rfl⟩
              rw [← ef21]
              have hf21 : md_F f21 := by rw [ef21]; exact md_F_st hf1 9 _ _ (md_rng _ _ (by decide))
              have hw21 : f21 2 = f 2 := (show f21 2 = f1 2 by rw [ef21]; rfl).trans hw1
              have hr21_0 : f21 0 = f 0 := (show f21 0 = f1 0 by rw [ef21]; rfl).trans hr1_0
              have hr21_1 : f21 1 = f 1 := (show f21 1 = f1 1 by rw [ef21]; rfl).trans hr1_1
              refine Exists.intro _ (And.intro md_o ?_)
              refine And.intro (fun c9 => absurd c9 (by decide)) (fun _ => ?_)
              refine And.intro (Exists.intro _ md_o) (Exists.intro _ (Exists.intro _ (Exists.intro _ (Exists.intro _ (And.intro (c_X11_weightOf D v1 f21 hv1 hf21 y19 ) (And.intro rfl (fun r9 A9 h9 => ?_)))))))
              obtain ⟨y22, rfl, rfl, by22⟩ := h9
              refine hC.1 10 149 _ _ rfl _ _ _ _ _ ?_
              refine Exists.intro _ (Exists.intro _ (And.intro (md_a_answerWeight D) (And.intro (by omega) ?_)))
              rw [md_s_answerWeight D]
              obtain ⟨f23, ef23⟩ : ∃ z9, z9 = va_up f21 10 (upd (f21 10) (z2_4).toInt.toNat y22) := ⟨_, rfl⟩
              rw [← ef23]
              have hf23 : md_F f23 := by rw [ef23]; exact md_F_st hf21 10 _ _ (md_rng _ _ (by decide))
              have hw23 : f23 2 = f 2 := (show f23 2 = f21 2 by rw [ef23]; rfl).trans hw21
              have hr23_0 : f23 0 = f 0 := (show f23 0 = f21 0 by rw [ef23]; rfl).trans hr21_0
              have hr23_1 : f23 1 = f 1 := (show f23 1 = f21 1 by rw [ef23]; rfl).trans hr21_1
              refine And.intro (fun c9 => absurd c9 (by decide)) (fun _ => ?_)
              refine hC.1 12 161 _ _ rfl _ _ _ _ _ ?_
              intro m24 em_161
              try have e24 : m24.toInt = (z1_4).toInt + (1) := by rw [em_161]; exact pm_addc _ _ (1) rfl (by omega) (by omega)
              intro m25 em_163
              try have e25 : m25.toInt = (z2_4).toInt + (1) := by rw [em_163]; exact pm_addc _ _ (1) rfl (by omega) (by omega)
              exact hC.2 [false, false, false, true, true, true, true] _ _ _ _ _ _ (ih3 m24 m25 v1 f23 hv1 hf23 hw23 hr23_0 hr23_1 (by omega) (by omega) (by omega) (by omega) (by omega) (by omega) (by omega) (by omega))
            · skip
              refine Exists.intro _ (And.intro md_o ?_)
              refine Exists.intro _ (Exists.intro _ (And.intro (Or.inl (md_a_askedEdit D)) (And.intro (by omega) ?_)))
              refine And.intro (Exists.intro _ md_o) (Exists.intro _ (Exists.intro _ (Exists.intro _ (Exists.intro _ (And.intro (c_X11_setBy D v1 f1 hv1 hf1 (f1 11 (z2_4).toInt.toNat) y6 y7 (by omega) (by omega) (by omega)) (And.intro rfl (fun r9 A9 h9 => ?_)))))))
              obtain ⟨y26, rfl, rfl, by26⟩ := h9
              refine hC.1 6 107 _ _ rfl _ _ _ _ _ ?_
              refine Exists.intro _ (And.intro md_o ?_)
              refine And.intro (fun c9 => absurd c9 (by decide)) (fun _ => ?_)
              refine Exists.intro _ (Exists.intro _ (Exists.intro _ (Exists.intro _ (And.intro (c_X11_bits (md A0 g h q v1 f1) y26 ) (And.intro rfl (fun r9 A9 h9 => ?_))))))
              obtain ⟨y27, rfl, rfl, by27⟩ := h9
              refine hC.1 8 128 _ _ rfl _ _ _ _ _ ?_
              refine Exists.intro _ (Exists.intro _ (And.intro (md_a_answerCount D) (And.intro (by omega) ?_)))
              rw [md_s_answerCount D]
              obtain ⟨f28, ef28⟩ : ∃ z9, z9 = va_up f1 9 (upd (f1 9) (z2_4).toInt.toNat y27) := ⟨_, rfl⟩
              rw [← ef28]
              have hf28 : md_F f28 := by rw [ef28]; exact md_F_st hf1 9 _ _ (md_rng _ _ (by decide))
              have hw28 : f28 2 = f 2 := (show f28 2 = f1 2 by rw [ef28]; rfl).trans hw1
              have hr28_0 : f28 0 = f 0 := (show f28 0 = f1 0 by rw [ef28]; rfl).trans hr1_0
              have hr28_1 : f28 1 = f 1 := (show f28 1 = f1 1 by rw [ef28]; rfl).trans hr1_1
              refine Exists.intro _ (And.intro md_o ?_)
              refine And.intro (fun c9 => absurd c9 (by decide)) (fun _ => ?_)
              refine And.intro (Exists.intro _ md_o) (Exists.intro _ (Exists.intro _ (Exists.intro _ (Exists.intro _ (And.intro (c_X11_weightOf D v1 f28 hv1 hf28 y26 ) (And.intro rfl (fun r9 A9 h9 => ?_)))))))
              obtain ⟨y29, rfl, rfl, by29⟩ := h9
              refine hC.1 10 149 _ _ rfl _ _ _ _ _ ?_
              refine Exists.intro _ (Exists.intro _ (And.intro (md_a_answerWeight D) (And.intro (by omega) ?_)))
              rw [md_s_answerWeight D]
              obtain ⟨f30, ef30⟩ : ∃ z9, z9 = va_up f28 10 (upd (f28 10) (z2_4).toInt.toNat y29) := ⟨_, rfl⟩
              rw [← ef30]
              have hf30 : md_F f30 := by rw [ef30]; exact md_F_st hf28 10 _ _ (md_rng _ _ (by decide))
              have hw30 : f30 2 = f 2 := (show f30 2 = f28 2 by rw [ef30]; rfl).trans hw28
              have hr30_0 : f30 0 = f 0 := (show f30 0 = f28 0 by rw [ef30]; rfl).trans hr28_0
              have hr30_1 : f30 1 = f 1 := (show f30 1 = f28 1 by rw [ef30]; rfl).trans hr28_1
              refine And.intro (fun c9 => absurd c9 (by decide)) (fun _ => ?_)
              refine hC.1 12 161 _ _ rfl _ _ _ _ _ ?_
              intro m31 em_161
              try have e31 : m31.toInt = (z1_4).toInt + (1) := by rw [em_161]; exact pm_addc _ _ (1) rfl (by omega) (by omega)
              intro m32 em_163
              try have e32 : m32.toInt = (z2_4).toInt + (1) := by rw [em_163]; exact pm_addc _ _ (1) rfl (by omega) (by omega)
              exact hC.2 [false, false, false, true, true, true, true] _ _ _ _ _ _ (ih3 m31 m32 v1 f30 hv1 hf30 hw30 hr30_0 hr30_1 (by omega) (by omega) (by omega) (by omega) (by omega) (by omega) (by omega) (by omega))
  exact lp2 (200 - (0 : Int32).toInt).toNat.succ (0 : Int32) (0 : Int32) v f hv hf rfl rfl rfl (by omega) (by omega) (by omega) (by omega) (by omega) (by omega) (by omega) (by omega)

end
