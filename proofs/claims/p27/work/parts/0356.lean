section
variable {l : Launch} {g : pm_G} {A0 : pm_H} {h : Nat} {q : Nat → Nat}
set_option maxRecDepth 100000 in
set_option maxHeartbeats 2000000 in
theorem F_X11_layGaps (D : md_D h q) (v : Nat → Int32) (f : Nat → Nat → Int32) (hv : md_V v) (hf : md_F f)  : pm_Mt l g 268 1 0 0 [.ref h] (md A0 g h q v f) (md_Qv A0 g h q f (fun v2 f2 => f2 0 = f 0 ∧ f2 1 = f 1 ∧ (v2 0).toInt = (v 0).toInt ∧ (v2 1).toInt = (v 1).toInt ∧ (v2 2).toInt = (v 2).toInt ∧ (v2 3).toInt = (v 3).toInt ∧ (v2 4).toInt = (v 4).toInt ∧ (v2 6).toInt = (v 6).toInt)) := by
  refine mt_X11_layGaps rfl (fun J hC => ?_)
  have hv9 := hv
  unfold md_V at hv9
  refine hC.1 0 0 _ _ rfl _ _ _ _ _ ?_
  have k0 : (0 : Int32).toInt = 0 := rfl
  have lp2 : ∀ (n : Nat) (z1_2 : Int32) (v1 : Nat → Int32) (f1 : Nat → Nat → Int32), md_V v1 → md_F f1 → f1 2 = f 2 → f1 0 = f 0 → f1 1 = f 1 → (0 ≤ z1_2.toInt ∧ z1_2.toInt ≤ (v 0).toInt) → (v1 0).toInt = (v 0).toInt → (v1 1).toInt = (v 1).toInt → (v1 2).toInt = (v 2).toInt → (v1 3).toInt = (v 3).toInt → (v1 4).toInt = (v 4).toInt → (v1 6).toInt = (v 6).toInt → 200 - z1_2.toInt < (n : Int) → J 2 [some (.ref h), some (.int z1_2)] [] (md A0 g h q v1 f1) 0 0 := by
    intro n
    induction n with
    | zero =>
      intro z1_2 v1 f1 hv1 hf1 hw1 hr1_0 hr1_1 j0_2 j1_2 j2_2 j3_2 j4_2 j5_2 j6_2 j7_2
      omega
    | succ n ih3 =>
      intro z1_2 v1 f1 hv1 hf1 hw1 hr1_0 hr1_1 j0_2 j1_2 j2_2 j3_2 j4_2 j5_2 j6_2 j7_2
      refine hC.1 1 2 _ _ rfl _ _ _ _ _ ?_
      have hu4 := hv1
      unfold md_V at hu4
      refine Exists.intro _ (And.intro md_o ?_)
      refine And.intro (fun c5 => ?_) (fun c5 => ?_)
      · skip
        refine hC.1 4 42 _ _ rfl _ _ _ _ _ ?_
        exact ⟨rfl, rfl, v1, f1, rfl, rfl, hv1, hf1, hw1, hr1_0, hr1_1, by first | omega | (dsimp only; omega) | trivial⟩
      · skip
        refine Exists.intro _ (And.intro md_o ?_)
        refine And.intro (Exists.intro _ md_o) (Exists.intro _ (Exists.intro _ (Exists.intro _ (Exists.intro _ (And.intro (c_X11_ahead D v1 f1 hv1 hf1 z1_2 (by omega)) (And.intro rfl (fun r9 A9 h9 => ?_)))))))
        obtain ⟨y6, rfl, rfl, by6⟩ := h9
        refine And.intro (fun c7 => ?_) (fun c7 => ?_)
        · skip
          refine hC.1 2 28 _ _ rfl _ _ _ _ _ ?_
          refine And.intro (Exists.intro _ md_o) (Exists.intro _ (Exists.intro _ (Exists.intro _ (Exists.intro _ (And.intro (c_X11_ahead D v1 f1 hv1 hf1 z1_2 (by omega)) (And.intro rfl (fun r9 A9 h9 => ?_)))))))
          obtain ⟨y8, rfl, rfl, by8⟩ := h9
          intro m9 em_34
          try have e9 : m9.toInt = (z1_2).toInt - (y8).toInt := by rw [em_34]; exact pm_sub _ _ (by omega) (by omega)
          refine hC.1 3 35 _ _ rfl _ _ _ _ _ ?_
          refine Exists.intro _ (Exists.intro _ (And.intro (md_a_gaps D) (And.intro (by omega) ?_)))
          rw [md_s_gaps D]
          obtain ⟨f10, ef10⟩ : ∃ z9, z9 = va_up f1 17 (upd (f1 17) (z1_2).toInt.toNat m9) := ⟨_, rfl⟩
          rw [← ef10]
          have hf10 : md_F f10 := by rw [ef10]; exact md_F_st hf1 17 _ _ (md_rng _ _ (by decide))
          have hw10 : f10 2 = f 2 := (show f10 2 = f1 2 by rw [ef10]; rfl).trans hw1
          have hr10_0 : f10 0 = f 0 := (show f10 0 = f1 0 by rw [ef10]; rfl).trans hr1_0
          have hr10_1 : f10 1 = f 1 := (show f10 1 = f1 1 by rw [ef10]; rfl).trans hr1_1
          have k1 : (1 : Int32).toInt = 1 := rfl
          intro m11 em_36
          try have e11 : m11.toInt = (z1_2).toInt + (1) := by rw [em_36]; exact pm_addc _ _ (1) rfl (by omega) (by omega)
          exact ih3 m11 v1 f10 hv1 hf10 hw10 hr10_0 hr10_1 (by omega) (by omega) (by omega) (by omega) (by omega) (by omega) (by omega) (by omega)
        · skip
          have k268435456 : (268435456 : Int32).toInt = 268435456 := rfl
          refine hC.1 3 35 _ _ rfl _ _ _ _ _ ?_
          refine Exists.intro _ (Exists.intro _ (And.intro (md_a_gaps D) (And.intro (by omega) ?_)))
          rw [md_s_gaps D]
          obtain ⟨f12, ef12⟩ : ∃ z9, z9 = va_up f1 17 (upd (f1 17) (z1_2).toInt.toNat (268435456 : Int32)) := ⟨_, rfl⟩
          rw [← ef12]
          have hf12 : md_F f12 := by rw [ef12]; exact md_F_st hf1 17 _ _ (md_rng _ _ (by decide))
          have hw12 : f12 2 = f 2 := (show f12 2 = f1 2 by rw [ef12]; rfl).trans hw1
          have hr12_0 : f12 0 = f 0 := (show f12 0 = f1 0 by rw [ef12]; rfl).trans hr1_0
          have hr12_1 : f12 1 = f 1 := (show f12 1 = f1 1 by rw [ef12]; rfl).trans hr1_1
          have k1 : (1 : Int32).toInt = 1 := rfl
          intro m13 em_36
          try have e13 : m13.toInt = (z1_2).toInt + (1) := by rw [em_36]; exact pm_addc _ _ (1) rfl (by omega) (by omega)
          exact ih3 m13 v1 f12 hv1 hf12 hw12 hr12_0 hr12_1 (by omega) (by omega) (by omega) (by omega) (by omega) (by omega) (by omega) (by omega)
  exact lp2 (200 - (0 : Int32).toInt).toNat.succ (0 : Int32) v f hv hf rfl rfl rfl (by omega) (by omega) (by omega) (by omega) (by omega) (by omega) (by omega) (by omega)

end
