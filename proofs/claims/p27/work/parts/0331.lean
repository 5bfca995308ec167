section
variable {l : Launch} {g : pm_G} {A0 : pm_H} {h : Nat} {q : Nat → Nat}
set_option maxRecDepth 100000 in
set_option maxHeartbeats 2000000 in
theorem F_X11_keepsRow (D : md_D h q) (v : Nat → Int32) (f : Nat → Nat → Int32) (hv : md_V v) (hf : md_F f) (x1 : Int32)  : pm_Mt l g 178 0 0 0 [.ref h, .int x1] (md A0 g h q v f) (md_Qv A0 g h q f (fun v2 f2 => f2 0 = f 0 ∧ f2 1 = f 1 ∧ (v2 0).toInt = (v 0).toInt ∧ (v2 1).toInt = (v 1).toInt ∧ (v2 2).toInt = (v 2).toInt ∧ (v2 3).toInt = (v 3).toInt ∧ (v2 4).toInt = (v 4).toInt ∧ (v2 6).toInt = (v 6).toInt)) := by
  refine mt_X11_keepsRow rfl (fun J hC => ?_)
  have hv9 := hv
  unfold md_V at hv9
  have rg_x1 := pm_rng x1
  refine hC.1 0 0 _ _ rfl _ _ _ _ _ ?_
  refine Exists.intro _ (And.intro md_o ?_)
  have k40 : (40 : Int32).toInt = 40 := rfl
  refine And.intro (by decide) ?_
  intro m1 em_6
  try have e1 := pm_rem (v 4) (40 : Int32) (by omega) (by omega)
  try rw [← em_6] at e1
  refine Exists.intro _ (And.intro md_o ?_)
  refine Exists.intro _ (And.intro md_o ?_)
  refine Exists.intro _ (Exists.intro _ (And.intro (md_a_wasMany D) (And.intro (by omega) ?_)))
  rw [md_s_wasMany D]
  obtain ⟨f2, ef2⟩ : ∃ z9, z9 = va_up f 14 (upd (f 14) (m1).toInt.toNat (v 0)) := ⟨_, rfl⟩
  rw [← ef2]
  have hf2 : md_F f2 := by rw [ef2]; exact md_F_st hf 14 _ _ (by show (0 : Int) ≤ _ ∧ _ ≤ (160 : Int); omega)
  have hw2 : f2 2 = f 2 := (show f2 2 = f 2 by rw [ef2]; rfl).trans rfl
  have hr2_0 : f2 0 = f 0 := (show f2 0 = f 0 by rw [ef2]; rfl).trans rfl
  have hr2_1 : f2 1 = f 1 := (show f2 1 = f 1 by rw [ef2]; rfl).trans rfl
  refine Exists.intro _ (And.intro md_o ?_)
  refine Exists.intro _ (Exists.intro _ (And.intro (md_a_wasTouched D) (And.intro (by omega) ?_)))
  rw [md_s_wasTouched D]
  obtain ⟨f3, ef3⟩ : ∃ z9, z9 = va_up f2 15 (upd (f2 15) (m1).toInt.toNat x1) := ⟨_, rfl⟩
  rw [← ef3]
  have hf3 : md_F f3 := by rw [ef3]; exact md_F_st hf2 15 _ _ (md_rng _ _ (by decide))
  have hw3 : f3 2 = f 2 := (show f3 2 = f2 2 by rw [ef3]; rfl).trans hw2
  have hr3_0 : f3 0 = f 0 := (show f3 0 = f2 0 by rw [ef3]; rfl).trans hr2_0
  have hr3_1 : f3 1 = f 1 := (show f3 1 = f2 1 by rw [ef3]; rfl).trans hr2_1
  have k0 : (0 : Int32).toInt = 0 := rfl
  have lp5 : ∀ (n : Nat) (z3_27 : Int32) (v4 : Nat → Int32) (f4 : Nat → Nat → Int32), md_V v4 → md_F f4 → f4 2 = f 2 → f4 0 = f 0 → f4 1 = f 1 → (0 ≤ z3_27.toInt ∧ z3_27.toInt ≤ (v 0).toInt) → (v4 0).toInt = (v 0).toInt → (v4 1).toInt = (v 1).toInt → (v4 2).toInt = (v 2).toInt → (v4 3).toInt = (v 3).toInt → (v4 4).toInt = (v 4).toInt → (v4 6).toInt = (v 6).toInt → 200 - z3_27.toInt < (n : Int) → J 27 [some (.ref h), some (.int x1), some (.int m1), some (.int z3_27)] [] (md A0 g h q v4 f4) 0 0 := by
    intro n
    induction n with
    | zero =>
      intro z3_27 v4 f4 hv4 hf4 hw4 hr4_0 hr4_1 j0_27 j1_27 j2_27 j3_27 j4_27 j5_27 j6_27 j7_27
      omega
    | succ n ih6 =>
      intro z3_27 v4 f4 hv4 hf4 hw4 hr4_0 hr4_1 j0_27 j1_27 j2_27 j3_27 j4_27 j5_27 j6_27 j7_27
      refine hC.1 1 27 _ _ rfl _ _ _ _ _ ?_
      have hu7 := hv4
      unfold md_V at hu7
      refine Exists.intro _ (And.intro md_o ?_)
      refine And.intro (fun c8 => ?_) (fun c8 => ?_)
      · skip
        refine hC.1 2 77 _ _ rfl _ _ _ _ _ ?_
        exact ⟨rfl, rfl, v4, f4, rfl, rfl, hv4, hf4, hw4, hr4_0, hr4_1, by first | omega | (dsimp only; omega) | trivial⟩
      · skip
        refine Exists.intro _ (And.intro md_o ?_)
        have k160 : (160 : Int32).toInt = 160 := rfl
        intro m9 em_43
        try have e9 : m9.toInt = (160) * (m1).toInt := by rw [em_43]; exact pm_mulk _ _ (160) rfl (by omega) (by omega)
        intro m10 em_45
        try have e10 : m10.toInt = (m9).toInt + (z3_27).toInt := by rw [em_45]; exact pm_add _ _ (by omega) (by omega)
        refine Exists.intro _ (And.intro md_o ?_)
        refine Exists.intro _ (Exists.intro _ (And.intro (Or.inl (md_a_colours D)) (And.intro (by omega) ?_)))
        have w11 : (0 : Int) ≤ (f4 0 (z3_27).toInt.toNat).toInt ∧ (f4 0 (z3_27).toInt.toNat).toInt ≤ (23 : Int) := hf4 0 _
        refine Exists.intro _ (Exists.intro _ (And.intro (md_a_wasColours D) (And.intro (by omega) ?_)))
        rw [md_s_wasColours D]
        obtain ⟨f12, ef12⟩ : ∃ z9, z9 = va_up f4 12 (upd (f4 12) (m10).toInt.toNat (f4 0 (z3_27).toInt.toNat)) := ⟨_, rfl⟩
        rw [← ef12]
        have hf12 : md_F f12 := by rw [ef12]; exact md_F_st hf4 12 _ _ (by show (0 : Int) ≤ _ ∧ _ ≤ (23 : Int); omega)
        have hw12 : f12 2 = f 2 := (show f12 2 = f4 2 by rw [ef12]; rfl).trans hw4
        have hr12_0 : f12 0 = f 0 := (show f12 0 = f4 0 by rw [ef12]; rfl).trans hr4_0
        have hr12_1 : f12 1 = f 1 := (show f12 1 = f4 1 by rw [ef12]; rfl).trans hr4_1
        refine Exists.intro _ (And.intro md_o ?_)
        intro m13 em_61
        try have e13 : m13.toInt = (160) * (m1).toInt := by rw [em_61]; exact pm_mulk _ _ (160) rfl (by omega) (by omega)
        intro m14 em_63
        try have e14 : m14.toInt = (m13).toInt + (z3_27).toInt := by rw [em_63]; exact pm_add _ _ (by omega) (by omega)
        refine Exists.intro _ (And.intro md_o ?_)
        refine Exists.intro _ (Exists.intro _ (And.intro (Or.inl (md_a_names D)) (And.intro (by omega) ?_)))
        refine Exists.intro _ (Exists.intro _ (And.intro (md_a_wasNames D) (And.intro (by omega) ?_)))
        rw [md_s_wasNames D]
        obtain ⟨f15, ef15⟩ : ∃ z9, z9 = va_up f12 13 (upd (f12 13) (m14).toInt.toNat (f12 1 (z3_27).toInt.toNat)) := ⟨_, rfl⟩
        rw [← ef15]
        have hf15 : md_F f15 := by rw [ef15]; exact md_F_st hf12 13 _ _ (md_rng _ _ (by decide))
        have hw15 : f15 2 = f 2 := (show f15 2 = f12 2 by rw [ef15]; rfl).trans hw12
        have hr15_0 : f15 0 = f 0 := (show f15 0 = f12 0 by rw [ef15]; rfl).trans hr12_0
        have hr15_1 : f15 1 = f 1 := (show f15 1 = f12 1 by rw [ef15]; rfl).trans hr12_1
        have k1 : (1 : Int32).toInt = 1 := rfl
        intro m16 em_71
        try have e16 : m16.toInt = (z3_27).toInt + (1) := by rw [em_71]; exact pm_addc _ _ (1) rfl (by omega) (by omega)
        exact ih6 m16 v4 f15 hv4 hf15 hw15 hr15_0 hr15_1 (by omega) (by omega) (by omega) (by omega) (by omega) (by omega) (by omega) (by omega)
  exact lp5 (200 - (0 : Int32).toInt).toNat.succ (0 : Int32) v f3 hv hf3 hw3 hr3_0 hr3_1 (by omega) (by omega) (by omega) (by omega) (by omega) (by omega) (by omega) (by omega)

end
