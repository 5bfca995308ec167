section
variable {l : Launch} {g : pm_G} {A0 : pm_H} {h : Nat} {q : Nat → Nat}
set_option maxRecDepth 100000 in
set_option maxHeartbeats 2000000 in
theorem F_X11_asks (D : md_D h q) (v : Nat → Int32) (f : Nat → Nat → Int32) (hv : md_V v) (hf : md_F f) (x1 : Int32) (x2 : Int32) (x3 : Int32) (p0 : (v 6).toInt < 30) : pm_Mt l g 276 0 0 0 [.ref h, .int x1, .int x2, .int x3] (md A0 g h q v f) (md_Qw A0 g h q f (fun r v2 f2 => f2 0 = f 0 ∧ f2 1 = f 1 ∧ (v2 0).toInt = (v 0).toInt ∧ (v2 1).toInt = (v 1).toInt ∧ (v2 2).toInt = (v 2).toInt ∧ (v2 3).toInt = (v 3).toInt ∧ (v2 4).toInt = (v 4).toInt)) := by
  refine mt_X11_asks rfl (fun J hC => ?_)
  have hv9 := hv
  unfold md_V at hv9
  have rg_x1 := pm_rng x1
  have rg_x2 := pm_rng x2
  have rg_x3 := pm_rng x3
  refine hC.1 0 0 _ _ rfl _ _ _ _ _ ?_
  refine Exists.intro _ (And.intro md_o ?_)
  refine Exists.intro _ (And.intro md_o ?_)
  refine Exists.intro _ (Exists.intro _ (And.intro (md_a_askedOne D) (And.intro (by omega) ?_)))
  rw [md_s_askedOne D]
  obtain ⟨f1, ef1⟩ : ∃ z9, z9 = va_up f 7 (upd (f 7) ((v 6)).toInt.toNat x2) := ⟨_, rfl⟩
  rw [← ef1]
  have hf1 : md_F f1 := by rw [ef1]; exact md_F_st hf 7 _ _ (md_rng _ _ (by decide))
  have hw1 : f1 2 = f 2 := (show f1 2 = f 2 by rw [ef1]; rfl).trans rfl
  have hr1_0 : f1 0 = f 0 := (show f1 0 = f 0 by rw [ef1]; rfl).trans rfl
  have hr1_1 : f1 1 = f 1 := (show f1 1 = f 1 by rw [ef1]; rfl).trans rfl
  refine Exists.intro _ (And.intro md_o ?_)
  refine Exists.intro _ (And.intro md_o ?_)
  refine Exists.intro _ (Exists.intro _ (And.intro (md_a_askedOther D) (And.intro (by omega) ?_)))
  rw [md_s_askedOther D]
  obtain ⟨f2, ef2⟩ : ∃ z9, z9 = va_up f1 8 (upd (f1 8) ((v 6)).toInt.toNat x3) := ⟨_, rfl⟩
  rw [← ef2]
  have hf2 : md_F f2 := by rw [ef2]; exact md_F_st hf1 8 _ _ (md_rng _ _ (by decide))
  have hw2 : f2 2 = f 2 := (show f2 2 = f1 2 by rw [ef2]; rfl).trans hw1
  have hr2_0 : f2 0 = f 0 := (show f2 0 = f1 0 by rw [ef2]; rfl).trans hr1_0
  have hr2_1 : f2 1 = f 1 := (show f2 1 = f1 1 by rw [ef2]; rfl).trans hr1_1
  refine Exists.intro _ (And.intro md_o ?_)
  refine Exists.intro _ (And.intro md_o ?_)
  refine Exists.intro _ (Exists.intro _ (And.intro (md_a_askedEdit D) (And.intro (by omega) ?_)))
  rw [md_s_askedEdit D]
  obtain ⟨f3, ef3⟩ : ∃ z9, z9 = va_up f2 11 (upd (f2 11) ((v 6)).toInt.toNat x1) := ⟨_, rfl⟩
  rw [← ef3]
  have hf3 : md_F f3 := by rw [ef3]; exact md_F_st hf2 11 _ _ (md_rng _ _ (by decide))
  have hw3 : f3 2 = f 2 := (show f3 2 = f2 2 by rw [ef3]; rfl).trans hw2
  have hr3_0 : f3 0 = f 0 := (show f3 0 = f2 0 by rw [ef3]; rfl).trans hr2_0
  have hr3_1 : f3 1 = f 1 := (show f3 1 = f2 1 by rw [ef3]; rfl).trans hr2_1
  refine Exists.intro _ (And.intro md_o ?_)
  refine Exists.intro _ (And.intro md_o ?_)
  have km1 : (-1 : Int32).toInt = -1 := rfl
  refine Exists.intro _ (Exists.intro _ (And.intro (md_a_answerCount D) (And.intro (by omega) ?_)))
  rw [md_s_answerCount D]
  obtain ⟨f4, ef4⟩ : ∃ z9, z9 = va_up f3 9 (upd (f3 9) ((v 6)).toInt.toNat (-1 : Int32)) := ⟨_, rfl⟩
  rw [← ef4]
  have hf4 : md_F f4 := by rw [ef4]; exact md_F_st hf3 9 _ _ (md_rng _ _ (by decide))
  have hw4 : f4 2 = f 2 := (show f4 2 = f3 2 by rw [ef4]; rfl).trans hw3
  have hr4_0 : f4 0 = f 0 := (show f4 0 = f3 0 by rw [ef4]; rfl).trans hr3_0
  have hr4_1 : f4 1 = f 1 := (show f4 1 = f3 1 by rw [ef4]; rfl).trans hr3_1
  refine Exists.intro _ (And.intro md_o ?_)
  refine Exists.intro _ (And.intro md_o ?_)
  refine Exists.intro _ (Exists.intro _ (And.intro (md_a_answerWeight D) (And.intro (by omega) ?_)))
  rw [md_s_answerWeight D]
  obtain ⟨f5, ef5⟩ : ∃ z9, z9 = va_up f4 10 (upd (f4 10) ((v 6)).toInt.toNat (-1 : Int32)) := ⟨_, rfl⟩
  rw [← ef5]
  have hf5 : md_F f5 := by rw [ef5]; exact md_F_st hf4 10 _ _ (md_rng _ _ (by decide))
  have hw5 : f5 2 = f 2 := (show f5 2 = f4 2 by rw [ef5]; rfl).trans hw4
  have hr5_0 : f5 0 = f 0 := (show f5 0 = f4 0 by rw [ef5]; rfl).trans hr4_0
  have hr5_1 : f5 1 = f 1 := (show f5 1 = f4 1 by rw [ef5]; rfl).trans hr4_1
  refine Exists.intro _ (And.intro md_o ?_)
  have k1 : (1 : Int32).toInt = 1 := rfl
  intro m6 em_56
  try have e6 : m6.toInt = ((v 6)).toInt + (1) := by rw [em_56]; exact pm_addc _ _ (1) rfl (by omega) (by omega)
  refine Exists.intro _ (And.intro md_o (And.intro rfl ?_))
  rw [md_p_askedMany D]
  obtain ⟨v7, ev7⟩ : ∃ z9, z9 = upd v 6 m6 := ⟨_, rfl⟩
  rw [← ev7]
  have ev7_0 : (v7 0).toInt = (v 0).toInt := by rw [ev7]; rfl
  have ev7_1 : (v7 1).toInt = (v 1).toInt := by rw [ev7]; rfl
  have ev7_2 : (v7 2).toInt = (v 2).toInt := by rw [ev7]; rfl
  have ev7_3 : (v7 3).toInt = (v 3).toInt := by rw [ev7]; rfl
  have ev7_4 : (v7 4).toInt = (v 4).toInt := by rw [ev7]; rfl
  have ev7_5 : (v7 5).toInt = (v 5).toInt := by rw [ev7]; rfl
  have ev7_6 : (v7 6).toInt = (m6).toInt := by rw [ev7]; rfl
  have ev7_7 : (v7 7).toInt = (v 7).toInt := by rw [ev7]; rfl
  have pn_57 : v7 6 = m6 := by rw [ev7]; rfl
  refine Exists.intro _ (And.intro md_o ?_)
  intro m8 em_65
  try have e8 : m8.toInt = ((v7 6)).toInt - (1) := by rw [em_65]; exact pm_subc _ _ (1) rfl (by omega) (by omega)
  have hv9 : md_V v7 := by unfold md_V; omega
  exact ⟨rfl, fun e9 => absurd e9 (by decide), rfl, m8, v7, f5, rfl, rfl, hv9, hf5, hw5, hr5_0, hr5_1, by first | omega | (dsimp only; omega) | trivial⟩

end
