section
variable {l : Launch} {g : pm_G} {A0 : pm_H} {h : Nat} {q : Nat → Nat}
set_option maxRecDepth 100000 in
set_option maxHeartbeats 2000000 in
theorem V_X11_asks (D : md_D h q) (v : Nat → Int32) (f : Nat → Nat → Int32) (hv : md_V v) (hf : md_F f) (x1 : Int32) (x2 : Int32) (x3 : Int32) (p0 : (v 6).toInt < 30) : pm_Mt l g 276 0 0 0 [.ref h, .int x1, .int x2, .int x3] (md A0 g h q v f) (md_Qw A0 g h q f (fun r v2 f2 => f2 0 = f 0 ∧ f2 1 = f 1 ∧ f2 12 = f 12 ∧ f2 13 = f 13 ∧ f2 14 = f 14 ∧ f2 15 = f 15 ∧ ((v2 0).toInt = (v 0).toInt ∧ (v2 1).toInt = (v 1).toInt ∧ (v2 2).toInt = (v 2).toInt ∧ (v2 3).toInt = (v 3).toInt ∧ (v2 4).toInt = (v 4).toInt ∧ (v2 5).toInt = (v 5).toInt) ∧ (QST True x1 x2 x3 (v 6) (v2 6) r (f 7) (f 8) (f 9) (f 10) (f 11) (f2 7) (f2 8) (f2 9) (f2 10) (f2 11)))) := by
  refine mt_X11_asks rfl (fun J hC => ?_)
  have hv9 := hv
  unfold md_V at hv9
  have rg_x1 := pm_rng x1
  have rg_x2 := pm_rng x2
  have rg_x3 := pm_rng x3
  refine hC.1 0 0 _ _ rfl _ _ _ _ _ ?_
  refine Exists.intro _ (And.intro md_o ?_)
  refine Exists.intro _ (And.intro md_o ?_)
  refine Exists.intro _ (Exists.intro _ (And.intro (md_a_askedOne D) (And.intro (by omega) ?_)))
  rw [md_s_askedOne D]
  obtain ⟨f1, ef1⟩ : ∃ z9, z9 = va_up f 7 (upd (f 7) ((v 6)).toInt.toNat x2) := ⟨_, rfl⟩
  rw [← ef1]
  have pf_9 : f1 7 = upd (f 7) ((v 6)).toInt.toNat x2 := by rw [ef1]; exact if_pos rfl
  have pg_9 : ∀ i9, i9 ≠ 7 → f1 i9 = f i9 := fun i9 h9 => by rw [ef1]; exact if_neg h9
  have hf1 : md_F f1 := by rw [ef1]; exact md_F_st hf 7 _ _ (md_rng _ _ (by decide))
  have hw1 : f1 2 = f 2 := (show f1 2 = f 2 by rw [ef1]; rfl).trans rfl
  have hr1_0 : f1 0 = f 0 := (show f1 0 = f 0 by rw [ef1]; rfl).trans rfl
  have hr1_1 : f1 1 = f 1 := (show f1 1 = f 1 by rw [ef1]; rfl).trans rfl
  have hr1_12 : f1 12 = f 12 := (show f1 12 = f 12 by rw [ef1]; rfl).trans rfl
  have hr1_13 : f1 13 = f 13 := (show f1 13 = f 13 by rw [ef1]; rfl).trans rfl
  have hr1_14 : f1 14 = f 14 := (show f1 14 = f 14 by rw [ef1]; rfl).trans rfl
  have hr1_15 : f1 15 = f 15 := (show f1 15 = f 15 by rw [ef1]; rfl).trans rfl
  refine Exists.intro _ (And.intro md_o ?_)
  refine Exists.intro _ (And.intro md_o ?_)
  refine Exists.intro _ (Exists.intro _ (And.intro (md_a_askedOther D) (And.intro (by omega) ?_)))
  rw [md_s_askedOther D]
  obtain ⟨f2, ef2⟩ : ∃ z9, z9 = va_up f1 8 (upd (f1 8) ((v 6)).toInt.toNat x3) := ⟨_, rfl⟩
  rw [← ef2]
  have pf_19 : f2 8 = upd (f1 8) ((v 6)).toInt.toNat x3 := by rw [ef2]; exact if_pos rfl
  have pg_19 : ∀ i9, i9 ≠ 8 → f2 i9 = f1 i9 := fun i9 h9 => by rw [ef2]; exact if_neg h9
  have hf2 : md_F f2 := by rw [ef2]; exact md_F_st hf1 8 _ _ (md_rng _ _ (by decide))
  have hw2 : f2 2 = f 2 := (show f2 2 = f1 2 by rw [ef2]; rfl).trans hw1
  have hr2_0 : f2 0 = f 0 := (show f2 0 = f1 0 by rw [ef2]; rfl).trans hr1_0
  have hr2_1 : f2 1 = f 1 := (show f2 1 = f1 1 by rw [ef2]; rfl).trans hr1_1
  have hr2_12 : f2 12 = f 12 := (show f2 12 = f1 12 by rw [ef2]; rfl).trans hr1_12
  have hr2_13 : f2 13 = f 13 := (show f2 13 = f1 13 by rw [ef2]; rfl).trans hr1_13
  have hr2_14 : f2 14 = f 14 := (show f2 14 = f1 14 by rw [ef2]; rfl).trans hr1_14
  have hr2_15 : f2 15 = f 15 := (show f2 15 = f1 15 by rw [ef2]; rfl).trans hr1_15
  refine Exists.intro _ (And.intro md_o ?_)
  refine Exists.intro _ (And.intro md_o ?_)
  refine Exists.intro _ (Exists.intro _ (And.intro (md_a_askedEdit D) (And.intro (by omega) ?_)))
  rw [md_s_askedEdit D]
  obtain ⟨f3, ef3⟩ : ∃ z9, z9 = va_up f2 11 (upd (f2 11) ((v 6)).toInt.toNat x1) := ⟨_, rfl⟩
  rw [← ef3]
  have pf_29 : f3 11 = upd (f2 11) ((v 6)).toInt.toNat x1 := by rw [ef3]; exact if_pos rfl
  have pg_29 : ∀ i9, i9 ≠ 11 → f3 i9 = f2 i9 := fun i9 h9 => by rw [ef3]; exact if_neg h9
  have hf3 : md_F f3 := by rw [ef3]; exact md_F_st hf2 11 _ _ (md_rng _ _ (by decide))
  have hw3 : f3 2 = f 2 := (show f3 2 = f2 2 by rw [ef3]; rfl).trans hw2
  have hr3_0 : f3 0 = f 0 := (show f3 0 = f2 0 by rw [ef3]; rfl).trans hr2_0
  have hr3_1 : f3 1 = f 1 := (show f3 1 = f2 1 by rw [ef3]; rfl).trans hr2_1
  have hr3_12 : f3 12 = f 12 := (show f3 12 = f2 12 by rw [ef3]; rfl).trans hr2_12
  have hr3_13 : f3 13 = f 13 := (show f3 13 = f2 13 by rw [ef3]; rfl).trans hr2_13
  have hr3_14 : f3 14 = f 14 := (show f3 14 = f2 14 by rw [ef3]; rfl).trans hr2_14
  have hr3_15 : f3 15 = f 15 := (show f3 15 = f2 15 by rw [ef3]; rfl).trans hr2_15
  refine Exists.intro _ (And.intro md_o ?_)
  refine Exists.intro _ (And.intro md_o ?_)
  have km1 : (-1 : Int32).toInt = -1 := rfl
  refine Exists.intro _ (Exists.intro _ (And.intro (md_a_answerCount D) (And.intro (by omega) ?_)))
  rw [md_s_answerCount D]
  obtain ⟨f4, ef4⟩ : ∃ z9, z9 = va_up f3 9 (upd (f3 9) ((v 6)).toInt.toNat (-1 : Int32)) := ⟨_, rfl⟩
  rw [← ef4]
  have pf_39 : f4 9 = upd (f3 9) ((v 6)).toInt.toNat (-1 : Int32) := by rw [ef4]; exact if_pos rfl
  have pg_39 : ∀ i9, i9 ≠ 9 → f4 i9 = f3 i9 := fun i9 h9 => by rw [ef4]; exact if_neg h9
  have hf4 : md_F f4 := by rw [ef4]; exact md_F_st hf3 9 _ _ (md_rng _ _ (by decide))
  have hw4 : f4 2 = f 2 := (show f4 2 = f3 2 by rw [ef4]; rfl).trans hw3
  have hr4_0 : f4 0 = f 0 := (show f4 0 = f3 0 by rw [ef4]; rfl).trans hr3_0
  have hr4_1 : f4 1 = f 1 := (show f4 1 = f3 1 by rw [ef4]; rfl).trans hr3_1
  have hr4_12 : f4 12 = f 12 := (show f4 12 = f3 12 by rw [ef4]; rfl).trans hr3_12
  have hr4_13 : f4 13 = f 13 := (show f4 13 = f3 13 by rw [ef4]; rfl).trans hr3_13
  have hr4_14 : f4 14 = f 14 := (show f4 14 = f3 14 by rw [ef4]; rfl).trans hr3_14
  have hr4_15 : f4 15 = f 15 := (show f4 15 = f3 15 by rw [ef4]; rfl).trans hr3_15
  refine Exists.intro _ (And.intro md_o ?_)
  refine Exists.intro _ (And.intro md_o ?_)
  refine Exists.intro _ (Exists.intro _ (And.intro (md_a_answerWeight D) (And.intro (by omega) ?_)))
  rw [md_s_answerWeight D]
  obtain ⟨f5, ef5⟩ : ∃ z9, z9 = va_up f4 10 (upd (f4 10) ((v 6)).toInt.toNat (-1 : Int32)) := ⟨_, rfl⟩
  rw [← ef5]
  have pf_49 : f5 10 = upd (f4 10) ((v 6)).toInt.toNat (-1 : Int32) := by rw [ef5]; exact if_pos rfl
  have pg_49 : ∀ i9, i9 ≠ 10 → f5 i9 = f4 i9 := fun i9 h9 => by rw [ef5]; exact if_neg h9
  have hf5 : md_F f5 := by rw [ef5]; exact md_F_st hf4 10 _ _ (md_rng _ _ (by decide))
  have hw5 : f5 2 = f 2 := (show f5 2 = f4 2 by rw [ef5]; rfl).trans hw4
  have hr5_0 : f5 0 = f 0 := (show f5 0 = f4 0 by rw [ef5]; rfl).trans hr4_0
  have hr5_1 : f5 1 = f 1 := (show f5 1 = f4 1 by rw [ef5]; rfl).trans hr4_1
  have hr5_12 : f5 12 = f 12 := (show f5 12 = f4 12 by rw [ef5]; rfl).trans hr4_12
  have hr5_13 : f5 13 = f 13 := (show f5 13 = f4 13 by rw [ef5]; rfl).trans hr4_13
  have hr5_14 : f5 14 = f 14 := (show f5 14 = f4 14 by rw [ef5]; rfl).trans hr4_14
  have hr5_15 : f5 15 = f 15 := (show f5 15 = f4 15 by rw [ef5]; rfl).trans hr4_15
  refine Exists.intro _ (And.intro md_o ?_)
  have k1 : (1 : Int32).toInt = 1 := rfl
  intro m6 em_56
  try have e6 : m6.toInt = ((v 6)).toInt + (1) := by rw [em_56]; exact pm_addc _ _ (1) rfl (by omega) (by omega)
  refine Exists.intro _ (And.intro md_o (And.intro rfl ?_))
  rw [md_p_askedMany D]
  obtain ⟨v7, ev7⟩ : ∃ z9, z9 = upd v 6 m6 := ⟨_, rfl⟩
  rw [← ev7]
  have ev7_0 : (v7 0).toInt = (v 0).toInt := by rw [ev7]; rfl
  have ev7_1 : (v7 1).toInt = (v 1).toInt := by rw [ev7]; rfl
  have ev7_2 : (v7 2).toInt = (v 2).toInt := by rw [ev7]; rfl
  have ev7_3 : (v7 3).toInt = (v 3).toInt := by rw [ev7]; rfl
  have ev7_4 : (v7 4).toInt = (v 4).toInt := by rw [ev7]; rfl
  have ev7_5 : (v7 5).toInt = (v 5).toInt := by rw [ev7]; rfl
  have ev7_6 : (v7 6).toInt = (m6).toInt := by rw [ev7]; rfl
  have ev7_7 : (v7 7).toInt = (v 7).toInt := by rw [ev7]; rfl
  have pn_57 : v7 6 = m6 := by rw [ev7]; rfl
  refine Exists.intro _ (And.intro md_o ?_)
  intro m8 em_65
  try have e8 : m8.toInt = ((v7 6)).toInt - (1) := by rw [em_65]; exact pm_subc _ _ (1) rfl (by omega) (by omega)
  have hv9 : md_V v7 := by unfold md_V; omega
  exact ⟨rfl, fun e9 => absurd e9 (by decide), rfl, m8, v7, f5, rfl, rfl, hv9, hf5, hw5, hr5_0, hr5_1, hr5_12, hr5_13, hr5_14, hr5_15, by first | omega | (dsimp only; omega) | trivial, by refine Or.inr ⟨trivial, pn_57.trans em_56, pm_eqI (by omega), ?_, ?_, ?_, ?_, ?_⟩; (rw [pg_49 7 (by decide), pg_39 7 (by decide), pg_29 7 (by decide), pg_19 7 (by decide), pf_9]); (rw [pg_49 8 (by decide), pg_39 8 (by decide), pg_29 8 (by decide), pf_19, pg_9 8 (by decide)]); (rw [pg_49 9 (by decide), pf_39, pg_29 9 (by decide), pg_19 9 (by decide), pg_9 9 (by decide)]); (rw [pf_49, pg_39 10 (by decide), pg_29 10 (by decide), pg_19 10 (by decide), pg_9 10 (by decide)]); (rw [pg_49 11 (by decide), pg_39 11 (by decide), pf_29, pg_19 11 (by decide), pg_9 11 (by decide)])⟩

end
