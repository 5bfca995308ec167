section
variable {l : Launch} {g : pm_G} {A0 : pm_H} {h : Nat} {q : Nat → Nat}
set_option maxRecDepth 100000 in
set_option maxHeartbeats 2000000 in
theorem F_X11_lays (D : md_D h q) (v : Nat → Int32) (f : Nat → Nat → Int32) (hv : md_V v) (hf : md_F f) (x1 : Int32) (x2 : Int32) (p0 : (v 2).toInt < 160) (p1 : 0 ≤ x1.toInt ∧ x1.toInt ≤ 23) : pm_Mt l g 175 0 0 0 [.ref h, .int x1, .int x2] (md A0 g h q v f) (md_Qv A0 g h q f (fun v2 f2 => f2 0 = f 0 ∧ f2 1 = f 1 ∧ ((v2 0).toInt = (v 0).toInt ∧ (v2 1).toInt = (v 1).toInt ∧ (v2 3).toInt = (v 3).toInt ∧ (v2 4).toInt = (v 4).toInt ∧ (v2 6).toInt = (v 6).toInt ∧ (v2 2).toInt = (v 2).toInt + 1) ∧ (∀ N, rp (v 2) (f 5) (f 6) (N) → rp (v2 2) (f2 5) (f2 6) (N ++ [(x1, x2)])))) := by
  refine mt_X11_lays rfl (fun J hC => ?_)
  have hv9 := hv
  unfold md_V at hv9
  have rg_x1 := pm_rng x1
  have rg_x2 := pm_rng x2
  refine hC.1 0 0 _ _ rfl _ _ _ _ _ ?_
  refine Exists.intro _ (And.intro md_o ?_)
  refine Exists.intro _ (And.intro md_o ?_)
  refine Exists.intro _ (Exists.intro _ (And.intro (md_a_nextColours D) (And.intro (by omega) ?_)))
  rw [md_s_nextColours D]
  obtain ⟨f1, ef1⟩ : ∃ z9, z9 = va_up f 5 (upd (f 5) ((v 2)).toInt.toNat x1) := ⟨_, rfl⟩
  rw [← ef1]
  have pf_9 : f1 5 = upd (f 5) ((v 2)).toInt.toNat x1 := by rw [ef1]; exact if_pos rfl
  have pg_9 : ∀ i9, i9 ≠ 5 → f1 i9 = f i9 := fun i9 h9 => by rw [ef1]; exact if_neg h9
  have hf1 : md_F f1 := by rw [ef1]; exact md_F_st hf 5 _ _ (by show (0 : Int) ≤ _ ∧ _ ≤ (23 : Int); omega)
  have hw1 : f1 2 = f 2 := (show f1 2 = f 2 by rw [ef1]; rfl).trans rfl
  have hr1_0 : f1 0 = f 0 := (show f1 0 = f 0 by rw [ef1]; rfl).trans rfl
  have hr1_1 : f1 1 = f 1 := (show f1 1 = f 1 by rw [ef1]; rfl).trans rfl
  refine Exists.intro _ (And.intro md_o ?_)
  refine Exists.intro _ (And.intro md_o ?_)
  refine Exists.intro _ (Exists.intro _ (And.intro (md_a_nextNames D) (And.intro (by omega) ?_)))
  rw [md_s_nextNames D]
  obtain ⟨f2, ef2⟩ : ∃ z9, z9 = va_up f1 6 (upd (f1 6) ((v 2)).toInt.toNat x2) := ⟨_, rfl⟩
  rw [← ef2]
  have pf_19 : f2 6 = upd (f1 6) ((v 2)).toInt.toNat x2 := by rw [ef2]; exact if_pos rfl
  have pg_19 : ∀ i9, i9 ≠ 6 → f2 i9 = f1 i9 := fun i9 h9 => by rw [ef2]; exact if_neg h9
  have hf2 : md_F f2 := by rw [ef2]; exact md_F_st hf1 6 _ _ (md_rng _ _ (by decide))
  have hw2 : f2 2 = f 2 := (show f2 2 = f1 2 by rw [ef2]; rfl).trans hw1
  have hr2_0 : f2 0 = f 0 := (show f2 0 = f1 0 by rw [ef2]; rfl).trans hr1_0
  have hr2_1 : f2 1 = f 1 := (show f2 1 = f1 1 by rw [ef2]; rfl).trans hr1_1
  refine Exists.intro _ (And.intro md_o ?_)
  have k1 : (1 : Int32).toInt = 1 := rfl
  intro m3 em_26
  try have e3 : m3.toInt = ((v 2)).toInt + (1) := by rw [em_26]; exact pm_addc _ _ (1) rfl (by omega) (by omega)
  refine Exists.intro _ (And.intro md_o (And.intro rfl ?_))
  rw [md_p_nextMany D]
  obtain ⟨v4, ev4⟩ : ∃ z9, z9 = upd v 2 m3 := ⟨_, rfl⟩
  rw [← ev4]
  have ev4_0 : (v4 0).toInt = (v 0).toInt := by rw [ev4]; rfl
  have ev4_1 : (v4 1).toInt = (v 1).toInt := by rw [ev4]; rfl
  have ev4_2 : (v4 2).toInt = (m3).toInt := by rw [ev4]; rfl
  have ev4_3 : (v4 3).toInt = (v 3).toInt := by rw [ev4]; rfl
  have ev4_4 : (v4 4).toInt = (v 4).toInt := by rw [ev4]; rfl
  have ev4_5 : (v4 5).toInt = (v 5).toInt := by rw [ev4]; rfl
  have ev4_6 : (v4 6).toInt = (v 6).toInt := by rw [ev4]; rfl
  have ev4_7 : (v4 7).toInt = (v 7).toInt := by rw [ev4]; rfl
  have pn_27 : v4 2 = m3 := by rw [ev4]; rfl
  have hv5 : md_V v4 := by unfold md_V; omega
  exact ⟨rfl, rfl, v4, f2, rfl, rfl, hv5, hf2, hw2, hr2_0, hr2_1, by first | omega | (dsimp only; omega) | trivial, by intro N hN; rw [pg_19 5 (by decide), pf_9, pf_19, pg_9 6 (by decide)]; exact rp_app hN (by omega) _ _⟩

end
