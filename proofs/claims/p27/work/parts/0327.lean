section
variable {l : Launch} {g : pm_G} {A0 : pm_H} {h : Nat} {q : Nat → Nat}
set_option maxRecDepth 100000 in
set_option maxHeartbeats 2000000 in
theorem F_X11_begins (D : md_D h q) (v : Nat → Int32) (f : Nat → Nat → Int32) (hv : md_V v) (hf : md_F f)  : pm_Mt l g 172 2 0 0 [.ref h] (md A0 g h q v f) (md_Qv A0 g h q f (fun v2 f2 => f2 0 = f 0 ∧ f2 1 = f 1 ∧ (v2 0).toInt = (v 0).toInt ∧ (v2 3).toInt = (v 3).toInt ∧ (v2 4).toInt = (v 4).toInt ∧ (v2 6).toInt = (v 6).toInt ∧ (v2 2).toInt = 0)) := by
  refine mt_X11_begins rfl (fun J hC => ?_)
  have hv9 := hv
  unfold md_V at hv9
  refine hC.1 0 0 _ _ rfl _ _ _ _ _ ?_
  refine Exists.intro _ (And.intro md_o ?_)
  refine Exists.intro _ (And.intro md_o (And.intro rfl ?_))
  rw [md_p_oldMany D]
  obtain ⟨v1, ev1⟩ : ∃ z9, z9 = upd v 1 (v 0) := ⟨_, rfl⟩
  rw [← ev1]
  have ev1_0 : (v1 0).toInt = (v 0).toInt := by rw [ev1]; rfl
  have ev1_1 : (v1 1).toInt = ((v 0)).toInt := by rw [ev1]; rfl
  have ev1_2 : (v1 2).toInt = (v 2).toInt := by rw [ev1]; rfl
  have ev1_3 : (v1 3).toInt = (v 3).toInt := by rw [ev1]; rfl
  have ev1_4 : (v1 4).toInt = (v 4).toInt := by rw [ev1]; rfl
  have ev1_5 : (v1 5).toInt = (v 5).toInt := by rw [ev1]; rfl
  have ev1_6 : (v1 6).toInt = (v 6).toInt := by rw [ev1]; rfl
  have ev1_7 : (v1 7).toInt = (v 7).toInt := by rw [ev1]; rfl
  have pn_5 : v1 1 = (v 0) := by rw [ev1]; rfl
  have k0 : (0 : Int32).toInt = 0 := rfl
  have lp3 : ∀ (n : Nat) (z1_10 : Int32) (v2 : Nat → Int32) (f2 : Nat → Nat → Int32), md_V v2 → md_F f2 → f2 2 = f 2 → f2 0 = f 0 → f2 1 = f 1 → (0 ≤ z1_10.toInt ∧ z1_10.toInt ≤ (v 0).toInt) → (v2 0).toInt = (v 0).toInt → (v2 3).toInt = (v 3).toInt → (v2 4).toInt = (v 4).toInt → (v2 6).toInt = (v 6).toInt → 200 - z1_10.toInt < (n : Int) → J 10 [some (.ref h), some (.int z1_10)] [] (md A0 g h q v2 f2) 0 0 := by
    intro n
    induction n with
    | zero =>
      intro z1_10 v2 f2 hv2 hf2 hw2 hr2_0 hr2_1 j0_10 j1_10 j2_10 j3_10 j4_10 j5_10
      omega
    | succ n ih4 =>
      intro z1_10 v2 f2 hv2 hf2 hw2 hr2_0 hr2_1 j0_10 j1_10 j2_10 j3_10 j4_10 j5_10
      refine hC.1 1 10 _ _ rfl _ _ _ _ _ ?_
      have hu5 := hv2
      unfold md_V at hu5
      refine Exists.intro _ (And.intro md_o ?_)
      refine And.intro (fun c6 => ?_) (fun c6 => ?_)
      · skip
        refine hC.1 2 47 _ _ rfl _ _ _ _ _ ?_
        refine Exists.intro _ (And.intro md_o (And.intro rfl ?_))
        rw [md_p_nextMany D]
        obtain ⟨v7, ev7⟩ : ∃ z9, z9 = upd v2 2 (0 : Int32) := ⟨_, rfl⟩
        rw [← ev7]
        have ev7_0 : (v7 0).toInt = (v2 0).toInt := by rw [ev7]; rfl
        have ev7_1 : (v7 1).toInt = (v2 1).toInt := by rw [ev7]; rfl
        have ev7_2 : (v7 2).toInt = ((0 : Int32)).toInt := by rw [ev7]; rfl
        have ev7_3 : (v7 3).toInt = (v2 3).toInt := by rw [ev7]; rfl
        have ev7_4 : (v7 4).toInt = (v2 4).toInt := by rw [ev7]; rfl
        have ev7_5 : (v7 5).toInt = (v2 5).toInt := by rw [ev7]; rfl
        have ev7_6 : (v7 6).toInt = (v2 6).toInt := by rw [ev7]; rfl
        have ev7_7 : (v7 7).toInt = (v2 7).toInt := by rw [ev7]; rfl
        have pn_49 : v7 2 = (0 : Int32) := by rw [ev7]; rfl
        have hv8 : md_V v7 := by unfold md_V; omega
        exact ⟨rfl, rfl, v7, f2, rfl, rfl, hv8, hf2, hw2, hr2_0, hr2_1, by first | omega | (dsimp only; omega) | trivial⟩
      · skip
        refine Exists.intro _ (And.intro md_o ?_)
        refine Exists.intro _ (And.intro md_o ?_)
        refine Exists.intro _ (Exists.intro _ (And.intro (Or.inl (md_a_names D)) (And.intro (by omega) ?_)))
        refine Exists.intro _ (Exists.intro _ (And.intro (md_a_oldNames D) (And.intro (by omega) ?_)))
        rw [md_s_oldNames D]
        obtain ⟨f9, ef9⟩ : ∃ z9, z9 = va_up f2 3 (upd (f2 3) (z1_10).toInt.toNat (f2 1 (z1_10).toInt.toNat)) := ⟨_, rfl⟩
        rw [← ef9]
        have hf9 : md_F f9 := by rw [ef9]; exact md_F_st hf2 3 _ _ (md_rng _ _ (by decide))
        have hw9 : f9 2 = f 2 := (show f9 2 = f2 2 by rw [ef9]; rfl).trans hw2
        have hr9_0 : f9 0 = f 0 := (show f9 0 = f2 0 by rw [ef9]; rfl).trans hr2_0
        have hr9_1 : f9 1 = f 1 := (show f9 1 = f2 1 by rw [ef9]; rfl).trans hr2_1
        refine Exists.intro _ (And.intro md_o ?_)
        refine And.intro (Exists.intro _ md_o) (Exists.intro _ (Exists.intro _ (Exists.intro _ (Exists.intro _ (And.intro (c_X11_bondOf D v2 f9 hv2 hf9 z1_10 (by omega)) (And.intro rfl (fun r9 A9 h9 => ?_)))))))
        obtain ⟨y10, rfl, rfl, by10⟩ := h9
        refine Exists.intro _ (Exists.intro _ (And.intro (md_a_oldBonds D) (And.intro (by omega) ?_)))
        rw [md_s_oldBonds D]
        obtain ⟨f11, ef11⟩ : ∃ z9, z9 = va_up f9 4 (upd (f9 4) (z1_10).toInt.toNat y10) := ⟨_, rfl⟩
        rw [← ef11]
        have hf11 : md_F f11 := by rw [ef11]; exact md_F_st hf9 4 _ _ (md_rng _ _ (by decide))
        have hw11 : f11 2 = f 2 := (show f11 2 = f9 2 by rw [ef11]; rfl).trans hw9
        have hr11_0 : f11 0 = f 0 := (show f11 0 = f9 0 by rw [ef11]; rfl).trans hr9_0
        have hr11_1 : f11 1 = f 1 := (show f11 1 = f9 1 by rw [ef11]; rfl).trans hr9_1
        have k1 : (1 : Int32).toInt = 1 := rfl
        intro m12 em_41
        try have e12 : m12.toInt = (z1_10).toInt + (1) := by rw [em_41]; exact pm_addc _ _ (1) rfl (by omega) (by omega)
        exact ih4 m12 v2 f11 hv2 hf11 hw11 hr11_0 hr11_1 (by omega) (by omega) (by omega) (by omega) (by omega) (by omega)
  have hv13 : md_V v1 := by unfold md_V; omega
  exact lp3 (200 - (0 : Int32).toInt).toNat.succ (0 : Int32) v1 f hv13 hf rfl rfl rfl (by omega) (by omega) (by omega) (by omega) (by omega) (by omega)

end
