section
variable {l : Launch} {g : pm_G} {A0 : pm_H} {h : Nat} {q : Nat → Nat}
set_option maxRecDepth 100000 in
set_option maxHeartbeats 2000000 in
theorem V_X11_asked (D : md_D h q) (v : Nat → Int32) (f : Nat → Nat → Int32) (hv : md_V v) (hf : md_F f) (x1 : Int32) (x2 : Int32)  : pm_Mt l g 281 1 0 0 [.ref h, .int x1, .int x2] (md A0 g h q v f) (md_Qp (md A0 g h q v f) (fun r => r = ASD (v 6).toInt x1.toInt x2.toInt (f 7) (f 8) (f 9) (f 10) (f 11))) := by
  refine mt_X11_asked rfl (fun J hC => ?_)
  have hv9 := hv
  unfold md_V at hv9
  have rg_x1 := pm_rng x1
  have rg_x2 := pm_rng x2
  refine hC.1 0 0 _ _ rfl _ _ _ _ _ ?_
  have k0 : (0 : Int32).toInt = 0 := rfl
  refine Exists.intro _ (And.intro md_o ?_)
  have k1 : (1 : Int32).toInt = 1 := rfl
  intro m1 em_7
  try have e1 : m1.toInt = ((v 6)).toInt - (1) := by rw [em_7]; exact pm_subc _ _ (1) rfl (by omega) (by omega)
  refine Exists.intro _ (Exists.intro _ (Exists.intro _ (Exists.intro _ (And.intro (c_X11_isIn (md A0 g h q v f) x1 (0 : Int32) m1 ) (And.intro rfl (fun r9 A9 h9 => ?_))))))
  rcases h9 with ⟨y2, rfl, rfl, ⟨rfl, by2⟩ | ⟨rfl, by2⟩⟩
  · skip
    refine And.intro (fun _ => ?_) (fun c9 => absurd c9 (by decide))
    refine hC.1 1 16 _ _ rfl _ _ _ _ _ ?_
    refine pm_swc 5 rfl (by decide) ?_ ?_
    · intro _
      refine hC.1 7 87 _ _ rfl _ _ _ _ _ ?_
      have km1 : (-1 : Int32).toInt = -1 := rfl
      exact ⟨rfl, fun e9 => absurd e9 (by decide), rfl, (-1 : Int32), rfl, rfl, by first | (exact (ASD_n (by omega)).symm) | (exact (ASD_0 (by omega) (by omega)).symm) | (exact (ASD_1 (by omega) (by omega)).symm) | (exact (ASD_2 (by omega) (by omega)).symm) | (exact (ASD_3 (by omega) (by omega)).symm) | (exact (ASD_4 (by omega) (by omega)).symm) | (exact (ASD_d (by omega)).symm)⟩
    · intro i9 hi9 he9
      rcases (show i9 = 0 ∨ i9 = 1 ∨ i9 = 2 ∨ i9 = 3 ∨ i9 = 4 by omega) with rfl | rfl | rfl | rfl | rfl
      · skip
        refine hC.1 2 52 _ _ rfl _ _ _ _ _ ?_
        refine Exists.intro _ (And.intro md_o ?_)
        refine Exists.intro _ (Exists.intro _ (And.intro (Or.inl (md_a_answerCount D)) (And.intro (by omega) ?_)))
        exact ⟨rfl, fun e9 => absurd e9 (by decide), rfl, (f 9 (x1).toInt.toNat), rfl, rfl, by first | (exact (ASD_n (by omega)).symm) | (exact (ASD_0 (by omega) (by omega)).symm) | (exact (ASD_1 (by omega) (by omega)).symm) | (exact (ASD_2 (by omega) (by omega)).symm) | (exact (ASD_3 (by omega) (by omega)).symm) | (exact (ASD_4 (by omega) (by omega)).symm) | (exact (ASD_d (by omega)).symm)⟩
      · skip
        refine hC.1 3 59 _ _ rfl _ _ _ _ _ ?_
        refine Exists.intro _ (And.intro md_o ?_)
        refine Exists.intro _ (Exists.intro _ (And.intro (Or.inl (md_a_answerWeight D)) (And.intro (by omega) ?_)))
        exact ⟨rfl, fun e9 => absurd e9 (by decide), rfl, (f 10 (x1).toInt.toNat), rfl, rfl, by first | (exact (ASD_n (by omega)).symm) | (exact (ASD_0 (by omega) (by omega)).symm) | (exact (ASD_1 (by omega) (by omega)).symm) | (exact (ASD_2 (by omega) (by omega)).symm) | (exact (ASD_3 (by omega) (by omega)).symm) | (exact (ASD_4 (by omega) (by omega)).symm) | (exact (ASD_d (by omega)).symm)⟩
      · skip
        refine hC.1 4 66 _ _ rfl _ _ _ _ _ ?_
        refine Exists.intro _ (And.intro md_o ?_)
        refine Exists.intro _ (Exists.intro _ (And.intro (Or.inl (md_a_askedOne D)) (And.intro (by omega) ?_)))
        exact ⟨rfl, fun e9 => absurd e9 (by decide), rfl, (f 7 (x1).toInt.toNat), rfl, rfl, by first | (exact (ASD_n (by omega)).symm) | (exact (ASD_0 (by omega) (by omega)).symm) | (exact (ASD_1 (by omega) (by omega)).symm) | (exact (ASD_2 (by omega) (by omega)).symm) | (exact (ASD_3 (by omega) (by omega)).symm) | (exact (ASD_4 (by omega) (by omega)).symm) | (exact (ASD_d (by omega)).symm)⟩
      · skip
        refine hC.1 5 73 _ _ rfl _ _ _ _ _ ?_
        refine Exists.intro _ (And.intro md_o ?_)
        refine Exists.intro _ (Exists.intro _ (And.intro (Or.inl (md_a_askedOther D)) (And.intro (by omega) ?_)))
        exact ⟨rfl, fun e9 => absurd e9 (by decide), rfl, (f 8 (x1).toInt.toNat), rfl, rfl, by first | (exact (ASD_n (by omega)).symm) | (exact (ASD_0 (by omega) (by omega)).symm) | (exact (ASD_1 (by omega) (by omega)).symm) | (exact (ASD_2 (by omega) (by omega)).symm) | (exact (ASD_3 (by omega) (by omega)).symm) | (exact (ASD_4 (by omega) (by omega)).symm) | (exact (ASD_d (by omega)).symm)⟩
      · skip
        refine hC.1 6 80 _ _ rfl _ _ _ _ _ ?_
        refine Exists.intro _ (And.intro md_o ?_)
        refine Exists.intro _ (Exists.intro _ (And.intro (Or.inl (md_a_askedEdit D)) (And.intro (by omega) ?_)))
        exact ⟨rfl, fun e9 => absurd e9 (by decide), rfl, (f 11 (x1).toInt.toNat), rfl, rfl, by first | (exact (ASD_n (by omega)).symm) | (exact (ASD_0 (by omega) (by omega)).symm) | (exact (ASD_1 (by omega) (by omega)).symm) | (exact (ASD_2 (by omega) (by omega)).symm) | (exact (ASD_3 (by omega) (by omega)).symm) | (exact (ASD_4 (by omega) (by omega)).symm) | (exact (ASD_d (by omega)).symm)⟩
  · skip
    refine And.intro (fun c9 => absurd c9 (by decide)) (fun _ => ?_)
    have km1 : (-1 : Int32).toInt = -1 := rfl
    exact ⟨rfl, fun e9 => absurd e9 (by decide), rfl, (-1 : Int32), rfl, rfl, by first | (exact (ASD_n (by omega)).symm) | (exact (ASD_0 (by omega) (by omega)).symm) | (exact (ASD_1 (by omega) (by omega)).symm) | (exact (ASD_2 (by omega) (by omega)).symm) | (exact (ASD_3 (by omega) (by omega)).symm) | (exact (ASD_4 (by omega) (by omega)).symm) | (exact (ASD_d (by omega)).symm)⟩

end
