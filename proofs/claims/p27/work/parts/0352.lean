section
variable {l : Launch} {g : pm_G} {A0 : pm_H} {h : Nat} {q : Nat → Nat}
set_option maxRecDepth 100000 in
set_option maxHeartbeats 2000000 in
theorem F_X11_goOver (D : md_D h q) (v : Nat → Int32) (f : Nat → Nat → Int32) (hv : md_V v) (hf : md_F f) (x1 : Int32) (x2 : Int32) (x3 : Int32) (p0 : -1 ≤ x1.toInt ∧ x1.toInt < (v 0).toInt) : pm_Mt l g 259 2 0 0 [.ref h, .int x1, .int x2, .int x3] (md A0 g h q v f) (md_Qw A0 g h q f (fun r v2 f2 => f2 0 = f 0 ∧ f2 1 = f 1 ∧ (v2 0).toInt = (v 0).toInt ∧ (v2 1).toInt = (v 1).toInt ∧ (v2 2).toInt = (v 2).toInt ∧ (v2 3).toInt = (v 3).toInt ∧ (v2 4).toInt = (v 4).toInt ∧ (v2 6).toInt = (v 6).toInt)) := by
  refine mt_X11_goOver rfl (fun J hC => ?_)
  have hv9 := hv
  unfold md_V at hv9
  have rg_x1 := pm_rng x1
  have rg_x2 := pm_rng x2
  have rg_x3 := pm_rng x3
  refine hC.1 0 0 _ _ rfl _ _ _ _ _ ?_
  have k0 : (0 : Int32).toInt = 0 := rfl
  refine Exists.intro _ (And.intro md_o (And.intro rfl ?_))
  rw [md_p_shelfSet D]
  obtain ⟨v1, ev1⟩ : ∃ z9, z9 = upd v 7 (0 : Int32) := ⟨_, rfl⟩
  rw [← ev1]
  have ev1_0 : (v1 0).toInt = (v 0).toInt := by rw [ev1]; rfl
  have ev1_1 : (v1 1).toInt = (v 1).toInt := by rw [ev1]; rfl
  have ev1_2 : (v1 2).toInt = (v 2).toInt := by rw [ev1]; rfl
  have ev1_3 : (v1 3).toInt = (v 3).toInt := by rw [ev1]; rfl
  have ev1_4 : (v1 4).toInt = (v 4).toInt := by rw [ev1]; rfl
  have ev1_5 : (v1 5).toInt = (v 5).toInt := by rw [ev1]; rfl
  have ev1_6 : (v1 6).toInt = (v 6).toInt := by rw [ev1]; rfl
  have ev1_7 : (v1 7).toInt = ((0 : Int32)).toInt := by rw [ev1]; rfl
  have pn_5 : v1 7 = (0 : Int32) := by rw [ev1]; rfl
  have lp3 : ∀ (n : Nat) (z4_11 : Int32) (z5_11 : Int32) (v2 : Nat → Int32) (f2 : Nat → Nat → Int32), md_V v2 → md_F f2 → f2 2 = f 2 → f2 0 = f 0 → f2 1 = f 1 → (0 ≤ z5_11.toInt ∧ z5_11.toInt ≤ x1.toInt + 1) → (goB (v2 7) (f2 0) z5_11.toInt) → (v2 0).toInt = (v 0).toInt → (v2 1).toInt = (v 1).toInt → (v2 2).toInt = (v 2).toInt → (v2 3).toInt = (v 3).toInt → (v2 4).toInt = (v 4).toInt → (v2 6).toInt = (v 6).toInt → 200 - z5_11.toInt < (n : Int) → J 11 [some (.ref h), some (.int x1), some (.int x2), some (.int x3), some (.int z4_11), some (.int z5_11)] [] (md A0 g h q v2 f2) 0 0 := by
    intro n
    induction n with
    | zero =>
      intro z4_11 z5_11 v2 f2 hv2 hf2 hw2 hr2_0 hr2_1 j0_11 j1_11 j2_11 j3_11 j4_11 j5_11 j6_11 j7_11 j8_11
      omega
    | succ n ih4 =>
      intro z4_11 z5_11 v2 f2 hv2 hf2 hw2 hr2_0 hr2_1 j0_11 j1_11 j2_11 j3_11 j4_11 j5_11 j6_11 j7_11 j8_11
      refine hC.1 1 11 _ _ rfl _ _ _ _ _ ?_
      have hu5 := hv2
      unfold md_V at hu5
      refine And.intro (fun c6 => ?_) (fun c6 => ?_)
      · skip
        refine hC.1 5 96 _ _ rfl _ _ _ _ _ ?_
        exact ⟨rfl, fun e9 => absurd e9 (by decide), rfl, z4_11, v2, f2, rfl, rfl, hv2, hf2, hw2, hr2_0, hr2_1, by first | omega | (dsimp only; omega) | trivial⟩
      · skip
        refine Exists.intro _ (And.intro md_o ?_)
        refine Exists.intro _ (And.intro md_o ?_)
        refine Exists.intro _ (Exists.intro _ (And.intro (Or.inl (md_a_colours D)) (And.intro (by omega) ?_)))
        have w7 : (0 : Int) ≤ (f2 0 (z5_11).toInt.toNat).toInt ∧ (f2 0 (z5_11).toInt.toNat).toInt ≤ (23 : Int) := hf2 0 _
        have k1 : (1 : Int32).toInt = 1 := rfl
        refine And.intro (fun c8 => ?_) (fun c8 => ?_)
        · skip
          have dc8 := pm_neI c8
          refine hC.1 2 38 _ _ rfl _ _ _ _ _ ?_
          intro m9 em_38
          try have e9 : m9.toInt = (z4_11).toInt + (1) := by rw [em_38]; exact pm_addc _ _ (1) rfl (by omega) (by omega)
          refine Exists.intro _ (And.intro md_o ?_)
          refine Exists.intro _ (Exists.intro _ (Exists.intro _ (Exists.intro _ (And.intro (c_X11_bits (md A0 g h q v2 f2) (v2 7) ) (And.intro rfl (fun r9 A9 h9 => ?_))))))
          obtain ⟨y10, rfl, rfl, by10⟩ := h9
          refine And.intro (fun c11 => ?_) (fun c11 => ?_)
          · skip
            have dc11 := pm_neI c11
            refine hC.1 3 72 _ _ rfl _ _ _ _ _ ?_
            refine Exists.intro _ (And.intro md_o ?_)
            refine Exists.intro _ (And.intro md_o ?_)
            refine Exists.intro _ (Exists.intro _ (And.intro (Or.inl (md_a_colours D)) (And.intro (by omega) ?_)))
            have w12 : (0 : Int) ≤ (f2 0 (z5_11).toInt.toNat).toInt ∧ (f2 0 (z5_11).toInt.toNat).toInt ≤ (23 : Int) := hf2 0 _
            refine Exists.intro _ (And.intro md_o (And.intro rfl ?_))
            rw [md_p_shelfSet D]
            obtain ⟨v13, ev13⟩ : ∃ z9, z9 = upd v2 7 ((v2 7) ||| ((1 : Int32) <<< ((f2 0 (z5_11).toInt.toNat) &&& 31))) := ⟨_, rfl⟩
            rw [← ev13]
            have ev13_0 : (v13 0).toInt = (v2 0).toInt := by rw [ev13]; rfl
            have ev13_1 : (v13 1).toInt = (v2 1).toInt := by rw [ev13]; rfl
            have ev13_2 : (v13 2).toInt = (v2 2).toInt := by rw [ev13]; rfl
            have ev13_3 : (v13 3).toInt = (v2 3).toInt := by rw [ev13]; rfl
            have ev13_4 : (v13 4).toInt = (v2 4).toInt := by rw [ev13]; rfl
            have ev13_5 : (v13 5).toInt = (v2 5).toInt := by rw [ev13]; rfl
            have ev13_6 : (v13 6).toInt = (v2 6).toInt := by rw [ev13]; rfl
            have ev13_7 : (v13 7).toInt = (((v2 7) ||| ((1 : Int32) <<< ((f2 0 (z5_11).toInt.toNat) &&& 31)))).toInt := by rw [ev13]; rfl
            have pn_87 : v13 7 = ((v2 7) ||| ((1 : Int32) <<< ((f2 0 (z5_11).toInt.toNat) &&& 31))) := by rw [ev13]; rfl
            refine hC.1 4 90 _ _ rfl _ _ _ _ _ ?_
            intro m14 em_90
            try have e14 : m14.toInt = (z5_11).toInt + (1) := by rw [em_90]; exact pm_addc _ _ (1) rfl (by omega) (by omega)
            have hv15 : md_V v13 := by unfold md_V; omega
            exact ih4 m9 m14 v13 f2 hv15 hf2 hw2 hr2_0 hr2_1 (by omega) (by first | exact go_mono j1_11 (by omega) | (rw [pn_87, pn_69]; exact go_or (go_and j1_11) (by omega) (by omega) rfl (by omega)) | (rw [pn_87]; exact go_or j1_11 (by omega) (by omega) rfl (by omega))) (by omega) (by omega) (by omega) (by omega) (by omega) (by omega) (by omega)
          · skip
            have dc11 : (y10).toInt = (x2 : Int32).toInt := congrArg Int32.toInt c11
            refine Exists.intro _ (And.intro md_o ?_)
            refine And.intro (Exists.intro _ md_o) (Exists.intro _ (Exists.intro _ (Exists.intro _ (Exists.intro _ (And.intro (c_X11_goner D v2 f2 hv2 hf2 z5_11 x3 (by omega) (by exact j1_11)) (And.intro rfl (fun r9 A9 h9 => ?_)))))))
            obtain ⟨y16, rfl, rfl, by16⟩ := h9
            have km1 : (-1 : Int32).toInt = -1 := rfl
            refine Exists.intro _ (And.intro md_o (And.intro rfl ?_))
            rw [md_p_shelfSet D]
            obtain ⟨v17, ev17⟩ : ∃ z9, z9 = upd v2 7 ((v2 7) &&& (((1 : Int32) <<< (y16 &&& 31)) ^^^ (-1 : Int32))) := ⟨_, rfl⟩
            rw [← ev17]
            have ev17_0 : (v17 0).toInt = (v2 0).toInt := by rw [ev17]; rfl
            have ev17_1 : (v17 1).toInt = (v2 1).toInt := by rw [ev17]; rfl
            have ev17_2 : (v17 2).toInt = (v2 2).toInt := by rw [ev17]; rfl
            have ev17_3 : (v17 3).toInt = (v2 3).toInt := by rw [ev17]; rfl
            have ev17_4 : (v17 4).toInt = (v2 4).toInt := by rw [ev17]; rfl
            have ev17_5 : (v17 5).toInt = (v2 5).toInt := by rw [ev17]; rfl
            have ev17_6 : (v17 6).toInt = (v2 6).toInt := by rw [ev17]; rfl
            have ev17_7 : (v17 7).toInt = (((v2 7) &&& (((1 : Int32) <<< (y16 &&& 31)) ^^^ (-1 : Int32)))).toInt := by rw [ev17]; rfl
            have pn_69 : v17 7 = ((v2 7) &&& (((1 : Int32) <<< (y16 &&& 31)) ^^^ (-1 : Int32))) := by rw [ev17]; rfl
            refine hC.1 3 72 _ _ rfl _ _ _ _ _ ?_
            refine Exists.intro _ (And.intro md_o ?_)
            refine Exists.intro _ (And.intro md_o ?_)
            refine Exists.intro _ (Exists.intro _ (And.intro (Or.inl (md_a_colours D)) (And.intro (by omega) ?_)))
            have w18 : (0 : Int) ≤ (f2 0 (z5_11).toInt.toNat).toInt ∧ (f2 0 (z5_11).toInt.toNat).toInt ≤ (23 : Int) := hf2 0 _
            refine Exists.intro _ (And.intro md_o (And.intro rfl ?_))
            rw [md_p_shelfSet D]
            obtain ⟨v19, ev19⟩ : ∃ z9, z9 = upd v17 7 ((v17 7) ||| ((1 : Int32) <<< ((f2 0 (z5_11).toInt.toNat) &&& 31))) := ⟨_, rfl⟩
            rw [← ev19]
            have ev19_0 : (v19 0).toInt = (v17 0).toInt := by rw [ev19]; rfl
            have ev19_1 : (v19 1).toInt = (v17 1).toInt := by rw [ev19]; rfl
            have ev19_2 : (v19 2).toInt = (v17 2).toInt := by rw [ev19]; rfl
            have ev19_3 : (v19 3).toInt = (v17 3).toInt := by rw [ev19]; rfl
            have ev19_4 : (v19 4).toInt = (v17 4).toInt := by rw [ev19]; rfl
            have ev19_5 : (v19 5).toInt = (v17 5).toInt := by rw [ev19]; rfl
            have ev19_6 : (v19 6).toInt = (v17 6).toInt := by rw [ev19]; rfl
            have ev19_7 : (v19 7).toInt = (((v17 7) ||| ((1 : Int32) <<< ((f2 0 (z5_11).toInt.toNat) &&& 31)))).toInt := by rw [ev19]; rfl
            have pn_87 : v19 7 = ((v17 7) ||| ((1 : Int32) <<< ((f2 0 (z5_11).toInt.toNat) &&& 31))) := by rw [ev19]; rfl
            refine hC.1 4 90 _ _ rfl _ _ _ _ _ ?_
            intro m20 em_90
            try have e20 : m20.toInt = (z5_11).toInt + (1) := by rw [em_90]; exact pm_addc _ _ (1) rfl (by omega) (by omega)
            have hv21 : md_V v19 := by unfold md_V; omega
            exact ih4 m9 m20 v19 f2 hv21 hf2 hw2 hr2_0 hr2_1 (by omega) (by first | exact go_mono j1_11 (by omega) | (rw [pn_87, pn_69]; exact go_or (go_and j1_11) (by omega) (by omega) rfl (by omega)) | (rw [pn_87]; exact go_or j1_11 (by omega) (by omega) rfl (by omega))) (by omega) (by omega) (by omega) (by omega) (by omega) (by omega) (by omega)
        · skip
          have dc8 : ((((v2 7) >>> ((f2 0 (z5_11).toInt.toNat) &&& 31)) &&& (1 : Int32))).toInt = ((1 : Int32) : Int32).toInt := congrArg Int32.toInt c8
          refine hC.1 4 90 _ _ rfl _ _ _ _ _ ?_
          intro m22 em_90
          try have e22 : m22.toInt = (z5_11).toInt + (1) := by rw [em_90]; exact pm_addc _ _ (1) rfl (by omega) (by omega)
          exact ih4 z4_11 m22 v2 f2 hv2 hf2 hw2 hr2_0 hr2_1 (by omega) (by first | exact go_mono j1_11 (by omega) | (rw [pn_87, pn_69]; exact go_or (go_and j1_11) (by omega) (by omega) rfl (by omega)) | (rw [pn_87]; exact go_or j1_11 (by omega) (by omega) rfl (by omega))) (by omega) (by omega) (by omega) (by omega) (by omega) (by omega) (by omega)
  have hv23 : md_V v1 := by unfold md_V; omega
  exact lp3 (200 - (0 : Int32).toInt).toNat.succ (0 : Int32) (0 : Int32) v1 f hv23 hf rfl rfl rfl (by omega) (by rw [pn_5]; exact go_0 _ _) (by omega) (by omega) (by omega) (by omega) (by omega) (by omega) (by omega)

end
