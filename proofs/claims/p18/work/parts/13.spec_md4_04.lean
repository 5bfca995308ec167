section
variable {l : Launch} {g : pm_G} {A0 : pm_H} {h : Nat} {q : Nat → Nat}
set_option maxRecDepth 100000 in
set_option maxHeartbeats 2000000 in
theorem c_X11_lastAhead (D : md_D h q) (v : Nat → Int32) (f : Nat → Nat → Int32) (hv : md_V v) (hf : md_F f) (x1 : Int32) (x2 : Int32) (p0 : ∃ k9 : Nat, (k9 : Int) < x2.toInt ∧ f 0 k9 = x1) (p1 : x2.toInt ≤ 160) : pm_Mt l g 261 0 0 0 [.ref h, .int x1, .int x2] (md A0 g h q v f) (md_Qp (md A0 g h q v f) (fun r => True)) := by
  refine mt_X11_lastAhead rfl (fun J hC => ?_)
  have hv9 := hv
  unfold md_V at hv9
  have rg_x1 := pm_rng x1
  have rg_x2 := pm_rng x2
  obtain ⟨k8, hk8, he8⟩ := p0
  refine hC.1 0 0 _ _ rfl _ _ _ _ _ ?_
  have k1 : (1 : Int32).toInt = 1 := rfl
  intro m1 em_2
  try have e1 : m1.toInt = (x2).toInt - (1) := by rw [em_2]; exact pm_subc _ _ (1) rfl (by omega) (by omega)
  have lp2 : ∀ (n : Nat) (z3_4 : Int32), (z3_4.toInt < x2.toInt) → (∃ k9 : Nat, (k9 : Int) ≤ z3_4.toInt ∧ f 0 k9 = x1) → z3_4.toInt + 1 < (n : Int) → J 4 [some (.ref h), some (.int x1), some (.int x2), some (.int z3_4)] [] (md A0 g h q v f) 0 0 := by
    intro n
    induction n with
    | zero =>
      intro z3_4 j0_4 j1_4 j2_4
      obtain ⟨k7, hk7, he7⟩ := j1_4; omega
    | succ n ih3 =>
      intro z3_4 j0_4 j1_4 j2_4
      obtain ⟨k7, hk7, he7⟩ := j1_4
      refine hC.1 1 4 _ _ rfl _ _ _ _ _ ?_
      refine Exists.intro _ (And.intro md_o ?_)
      refine Exists.intro _ (Exists.intro _ (And.intro (Or.inl (md_a_colours D)) (And.intro (by omega) ?_)))
      have w4 : (0 : Int) ≤ (f 0 (z3_4).toInt.toNat).toInt ∧ (f 0 (z3_4).toInt.toNat).toInt ≤ (23 : Int) := hf 0 _
      refine And.intro (fun c5 => ?_) (fun c5 => ?_)
      · skip
        have dc5 : ((f 0 (z3_4).toInt.toNat)).toInt = (x1 : Int32).toInt := congrArg Int32.toInt c5
        refine hC.1 2 20 _ _ rfl _ _ _ _ _ ?_
        exact ⟨rfl, fun e9 => absurd e9 (by decide), rfl, z3_4, rfl, rfl, by first | trivial | omega | (dsimp only; omega)⟩
      · skip
        have dc5 := pm_neI c5
        have km1 : (-1 : Int32).toInt = -1 := rfl
        intro m6 em_14
        try have e6 : m6.toInt = (z3_4).toInt + (-1) := by rw [em_14]; exact pm_addc _ _ (-1) rfl (by omega) (by omega)
        exact ih3 m6 (by omega) (by have h9 : k7 ≠ z3_4.toInt.toNat := fun e9 => absurd he7 (by rw [e9]; assumption); exact ⟨k7, by omega, he7⟩) (by omega)
  exact lp2 (m1.toInt + 1).toNat.succ m1 (by omega) (by exact ⟨k8, by omega, he8⟩) (by omega)

set_option maxRecDepth 100000 in
set_option maxHeartbeats 2000000 in
theorem c_X11_goner (D : md_D h q) (v : Nat → Int32) (f : Nat → Nat → Int32) (hv : md_V v) (hf : md_F f) (x1 : Int32) (x2 : Int32) (p0 : 0 ≤ x1.toInt ∧ x1.toInt ≤ 160) (p1 : goB (v 7) (f 0) x1.toInt) : pm_Mt l g 260 1 0 0 [.ref h, .int x1, .int x2] (md A0 g h q v f) (md_Qp (md A0 g h q v f) (fun r => True)) := by
  refine mt_X11_goner rfl (fun J hC => ?_)
  have hv9 := hv
  unfold md_V at hv9
  have rg_x1 := pm_rng x1
  have rg_x2 := pm_rng x2
  refine hC.1 0 0 _ _ rfl _ _ _ _ _ ?_
  have km1 : (-1 : Int32).toInt = -1 := rfl
  have k0 : (0 : Int32).toInt = 0 := rfl
  have lp1 : ∀ (n : Nat) (z3_8 : Int32) (z4_8 : Int32) (z5_8 : Int32), (0 ≤ z5_8.toInt ∧ z5_8.toInt ≤ 24) → 200 - z5_8.toInt < (n : Int) → J 8 [some (.ref h), some (.int x1), some (.int x2), some (.int z3_8), some (.int z4_8), some (.int z5_8), none] [] (md A0 g h q v f) 0 0 := by
    intro n
    induction n with
    | zero =>
      intro z3_8 z4_8 z5_8 j0_8 j1_8
      omega
    | succ n ih2 =>
      intro z3_8 z4_8 z5_8 j0_8 j1_8
      refine hC.1 1 8 _ _ rfl _ _ _ _ _ ?_
      have k24 : (24 : Int32).toInt = 24 := rfl
      refine And.intro (fun c3 => ?_) (fun c3 => ?_)
      · skip
        refine hC.1 7 78 _ _ rfl _ _ _ _ _ ?_
        exact ⟨rfl, fun e9 => absurd e9 (by decide), rfl, z3_8, rfl, rfl, by first | trivial | omega | (dsimp only; omega)⟩
      · skip
        refine Exists.intro _ (And.intro md_o ?_)
        have k1 : (1 : Int32).toInt = 1 := rfl
        refine And.intro (fun c4 => ?_) (fun c4 => ?_)
        · skip
          have dc4 := pm_neI c4
          refine hC.1 2 30 _ _ rfl _ _ _ _ _ ?_
          refine And.intro (fun c5 => ?_) (fun c5 => ?_)
          · skip
            have dc5 := pm_neI c5
            refine hC.1 3 46 _ _ rfl _ _ _ _ _ ?_
            refine And.intro (Exists.intro _ md_o) (Exists.intro _ (Exists.intro _ (Exists.intro _ (Exists.intro _ (And.intro (c_X11_nextBehind D v f hv hf z5_8 x1 (by omega)) (And.intro rfl (fun r9 A9 h9 => ?_)))))))
            obtain ⟨y6, rfl, rfl, by6⟩ := h9
            refine hC.1 4 53 _ _ rfl _ _ _ _ _ ?_
            refine And.intro (fun c7 => ?_) (fun c7 => ?_)
            · skip
              refine hC.1 5 65 _ _ rfl _ _ _ _ _ ?_
              refine hC.1 6 72 _ _ rfl _ _ _ _ _ ?_
              intro m8 em_72
              try have e8 : m8.toInt = (z5_8).toInt + (1) := by rw [em_72]; exact pm_addc _ _ (1) rfl (by omega) (by omega)
              exact hC.2 [false, false, false, false, false, false, true] _ _ _ _ _ _ (ih2 z5_8 y6 m8 (by omega) (by omega))
            · skip
              refine hC.1 6 72 _ _ rfl _ _ _ _ _ ?_
              intro m9 em_72
              try have e9 : m9.toInt = (z5_8).toInt + (1) := by rw [em_72]; exact pm_addc _ _ (1) rfl (by omega) (by omega)
              exact hC.2 [false, false, false, false, false, false, true] _ _ _ _ _ _ (ih2 z3_8 z4_8 m9 (by omega) (by omega))
          · skip
            have dc5 : (x2).toInt = (0 : Int32).toInt := congrArg Int32.toInt c5
            refine And.intro (Exists.intro _ md_o) (Exists.intro _ (Exists.intro _ (Exists.intro _ (Exists.intro _ (And.intro (c_X11_lastAhead D v f hv hf z5_8 x1 (by exact p1 _ (by omega) (by assumption)) (by omega)) (And.intro rfl (fun r9 A9 h9 => ?_)))))))
            obtain ⟨y10, rfl, rfl, by10⟩ := h9
            intro m11 em_42
            try have e11 : m11.toInt = (x1).toInt - (y10).toInt := by rw [em_42]; exact pm_sub _ _ (by omega) (by omega)
            refine hC.1 4 53 _ _ rfl _ _ _ _ _ ?_
            refine And.intro (fun c12 => ?_) (fun c12 => ?_)
            · skip
              refine hC.1 5 65 _ _ rfl _ _ _ _ _ ?_
              refine hC.1 6 72 _ _ rfl _ _ _ _ _ ?_
              intro m13 em_72
              try have e13 : m13.toInt = (z5_8).toInt + (1) := by rw [em_72]; exact pm_addc _ _ (1) rfl (by omega) (by omega)
              exact hC.2 [false, false, false, false, false, false, true] _ _ _ _ _ _ (ih2 z5_8 m11 m13 (by omega) (by omega))
            · skip
              refine hC.1 6 72 _ _ rfl _ _ _ _ _ ?_
              intro m14 em_72
              try have e14 : m14.toInt = (z5_8).toInt + (1) := by rw [em_72]; exact pm_addc _ _ (1) rfl (by omega) (by omega)
              exact hC.2 [false, false, false, false, false, false, true] _ _ _ _ _ _ (ih2 z3_8 z4_8 m14 (by omega) (by omega))
        · skip
          have dc4 : ((((v 7) >>> (z5_8 &&& 31)) &&& (1 : Int32))).toInt = (0 : Int32).toInt := congrArg Int32.toInt c4
          refine hC.1 6 72 _ _ rfl _ _ _ _ _ ?_
          intro m15 em_72
          try have e15 : m15.toInt = (z5_8).toInt + (1) := by rw [em_72]; exact pm_addc _ _ (1) rfl (by omega) (by omega)
          exact ih2 z3_8 z4_8 m15 (by omega) (by omega)
  exact lp1 (200 - (0 : Int32).toInt).toNat.succ (-1 : Int32) (-1 : Int32) (0 : Int32) (by omega) (by omega)

set_option maxRecDepth 100000 in
set_option maxHeartbeats 2000000 in
theorem c_X11_goOver (D : md_D h q) (v : Nat → Int32) (f : Nat → Nat → Int32) (hv : md_V v) (hf : md_F f) (x1 : Int32) (x2 : Int32) (x3 : Int32) (p0 : -1 ≤ x1.toInt ∧ x1.toInt < (v 0).toInt) : pm_Mt l g 259 2 0 0 [.ref h, .int x1, .int x2, .int x3] (md A0 g h q v f) (md_Qw A0 g h q f (fun r v2 f2 => f2 0 = f 0 ∧ (v2 0).toInt = (v 0).toInt ∧ (v2 1).toInt = (v 1).toInt ∧ (v2 2).toInt = (v 2).toInt ∧ (v2 3).toInt = (v 3).toInt ∧ (v2 4).toInt = (v 4).toInt ∧ (v2 6).toInt = (v 6).toInt)) := by
  refine mt_X11_goOver rfl (fun J hC => ?_)
  have hv9 := hv
  unfold md_V at hv9
  have rg_x1 := pm_rng x1
  have rg_x2 := pm_rng x2
  have rg_x3 := pm_rng x3
  refine hC.1 0 0 _ _ rfl _ _ _ _ _ ?_
  have k0 : (0 : Int32).toInt = 0 := rfl
  refine Exists.intro _ (And.intro md_o (And.intro rfl ?_))
  rw [md_p_shelfSet D]
  obtain ⟨v1, ev1⟩ : ∃ z9, z9 = upd v 7 (0 : Int32) := ⟨_, rfl⟩
  rw [← ev1]
  have ev1_0 : (v1 0).toInt = (v 0).toInt := by rw [ev1]; rfl
  have ev1_1 : (v1 1).toInt = (v 1).toInt := by rw [ev1]; rfl
  have ev1_2 : (v1 2).toInt = (v 2).toInt := by rw [ev1]; rfl
  have ev1_3 : (v1 3).toInt = (v 3).toInt := by rw [ev1]; rfl
  have ev1_4 : (v1 4).toInt = (v 4).toInt := by rw [ev1]; rfl
  have ev1_5 : (v1 5).toInt = (v 5).toInt := by rw [ev1]; rfl
  have ev1_6 : (v1 6).toInt = (v 6).toInt := by rw [ev1]; rfl
  have ev1_7 : (v1 7).toInt = ((0 : Int32)).toInt := by rw [ev1]; rfl
  have pn_5 : v1 7 = (0 : Int32) := by rw [ev1]; rfl
  have lp3 : ∀ (n : Nat) (z4_11 : Int32) (z5_11 : Int32) (v2 : Nat → Int32) (f2 : Nat → Nat → Int32), md_V v2 → md_F f2 → f2 2 = f 2 → f2 0 = f 0 → (0 ≤ z5_11.toInt ∧ z5_11.toInt ≤ x1.toInt + 1) → (goB (v2 7) (f2 0) z5_11.toInt) → (v2 0).toInt = (v 0).toInt → (v2 1).toInt = (v 1).toInt → (v2 2).toInt = (v 2).toInt → (v2 3).toInt = (v 3).toInt → (v2 4).toInt = (v 4).toInt → (v2 6).toInt = (v 6).toInt → 200 - z5_11.toInt < (n : Int) → J 11 [some (.ref h), some (.int x1), some (.int x2), some (.int x3), some (.int z4_11), some (.int z5_11)] [] (md A0 g h q v2 f2) 0 0 := by
    intro n
    induction n with
    | zero =>
      intro z4_11 z5_11 v2 f2 hv2 hf2 hw2 hr2_0 j0_11 j1_11 j2_11 j3_11 j4_11 j5_11 j6_11 j7_11 j8_11
      omega
    | succ n ih4 =>
      intro z4_11 z5_11 v2 f2 hv2 hf2 hw2 hr2_0 j0_11 j1_11 j2_11 j3_11 j4_11 j5_11 j6_11 j7_11 j8_11
      refine hC.1 1 11 _ _ rfl _ _ _ _ _ ?_
      have hu5 := hv2
      unfold md_V at hu5
      refine And.intro (fun c6 => ?_) (fun c6 => ?_)
      · skip
        refine hC.1 5 96 _ _ rfl _ _ _ _ _ ?_
        exact ⟨rfl, fun e9 => absurd e9 (by decide), rfl, z4_11, v2, f2, rfl, rfl, hv2, hf2, hw2, hr2_0, by first | trivial | omega | (dsimp only; omega)⟩
      · skip
        refine Exists.intro _ (And.intro md_o ?_)
        refine Exists.intro _ (And.intro md_o ?_)
        refine Exists.intro _ (Exists.intro _ (And.intro (Or.inl (md_a_colours D)) (And.intro (by omega) ?_)))
        have w7 : (0 : Int) ≤ (f2 0 (z5_11).toInt.toNat).toInt ∧ (f2 0 (z5_11).toInt.toNat).toInt ≤ (23 : Int) := hf2 0 _
        have k1 : (1 : Int32).toInt = 1 := rfl
        refine And.intro (fun c8 => ?_) (fun c8 => ?_)
        · skip
          have dc8 := pm_neI c8
          refine hC.1 2 38 _ _ rfl _ _ _ _ _ ?_
          intro m9 em_38
          try have e9 : m9.toInt = (z4_11).toInt + (1) := by rw [em_38]; exact pm_addc _ _ (1) rfl (by omega) (by omega)
          refine Exists.intro _ (And.intro md_o ?_)
          refine Exists.intro _ (Exists.intro _ (Exists.intro _ (Exists.intro _ (And.intro (c_X11_bits (md A0 g h q v2 f2) (v2 7) ) (And.intro rfl (fun r9 A9 h9 => ?_))))))
          obtain ⟨y10, rfl, rfl, by10⟩ := h9
          refine And.intro (fun c11 => ?_) (fun c11 => ?_)
          · skip
            have dc11 := pm_neI c11
            refine hC.1 3 72 _ _ rfl _ _ _ _ _ ?_
            refine Exists.intro _ (And.intro md_o ?_)
            refine Exists.intro _ (And.intro md_o ?_)
            refine Exists.intro _ (Exists.intro _ (And.intro (Or.inl (md_a_colours D)) (And.intro (by omega) ?_)))
            have w12 : (0 : Int) ≤ (f2 0 (z5_11).toInt.toNat).toInt ∧ (f2 0 (z5_11).toInt.toNat).toInt ≤ (23 : Int) := hf2 0 _
            refine Exists.intro _ (And.intro md_o (And.intro rfl ?_))
            rw [md_p_shelfSet D]
            obtain ⟨v13, ev13⟩ : ∃ z9, z9 = upd v2 7 ((v2 7) ||| ((1 : Int32) <<< ((f2 0 (z5_11).toInt.toNat) &&& 31))) := ⟨_, rfl⟩
            rw [← ev13]
            have ev13_0 : (v13 0).toInt = (v2 0).toInt := by rw [ev13]; rfl
            have ev13_1 : (v13 1).toInt = (v2 1).toInt := by rw [ev13]; rfl
            have ev13_2 : (v13 2).toInt = (v2 2).toInt := by rw [ev13]; rfl
            have ev13_3 : (v13 3).toInt = (v2 3).toInt := by rw [ev13]; rfl
            have ev13_4 : (v13 4).toInt = (v2 4).toInt := by rw [ev13]; rfl
            have ev13_5 : (v13 5).toInt = (v2 5).toInt := by rw [ev13]; rfl
            have ev13_6 : (v13 6).toInt = (v2 6).toInt := by rw [ev13]; rfl
            have ev13_7 : (v13 7).toInt = (((v2 7) ||| ((1 : Int32) <<< ((f2 0 (z5_11).toInt.toNat) &&& 31)))).toInt := by rw [ev13]; rfl
            have pn_87 : v13 7 = ((v2 7) ||| ((1 : Int32) <<< ((f2 0 (z5_11).toInt.toNat) &&& 31))) := by rw [ev13]; rfl
            refine hC.1 4 90 _ _ rfl _ _ _ _ _ ?_
            intro m14 em_90
            try have e14 : m14.toInt = (z5_11).toInt + (1) := by rw [em_90]; exact pm_addc _ _ (1) rfl (by omega) (by omega)
            have hv15 : md_V v13 := by unfold md_V; omega
            exact ih4 m9 m14 v13 f2 hv15 hf2 hw2 hr2_0 (by omega) (by first | exact go_mono j1_11 (by omega) | (rw [pn_87, pn_69]; exact go_or (go_and j1_11) (by omega) (by omega) rfl (by omega)) | (rw [pn_87]; exact go_or j1_11 (by omega) (by omega) rfl (by omega))) (by omega) (by omega) (by omega) (by omega) (by omega) (by omega) (by omega)
          · skip
            have dc11 : (y10).toInt = (x2 : Int32).toInt := congrArg Int32.toInt c11
            refine Exists.intro _ (And.intro md_o ?_)
            refine And.intro (Exists.intro _ md_o) (Exists.intro _ (Exists.intro _ (Exists.intro _ (Exists.intro _ (And.intro (c_X11_goner D v2 f2 hv2 hf2 z5_11 x3 (by omega) (by exact j1_11)) (And.intro rfl (fun r9 A9 h9 => ?_)))))))
            obtain ⟨y16, rfl, rfl, by16⟩ := h9
            have km1 : (-1 : Int32).toInt = -1 := rfl
            refine Exists.intro _ (And.intro md_o (And.intro rfl ?_))
            rw [md_p_shelfSet D]
            obtain ⟨v17, ev17⟩ : ∃ z9, z9 = upd v2 7 ((v2 7) &&& (((1 : Int32) <<< (y16 &&& 31)) ^^^ (-1 : Int32))) := ⟨_, rfl⟩
            rw [← ev17]
            have ev17_0 : (v17 0).toInt = (v2 0).toInt := by rw [ev17]; rfl
            have ev17_1 : (v17 1).toInt = (v2 1).toInt := by rw [ev17]; rfl
            have ev17_2 : (v17 2).toInt = (v2 2).toInt := by rw [ev17]; rfl
            have ev17_3 : (v17 3).toInt = (v2 3).toInt := by rw [ev17]; rfl
            have ev17_4 : (v17 4).toInt = (v2 4).toInt := by rw [ev17]; rfl
            have ev17_5 : (v17 5).toInt = (v2 5).toInt := by rw [ev17]; rfl
            have ev17_6 : (v17 6).toInt = (v2 6).toInt := by rw [ev17]; rfl
            have ev17_7 : (v17 7).toInt = (((v2 7) &&& (((1 : Int32) <<< (y16 &&& 31)) ^^^ (-1 : Int32)))).toInt := by rw [ev17]; rfl
            have pn_69 : v17 7 = ((v2 7) &&& (((1 : Int32) <<< (y16 &&& 31)) ^^^ (-1 : Int32))) := by rw [ev17]; rfl
            refine hC.1 3 72 _ _ rfl _ _ _ _ _ ?_
            refine Exists.intro _ (And.intro md_o ?_)
            refine Exists.intro _ (And.intro md_o ?_)
            refine Exists.intro _ (Exists.intro _ (And.intro (Or.inl (md_a_colours D)) (And.intro (by omega) ?_)))
            have w18 : (0 : Int) ≤ (f2 0 (z5_11).toInt.toNat).toInt ∧ (f2 0 (z5_11).toInt.toNat).toInt ≤ (23 : Int) := hf2 0 _
            refine Exists.intro _ (And.intro md_o (And.intro rfl ?_))
            rw [md_p_shelfSet D]
            obtain ⟨v19, ev19⟩ : ∃ z9, z9 = upd v17 7 ((v17 7) ||| ((1 : Int32) <<< ((f2 0 (z5_11).toInt.toNat) &&& 31))) := ⟨_, rfl⟩
            rw [← ev19]
            have ev19_0 : (v19 0).toInt = (v17 0).toInt := by rw [ev19]; rfl
            have ev19_1 : (v19 1).toInt = (v17 1).toInt := by rw [ev19]; rfl
            have ev19_2 : (v19 2).toInt = (v17 2).toInt := by rw [ev19]; rfl
            have ev19_3 : (v19 3).toInt = (v17 3).toInt := by rw [ev19]; rfl
            have ev19_4 : (v19 4).toInt = (v17 4).toInt := by rw [ev19]; rfl
            have ev19_5 : (v19 5).toInt = (v17 5).toInt := by rw [ev19]; rfl
            have ev19_6 : (v19 6).toInt = (v17 6).toInt := by rw [ev19]; rfl
            have ev19_7 : (v19 7).toInt = (((v17 7) ||| ((1 : Int32) <<< ((f2 0 (z5_11).toInt.toNat) &&& 31)))).toInt := by rw [ev19]; rfl
            have pn_87 : v19 7 = ((v17 7) ||| ((1 : Int32) <<< ((f2 0 (z5_11).toInt.toNat) &&& 31))) := by rw [ev19]; rfl
            refine hC.1 4 90 _ _ rfl _ _ _ _ _ ?_
            intro m20 em_90
            try have e20 : m20.toInt = (z5_11).toInt + (1) := by rw [em_90]; exact pm_addc _ _ (1) rfl (by omega) (by omega)
            have hv21 : md_V v19 := by unfold md_V; omega
            exact ih4 m9 m20 v19 f2 hv21 hf2 hw2 hr2_0 (by omega) (by first | exact go_mono j1_11 (by omega) | (rw [pn_87, pn_69]; exact go_or (go_and j1_11) (by omega) (by omega) rfl (by omega)) | (rw [pn_87]; exact go_or j1_11 (by omega) (by omega) rfl (by omega))) (by omega) (by omega) (by omega) (by omega) (by omega) (by omega) (by omega)
        · skip
          have dc8 : ((((v2 7) >>> ((f2 0 (z5_11).toInt.toNat) &&& 31)) &&& (1 : Int32))).toInt = ((1 : Int32) : Int32).toInt := congrArg Int32.toInt c8
          refine hC.1 4 90 _ _ rfl _ _ _ _ _ ?_
          intro m22 em_90
          try have e22 : m22.toInt = (z5_11).toInt + (1) := by rw [em_90]; exact pm_addc _ _ (1) rfl (by omega) (by omega)
          exact ih4 z4_11 m22 v2 f2 hv2 hf2 hw2 hr2_0 (by omega) (by first | exact go_mono j1_11 (by omega) | (rw [pn_87, pn_69]; exact go_or (go_and j1_11) (by omega) (by omega) rfl (by omega)) | (rw [pn_87]; exact go_or j1_11 (by omega) (by omega) rfl (by omega))) (by omega) (by omega) (by omega) (by omega) (by omega) (by omega) (by omega)
  have hv23 : md_V v1 := by unfold md_V; omega
  exact lp3 (200 - (0 : Int32).toInt).toNat.succ (0 : Int32) (0 : Int32) v1 f hv23 hf rfl rfl (by omega) (by rw [pn_5]; exact go_0 _ _) (by omega) (by omega) (by omega) (by omega) (by omega) (by omega) (by omega)

set_option maxRecDepth 100000 in
set_option maxHeartbeats 2000000 in
theorem c_X11_misses (D : md_D h q) (v : Nat → Int32) (f : Nat → Nat → Int32) (hv : md_V v) (hf : md_F f) (x1 : Int32) (x2 : Int32)  : pm_Mt l g 257 3 0 0 [.ref h, .int x1, .int x2] (md A0 g h q v f) (md_Qw A0 g h q f (fun r v2 f2 => (v2 0).toInt = (v 0).toInt ∧ (v2 1).toInt = (v 1).toInt ∧ (v2 2).toInt = (v 2).toInt ∧ (v2 3).toInt = (v 3).toInt ∧ (v2 4).toInt = (v 4).toInt ∧ (v2 6).toInt = (v 6).toInt)) := by
  refine mt_X11_misses rfl (fun J hC => ?_)
  have hv9 := hv
  unfold md_V at hv9
  have rg_x1 := pm_rng x1
  have rg_x2 := pm_rng x2
  refine hC.1 0 0 _ _ rfl _ _ _ _ _ ?_
  refine Exists.intro _ (Exists.intro _ (Exists.intro _ (Exists.intro _ (And.intro (c_X11_isShelf (md A0 g h q v f) x1 x2 ) (And.intro rfl (fun r9 A9 h9 => ?_))))))
  rcases h9 with ⟨y1, rfl, rfl, ⟨rfl, by1⟩ | ⟨rfl, by1⟩⟩
  · skip
    have k1 : (1 : Int32).toInt = 1 := rfl
    refine And.intro (fun c9 => absurd c9 (by decide)) (fun _ => ?_)
    refine Exists.intro _ (And.intro md_o ?_)
    intro m2 em_14
    try have e2 : m2.toInt = ((v 0)).toInt - (1) := by rw [em_14]; exact pm_subc _ _ (1) rfl (by omega) (by omega)
    refine And.intro (Exists.intro _ md_o) (Exists.intro _ (Exists.intro _ (Exists.intro _ (Exists.intro _ (And.intro (c_X11_goOver D v f hv hf m2 x1 x2 (by omega)) (And.intro rfl (fun r9 A9 h9 => ?_)))))))
    obtain ⟨y3, v4, f4, rfl, rfl, hv4, hf4, hx4, hg4_0, by3⟩ := h9
    have hw4 : f4 2 = f 2 := hx4.trans rfl
    have hu5 := hv4
    unfold md_V at hu5
    refine hC.1 2 24 _ _ rfl _ _ _ _ _ ?_
    exact ⟨rfl, fun e9 => absurd e9 (by decide), rfl, y3, v4, f4, rfl, rfl, hv4, hf4, hw4, by first | trivial | omega | (dsimp only; omega)⟩
  · skip
    have k0 : (0 : Int32).toInt = 0 := rfl
    refine And.intro (fun _ => ?_) (fun c9 => absurd c9 (by decide))
    refine hC.1 1 23 _ _ rfl _ _ _ _ _ ?_
    have km1 : (-1 : Int32).toInt = -1 := rfl
    refine hC.1 2 24 _ _ rfl _ _ _ _ _ ?_
    exact ⟨rfl, fun e9 => absurd e9 (by decide), rfl, (-1 : Int32), v, f, rfl, rfl, hv, hf, rfl, by first | trivial | omega | (dsimp only; omega)⟩

set_option maxRecDepth 100000 in
set_option maxHeartbeats 2000000 in
theorem c_X11_shelf (D : md_D h q) (v : Nat → Int32) (f : Nat → Nat → Int32) (hv : md_V v) (hf : md_F f) (x1 : Int32) (x2 : Int32) (x3 : Int32)  : pm_Mt l g 262 3 0 0 [.ref h, .int x1, .int x2, .int x3] (md A0 g h q v f) (md_Qw A0 g h q f (fun r v2 f2 => (v2 0).toInt = (v 0).toInt ∧ (v2 1).toInt = (v 1).toInt ∧ (v2 2).toInt = (v 2).toInt ∧ (v2 3).toInt = (v 3).toInt ∧ (v2 4).toInt = (v 4).toInt ∧ (v2 6).toInt = (v 6).toInt)) := by
  refine mt_X11_shelf rfl (fun J hC => ?_)
  have hv9 := hv
  unfold md_V at hv9
  have rg_x1 := pm_rng x1
  have rg_x2 := pm_rng x2
  have rg_x3 := pm_rng x3
  refine hC.1 0 0 _ _ rfl _ _ _ _ _ ?_
  refine And.intro (Exists.intro _ md_o) (Exists.intro _ (Exists.intro _ (Exists.intro _ (Exists.intro _ (And.intro (c_X11_isPlace D v f hv hf x1 ) (And.intro rfl (fun r9 A9 h9 => ?_)))))))
  rcases h9 with ⟨y1, rfl, rfl, ⟨rfl, by1⟩ | ⟨rfl, by1⟩⟩
  · skip
    have k1 : (1 : Int32).toInt = 1 := rfl
    refine And.intro (fun c9 => absurd c9 (by decide)) (fun _ => ?_)
    refine Exists.intro _ (Exists.intro _ (Exists.intro _ (Exists.intro _ (And.intro (c_X11_isShelf (md A0 g h q v f) x2 x3 ) (And.intro rfl (fun r9 A9 h9 => ?_))))))
    rcases h9 with ⟨y2, rfl, rfl, ⟨rfl, by2⟩ | ⟨rfl, by2⟩⟩
    · skip
      refine And.intro (fun _ => ?_) (fun c9 => absurd c9 (by decide))
      refine hC.1 2 18 _ _ rfl _ _ _ _ _ ?_
      refine And.intro (Exists.intro _ md_o) (Exists.intro _ (Exists.intro _ (Exists.intro _ (Exists.intro _ (And.intro (c_X11_goOver D v f hv hf x1 x2 x3 (by omega)) (And.intro rfl (fun r9 A9 h9 => ?_)))))))
      obtain ⟨y3, v4, f4, rfl, rfl, hv4, hf4, hx4, hg4_0, by3⟩ := h9
      have hw4 : f4 2 = f 2 := hx4.trans rfl
      have hu5 := hv4
      unfold md_V at hu5
      refine And.intro (fun c6 => ?_) (fun c6 => ?_)
      · skip
        refine hC.1 3 36 _ _ rfl _ _ _ _ _ ?_
        refine Exists.intro _ (And.intro md_o ?_)
        refine hC.1 4 40 _ _ rfl _ _ _ _ _ ?_
        exact ⟨rfl, fun e9 => absurd e9 (by decide), rfl, (v4 7), v4, f4, rfl, rfl, hv4, hf4, hw4, by first | trivial | omega | (dsimp only; omega)⟩
      · skip
        have km1 : (-1 : Int32).toInt = -1 := rfl
        refine hC.1 4 40 _ _ rfl _ _ _ _ _ ?_
        exact ⟨rfl, fun e9 => absurd e9 (by decide), rfl, (-1 : Int32), v4, f4, rfl, rfl, hv4, hf4, hw4, by first | trivial | omega | (dsimp only; omega)⟩
    · skip
      have k0 : (0 : Int32).toInt = 0 := rfl
      refine And.intro (fun c9 => absurd c9 (by decide)) (fun _ => ?_)
      refine hC.1 1 16 _ _ rfl _ _ _ _ _ ?_
      have km1 : (-1 : Int32).toInt = -1 := rfl
      exact ⟨rfl, fun e9 => absurd e9 (by decide), rfl, (-1 : Int32), v, f, rfl, rfl, hv, hf, rfl, by first | trivial | omega | (dsimp only; omega)⟩
  · skip
    have k0 : (0 : Int32).toInt = 0 := rfl
    refine And.intro (fun _ => ?_) (fun c9 => absurd c9 (by decide))
    refine hC.1 1 16 _ _ rfl _ _ _ _ _ ?_
    have km1 : (-1 : Int32).toInt = -1 := rfl
    exact ⟨rfl, fun e9 => absurd e9 (by decide), rfl, (-1 : Int32), v, f, rfl, rfl, hv, hf, rfl, by first | trivial | omega | (dsimp only; omega)⟩

set_option maxRecDepth 100000 in
set_option maxHeartbeats 2000000 in
theorem c_X11_suffices (D : md_D h q) (v : Nat → Int32) (f : Nat → Nat → Int32) (hv : md_V v) (hf : md_F f) (x1 : Int32) (x2 : Int32)  : pm_Mt l g 263 3 0 0 [.ref h, .int x1, .int x2] (md A0 g h q v f) (md_Qw A0 g h q f (fun r v2 f2 => (v2 0).toInt = (v 0).toInt ∧ (v2 1).toInt = (v 1).toInt ∧ (v2 2).toInt = (v 2).toInt ∧ (v2 3).toInt = (v 3).toInt ∧ (v2 4).toInt = (v 4).toInt ∧ (v2 6).toInt = (v 6).toInt)) := by
  refine mt_X11_suffices rfl (fun J hC => ?_)
  have hv9 := hv
  unfold md_V at hv9
  have rg_x1 := pm_rng x1
  have rg_x2 := pm_rng x2
  refine hC.1 0 0 _ _ rfl _ _ _ _ _ ?_
  refine And.intro (fun c1 => ?_) (fun c1 => ?_)
  · skip
    refine hC.1 1 13 _ _ rfl _ _ _ _ _ ?_
    have km1 : (-1 : Int32).toInt = -1 := rfl
    exact ⟨rfl, fun e9 => absurd e9 (by decide), rfl, (-1 : Int32), v, f, rfl, rfl, hv, hf, rfl, by first | trivial | omega | (dsimp only; omega)⟩
  · skip
    have k0 : (0 : Int32).toInt = 0 := rfl
    have k1 : (1 : Int32).toInt = 1 := rfl
    refine Exists.intro _ (Exists.intro _ (Exists.intro _ (Exists.intro _ (And.intro (c_X11_isIn (md A0 g h q v f) x2 (0 : Int32) (1 : Int32) ) (And.intro rfl (fun r9 A9 h9 => ?_))))))
    rcases h9 with ⟨y2, rfl, rfl, ⟨rfl, by2⟩ | ⟨rfl, by2⟩⟩
    · skip
      refine And.intro (fun _ => ?_) (fun c9 => absurd c9 (by decide))
      refine hC.1 2 15 _ _ rfl _ _ _ _ _ ?_
      have lp4 : ∀ (n : Nat) (z3_17 : Int32) (v3 : Nat → Int32) (f3 : Nat → Nat → Int32), md_V v3 → md_F f3 → f3 2 = f 2 → (1 ≤ z3_17.toInt ∧ z3_17.toInt ≤ 25) → (v3 0).toInt = (v 0).toInt → (v3 1).toInt = (v 1).toInt → (v3 2).toInt = (v 2).toInt → (v3 3).toInt = (v 3).toInt → (v3 4).toInt = (v 4).toInt → (v3 6).toInt = (v 6).toInt → 200 - z3_17.toInt < (n : Int) → J 17 [some (.ref h), some (.int x1), some (.int x2), some (.int z3_17)] [] (md A0 g h q v3 f3) 0 0 := by
        intro n
        induction n with
        | zero =>
          intro z3_17 v3 f3 hv3 hf3 hw3 j0_17 j1_17 j2_17 j3_17 j4_17 j5_17 j6_17 j7_17
          omega
        | succ n ih5 =>
          intro z3_17 v3 f3 hv3 hf3 hw3 j0_17 j1_17 j2_17 j3_17 j4_17 j5_17 j6_17 j7_17
          refine hC.1 3 17 _ _ rfl _ _ _ _ _ ?_
          have hu6 := hv3
          unfold md_V at hu6
          have k24 : (24 : Int32).toInt = 24 := rfl
          refine And.intro (fun c7 => ?_) (fun c7 => ?_)
          · skip
            refine hC.1 5 47 _ _ rfl _ _ _ _ _ ?_
            have km1 : (-1 : Int32).toInt = -1 := rfl
            exact ⟨rfl, fun e9 => absurd e9 (by decide), rfl, (-1 : Int32), v3, f3, rfl, rfl, hv3, hf3, hw3, by first | trivial | omega | (dsimp only; omega)⟩
          · skip
            refine Exists.intro _ (And.intro md_o ?_)
            intro m8 em_29
            try have e8 : m8.toInt = ((v3 0)).toInt - (1) := by rw [em_29]; exact pm_subc _ _ (1) rfl (by omega) (by omega)
            refine And.intro (Exists.intro _ md_o) (Exists.intro _ (Exists.intro _ (Exists.intro _ (Exists.intro _ (And.intro (c_X11_goOver D v3 f3 hv3 hf3 m8 z3_17 x2 (by omega)) (And.intro rfl (fun r9 A9 h9 => ?_)))))))
            obtain ⟨y9, v10, f10, rfl, rfl, hv10, hf10, hx10, hg10_0, by9⟩ := h9
            have hw10 : f10 2 = f 2 := hx10.trans hw3
            have hu11 := hv10
            unfold md_V at hu11
            refine And.intro (fun c12 => ?_) (fun c12 => ?_)
            · skip
              refine hC.1 4 41 _ _ rfl _ _ _ _ _ ?_
              intro m13 em_41
              try have e13 : m13.toInt = (z3_17).toInt + (1) := by rw [em_41]; exact pm_addc _ _ (1) rfl (by omega) (by omega)
              exact ih5 m13 v10 f10 hv10 hf10 hw10 (by omega) (by omega) (by omega) (by omega) (by omega) (by omega) (by omega) (by omega)
            · skip
              exact ⟨rfl, fun e9 => absurd e9 (by decide), rfl, z3_17, v10, f10, rfl, rfl, hv10, hf10, hw10, by first | trivial | omega | (dsimp only; omega)⟩
      exact lp4 (200 - (1 : Int32).toInt).toNat.succ (1 : Int32) v f hv hf rfl (by omega) (by omega) (by omega) (by omega) (by omega) (by omega) (by omega) (by omega)
    · skip
      refine And.intro (fun c9 => absurd c9 (by decide)) (fun _ => ?_)
      refine hC.1 1 13 _ _ rfl _ _ _ _ _ ?_
      have km1 : (-1 : Int32).toInt = -1 := rfl
      exact ⟨rfl, fun e9 => absurd e9 (by decide), rfl, (-1 : Int32), v, f, rfl, rfl, hv, hf, rfl, by first | trivial | omega | (dsimp only; omega)⟩

set_option maxRecDepth 100000 in
set_option maxHeartbeats 2000000 in
theorem c_X11_just (D : md_D h q) (v : Nat → Int32) (f : Nat → Nat → Int32) (hv : md_V v) (hf : md_F f) (x1 : Int32)  : pm_Mt l g 264 1 0 0 [.ref h, .int x1] (md A0 g h q v f) (md_Qp (md A0 g h q v f) (fun r => True)) := by
  refine mt_X11_just rfl (fun J hC => ?_)
  have hv9 := hv
  unfold md_V at hv9
  have rg_x1 := pm_rng x1
  refine hC.1 0 0 _ _ rfl _ _ _ _ _ ?_
  have k0 : (0 : Int32).toInt = 0 := rfl
  have lp1 : ∀ (n : Nat) (z2_4 : Int32) (z3_4 : Int32), (0 ≤ z3_4.toInt ∧ z3_4.toInt ≤ (v 0).toInt) → 200 - z3_4.toInt < (n : Int) → J 4 [some (.ref h), some (.int x1), some (.int z2_4), some (.int z3_4), none, none] [] (md A0 g h q v f) 0 0 := by
    intro n
    induction n with
    | zero =>
      intro z2_4 z3_4 j0_4 j1_4
      omega
    | succ n ih2 =>
      intro z2_4 z3_4 j0_4 j1_4
      refine hC.1 1 4 _ _ rfl _ _ _ _ _ ?_
      refine Exists.intro _ (And.intro md_o ?_)
      refine And.intro (fun c3 => ?_) (fun c3 => ?_)
      · skip
        refine hC.1 6 70 _ _ rfl _ _ _ _ _ ?_
        exact ⟨rfl, fun e9 => absurd e9 (by decide), rfl, z2_4, rfl, rfl, by first | trivial | omega | (dsimp only; omega)⟩
      · skip
        have lp4 : ∀ (n : Nat) (z2_18 : Int32) (z4_18 : Int32) (z5_18 : Int32), (0 ≤ z5_18.toInt ∧ z5_18.toInt ≤ (v 0).toInt) → 200 - z5_18.toInt < (n : Int) → J 18 [some (.ref h), some (.int x1), some (.int z2_18), some (.int z3_4), some (.int z4_18), some (.int z5_18)] [] (md A0 g h q v f) 0 0 := by
          intro n
          induction n with
          | zero =>
            intro z2_18 z4_18 z5_18 j0_18 j1_18
            omega
          | succ n ih5 =>
            intro z2_18 z4_18 z5_18 j0_18 j1_18
            refine hC.1 2 18 _ _ rfl _ _ _ _ _ ?_
            refine Exists.intro _ (And.intro md_o ?_)
            refine And.intro (fun c6 => ?_) (fun c6 => ?_)
            · skip
              refine hC.1 5 64 _ _ rfl _ _ _ _ _ ?_
              have k1 : (1 : Int32).toInt = 1 := rfl
              intro m7 em_64
              try have e7 : m7.toInt = (z3_4).toInt + (1) := by rw [em_64]; exact pm_addc _ _ (1) rfl (by omega) (by omega)
              exact hC.2 [false, false, false, false, true, true] _ _ _ _ _ _ (ih2 z2_18 m7 (by omega) (by omega))
            · skip
              have k1 : (1 : Int32).toInt = 1 := rfl
              refine Exists.intro _ (And.intro md_o ?_)
              refine Exists.intro _ (Exists.intro _ (And.intro (Or.inl (md_a_colours D)) (And.intro (by omega) ?_)))
              have w8 : (0 : Int) ≤ (f 0 (z5_18).toInt.toNat).toInt ∧ (f 0 (z5_18).toInt.toNat).toInt ≤ (23 : Int) := hf 0 _
              refine Exists.intro _ (Exists.intro _ (Exists.intro _ (Exists.intro _ (And.intro (c_X11_bits (md A0 g h q v f) (z4_18 ||| ((1 : Int32) <<< ((f 0 (z5_18).toInt.toNat) &&& 31))) ) (And.intro rfl (fun r9 A9 h9 => ?_))))))
              obtain ⟨y9, rfl, rfl, by9⟩ := h9
              refine And.intro (fun c10 => ?_) (fun c10 => ?_)
              · skip
                have dc10 := pm_neI c10
                refine hC.1 3 55 _ _ rfl _ _ _ _ _ ?_
                refine hC.1 4 56 _ _ rfl _ _ _ _ _ ?_
                intro m11 em_56
                try have e11 : m11.toInt = (z2_18).toInt + (0) := by rw [em_56]; exact pm_addc _ _ (0) rfl (by omega) (by omega)
                intro m12 em_58
                try have e12 : m12.toInt = (z5_18).toInt + (1) := by rw [em_58]; exact pm_addc _ _ (1) rfl (by omega) (by omega)
                exact ih5 m11 (z4_18 ||| ((1 : Int32) <<< ((f 0 (z5_18).toInt.toNat) &&& 31))) m12 (by omega) (by omega)
              · skip
                have dc10 : (y9).toInt = (x1 : Int32).toInt := congrArg Int32.toInt c10
                refine hC.1 4 56 _ _ rfl _ _ _ _ _ ?_
                intro m13 em_56
                try have e13 : m13.toInt = (z2_18).toInt + (1) := by rw [em_56]; exact pm_addc _ _ (1) rfl (by omega) (by omega)
                intro m14 em_58
                try have e14 : m14.toInt = (z5_18).toInt + (1) := by rw [em_58]; exact pm_addc _ _ (1) rfl (by omega) (by omega)
                exact ih5 m13 (z4_18 ||| ((1 : Int32) <<< ((f 0 (z5_18).toInt.toNat) &&& 31))) m14 (by omega) (by omega)
        exact lp4 (200 - z3_4.toInt).toNat.succ z2_4 (0 : Int32) z3_4 (by omega) (by omega)
  exact lp1 (200 - (0 : Int32).toInt).toNat.succ (0 : Int32) (0 : Int32) (by omega) (by omega)

set_option maxRecDepth 100000 in
set_option maxHeartbeats 2000000 in
theorem c_X11_all (D : md_D h q) (v : Nat → Int32) (f : Nat → Nat → Int32) (hv : md_V v) (hf : md_F f)  : pm_Mt l g 265 1 0 0 [.ref h] (md A0 g h q v f) (md_Qj (md A0 g h q v f) (fun r => True)) := by
  refine mt_X11_all rfl (fun J hC => ?_)
  have hv9 := hv
  unfold md_V at hv9
  refine hC.1 0 0 _ _ rfl _ _ _ _ _ ?_
  have k0 : (0 : Int32).toInt = 0 := rfl
  have lp1 : ∀ (n : Nat) (z1_4 : Int64) (z3_4 : Int32), (0 ≤ z3_4.toInt ∧ z3_4.toInt ≤ (v 0).toInt) → 200 - z3_4.toInt < (n : Int) → J 4 [some (.ref h), some (.long z1_4), none, some (.int z3_4), none, none] [] (md A0 g h q v f) 0 0 := by
    intro n
    induction n with
    | zero =>
      intro z1_4 z3_4 j0_4 j1_4
      omega
    | succ n ih2 =>
      intro z1_4 z3_4 j0_4 j1_4
      refine hC.1 1 4 _ _ rfl _ _ _ _ _ ?_
      refine Exists.intro _ (And.intro md_o ?_)
      refine And.intro (fun c3 => ?_) (fun c3 => ?_)
      · skip
        refine hC.1 4 62 _ _ rfl _ _ _ _ _ ?_
        exact ⟨rfl, rfl, z1_4, rfl, rfl, by first | trivial | omega | (dsimp only; omega)⟩
      · skip
        have lp4 : ∀ (n : Nat) (z1_18 : Int64) (z4_18 : Int32) (z5_18 : Int32), (0 ≤ z5_18.toInt ∧ z5_18.toInt ≤ (v 0).toInt) → 200 - z5_18.toInt < (n : Int) → J 18 [some (.ref h), some (.long z1_18), none, some (.int z3_4), some (.int z4_18), some (.int z5_18)] [] (md A0 g h q v f) 0 0 := by
          intro n
          induction n with
          | zero =>
            intro z1_18 z4_18 z5_18 j0_18 j1_18
            omega
          | succ n ih5 =>
            intro z1_18 z4_18 z5_18 j0_18 j1_18
            refine hC.1 2 18 _ _ rfl _ _ _ _ _ ?_
            refine Exists.intro _ (And.intro md_o ?_)
            refine And.intro (fun c6 => ?_) (fun c6 => ?_)
            · skip
              refine hC.1 3 56 _ _ rfl _ _ _ _ _ ?_
              have k1 : (1 : Int32).toInt = 1 := rfl
              intro m7 em_56
              try have e7 : m7.toInt = (z3_4).toInt + (1) := by rw [em_56]; exact pm_addc _ _ (1) rfl (by omega) (by omega)
              exact hC.2 [false, false, false, false, true, true] _ _ _ _ _ _ (ih2 z1_18 m7 (by omega) (by omega))
            · skip
              have k1 : (1 : Int32).toInt = 1 := rfl
              refine Exists.intro _ (And.intro md_o ?_)
              refine Exists.intro _ (Exists.intro _ (And.intro (Or.inl (md_a_colours D)) (And.intro (by omega) ?_)))
              have w8 : (0 : Int) ≤ (f 0 (z5_18).toInt.toNat).toInt ∧ (f 0 (z5_18).toInt.toNat).toInt ≤ (23 : Int) := hf 0 _
              refine Exists.intro _ (Exists.intro _ (Exists.intro _ (Exists.intro _ (And.intro (c_X11_bits (md A0 g h q v f) (z4_18 ||| ((1 : Int32) <<< ((f 0 (z5_18).toInt.toNat) &&& 31))) ) (And.intro rfl (fun r9 A9 h9 => ?_))))))
              obtain ⟨y9, rfl, rfl, by9⟩ := h9
              intro m10 em_50
              try have e10 : m10.toInt = (z5_18).toInt + (1) := by rw [em_50]; exact pm_addc _ _ (1) rfl (by omega) (by omega)
              exact ih5 (z1_18 + (y9).toInt64) (z4_18 ||| ((1 : Int32) <<< ((f 0 (z5_18).toInt.toNat) &&& 31))) m10 (by omega) (by omega)
        exact lp4 (200 - z3_4.toInt).toNat.succ z1_4 (0 : Int32) z3_4 (by omega) (by omega)
  exact lp1 (200 - (0 : Int32).toInt).toNat.succ (Int64.ofNat 0) (0 : Int32) (by omega) (by omega)

set_option maxRecDepth 100000 in
set_option maxHeartbeats 2000000 in
theorem c_X11_sets (D : md_D h q) (v : Nat → Int32) (f : Nat → Nat → Int32) (hv : md_V v) (hf : md_F f) (x1 : Int32)  : pm_Mt l g 266 1 0 0 [.ref h, .int x1] (md A0 g h q v f) (md_Qp (md A0 g h q v f) (fun r => True)) := by
  refine mt_X11_sets rfl (fun J hC => ?_)
  have hv9 := hv
  unfold md_V at hv9
  have rg_x1 := pm_rng x1
  refine hC.1 0 0 _ _ rfl _ _ _ _ _ ?_
  have k1 : (1 : Int32).toInt = 1 := rfl
  refine Exists.intro _ (And.intro md_o ?_)
  refine Exists.intro _ (Exists.intro _ (Exists.intro _ (Exists.intro _ (And.intro (c_X11_isIn (md A0 g h q v f) x1 (1 : Int32) (v 0) ) (And.intro rfl (fun r9 A9 h9 => ?_))))))
  rcases h9 with ⟨y1, rfl, rfl, ⟨rfl, by1⟩ | ⟨rfl, by1⟩⟩
  · skip
    refine And.intro (fun _ => ?_) (fun c9 => absurd c9 (by decide))
    refine hC.1 1 14 _ _ rfl _ _ _ _ _ ?_
    have k0 : (0 : Int32).toInt = 0 := rfl
    have lp2 : ∀ (n : Nat) (z2_18 : Int32) (z3_18 : Int32), (0 ≤ z3_18.toInt ∧ z3_18.toInt ≤ 161) → 200 - z3_18.toInt < (n : Int) → J 18 [some (.ref h), some (.int x1), some (.int z2_18), some (.int z3_18), none, none] [] (md A0 g h q v f) 0 0 := by
      intro n
      induction n with
      | zero =>
        intro z2_18 z3_18 j0_18 j1_18
        omega
      | succ n ih3 =>
        intro z2_18 z3_18 j0_18 j1_18
        refine hC.1 2 18 _ _ rfl _ _ _ _ _ ?_
        intro m4 em_20
        try have e4 : m4.toInt = (z3_18).toInt + (x1).toInt := by rw [em_20]; exact pm_add _ _ (by omega) (by omega)
        refine Exists.intro _ (And.intro md_o ?_)
        refine And.intro (fun c5 => ?_) (fun c5 => ?_)
        · skip
          refine hC.1 9 102 _ _ rfl _ _ _ _ _ ?_
          exact ⟨rfl, fun e9 => absurd e9 (by decide), rfl, z2_18, rfl, rfl, by first | trivial | omega | (dsimp only; omega)⟩
        · skip
          have lp6 : ∀ (n : Nat) (z4_34 : Int32) (z5_34 : Int32), (0 ≤ z5_34.toInt ∧ z5_34.toInt ≤ z3_18.toInt) → 200 - z5_34.toInt < (n : Int) → J 34 [some (.ref h), some (.int x1), some (.int z2_18), some (.int z3_18), some (.int z4_34), some (.int z5_34)] [] (md A0 g h q v f) 0 0 := by
            intro n
            induction n with
            | zero =>
              intro z4_34 z5_34 j0_34 j1_34
              omega
            | succ n ih7 =>
              intro z4_34 z5_34 j0_34 j1_34
              refine hC.1 3 34 _ _ rfl _ _ _ _ _ ?_
              refine And.intro (fun c8 => ?_) (fun c8 => ?_)
              · skip
                refine hC.1 6 83 _ _ rfl _ _ _ _ _ ?_
                refine And.intro (fun c9 => ?_) (fun c9 => ?_)
                · skip
                  have dc9 : (z4_34).toInt = (0 : Int32).toInt := congrArg Int32.toInt c9
                  refine hC.1 7 93 _ _ rfl _ _ _ _ _ ?_
                  refine hC.1 8 94 _ _ rfl _ _ _ _ _ ?_
                  intro m10 em_94
                  try have e10 : m10.toInt = (z2_18).toInt + (0) := by rw [em_94]; exact pm_addc _ _ (0) rfl (by omega) (by omega)
                  intro m11 em_96
                  try have e11 : m11.toInt = (z3_18).toInt + (1) := by rw [em_96]; exact pm_addc _ _ (1) rfl (by omega) (by omega)
                  exact hC.2 [false, false, false, false, true, true] _ _ _ _ _ _ (ih3 m10 m11 (by omega) (by omega))
                · skip
                  have dc9 := pm_neI c9
                  refine hC.1 8 94 _ _ rfl _ _ _ _ _ ?_
                  intro m12 em_94
                  try have e12 : m12.toInt = (z2_18).toInt + (1) := by rw [em_94]; exact pm_addc _ _ (1) rfl (by omega) (by omega)
                  intro m13 em_96
                  try have e13 : m13.toInt = (z3_18).toInt + (1) := by rw [em_96]; exact pm_addc _ _ (1) rfl (by omega) (by omega)
                  exact hC.2 [false, false, false, false, true, true] _ _ _ _ _ _ (ih3 m12 m13 (by omega) (by omega))
              · skip
                refine And.intro (fun c14 => ?_) (fun c14 => ?_)
                · skip
                  have dc14 : (z4_34).toInt = (0 : Int32).toInt := congrArg Int32.toInt c14
                  refine hC.1 6 83 _ _ rfl _ _ _ _ _ ?_
                  refine And.intro (fun c15 => ?_) (fun c15 => ?_)
                  · skip
                    have dc15 : (z4_34).toInt = (0 : Int32).toInt := congrArg Int32.toInt c15
                    refine hC.1 7 93 _ _ rfl _ _ _ _ _ ?_
                    refine hC.1 8 94 _ _ rfl _ _ _ _ _ ?_
                    intro m16 em_94
                    try have e16 : m16.toInt = (z2_18).toInt + (0) := by rw [em_94]; exact pm_addc _ _ (0) rfl (by omega) (by omega)
                    intro m17 em_96
                    try have e17 : m17.toInt = (z3_18).toInt + (1) := by rw [em_96]; exact pm_addc _ _ (1) rfl (by omega) (by omega)
                    exact hC.2 [false, false, false, false, true, true] _ _ _ _ _ _ (ih3 m16 m17 (by omega) (by omega))
                  · skip
                    have dc15 := pm_neI c15
                    refine hC.1 8 94 _ _ rfl _ _ _ _ _ ?_
                    intro m18 em_94
                    try have e18 : m18.toInt = (z2_18).toInt + (1) := by rw [em_94]; exact pm_addc _ _ (1) rfl (by omega) (by omega)
                    intro m19 em_96
                    try have e19 : m19.toInt = (z3_18).toInt + (1) := by rw [em_96]; exact pm_addc _ _ (1) rfl (by omega) (by omega)
                    exact hC.2 [false, false, false, false, true, true] _ _ _ _ _ _ (ih3 m18 m19 (by omega) (by omega))
                · skip
                  have dc14 := pm_neI c14
                  intro m20 em_51
                  try have e20 : m20.toInt = (z5_34).toInt + (x1).toInt := by rw [em_51]; exact pm_add _ _ (by omega) (by omega)
                  intro m21 em_53
                  try have e21 : m21.toInt = (m20).toInt - (1) := by rw [em_53]; exact pm_subc _ _ (1) rfl (by omega) (by omega)
                  refine And.intro (Exists.intro _ md_o) (Exists.intro _ (Exists.intro _ (Exists.intro _ (Exists.intro _ (And.intro (c_X11_setOf D v f hv hf z5_34 m21 (by omega) (by omega)) (And.intro rfl (fun r9 A9 h9 => ?_)))))))
                  obtain ⟨y22, rfl, rfl, by22⟩ := h9
                  intro m23 em_61
                  try have e23 : m23.toInt = (z3_18).toInt + (x1).toInt := by rw [em_61]; exact pm_add _ _ (by omega) (by omega)
                  intro m24 em_63
                  try have e24 : m24.toInt = (m23).toInt - (1) := by rw [em_63]; exact pm_subc _ _ (1) rfl (by omega) (by omega)
                  refine And.intro (Exists.intro _ md_o) (Exists.intro _ (Exists.intro _ (Exists.intro _ (Exists.intro _ (And.intro (c_X11_setOf D v f hv hf z3_18 m24 (by omega) (by omega)) (And.intro rfl (fun r9 A9 h9 => ?_)))))))
                  obtain ⟨y25, rfl, rfl, by25⟩ := h9
                  refine And.intro (fun c26 => ?_) (fun c26 => ?_)
                  · skip
                    have dc26 : (y22).toInt = (y25 : Int32).toInt := congrArg Int32.toInt c26
                    refine hC.1 4 74 _ _ rfl _ _ _ _ _ ?_
                    refine hC.1 5 75 _ _ rfl _ _ _ _ _ ?_
                    intro m27 em_77
                    try have e27 : m27.toInt = (z5_34).toInt + (1) := by rw [em_77]; exact pm_addc _ _ (1) rfl (by omega) (by omega)
                    exact ih7 (0 : Int32) m27 (by omega) (by omega)
                  · skip
                    have dc26 := pm_neI c26
                    refine hC.1 5 75 _ _ rfl _ _ _ _ _ ?_
                    intro m28 em_77
                    try have e28 : m28.toInt = (z5_34).toInt + (1) := by rw [em_77]; exact pm_addc _ _ (1) rfl (by omega) (by omega)
                    exact ih7 (1 : Int32) m28 (by omega) (by omega)
          exact lp6 (200 - (0 : Int32).toInt).toNat.succ (1 : Int32) (0 : Int32) (by omega) (by omega)
    exact lp2 (200 - (0 : Int32).toInt).toNat.succ (0 : Int32) (0 : Int32) (by omega) (by omega)
  · skip
    have k0 : (0 : Int32).toInt = 0 := rfl
    refine And.intro (fun c9 => absurd c9 (by decide)) (fun _ => ?_)
    exact ⟨rfl, fun e9 => absurd e9 (by decide), rfl, (0 : Int32), rfl, rfl, by first | trivial | omega | (dsimp only; omega)⟩

set_option maxRecDepth 100000 in
set_option maxHeartbeats 2000000 in
theorem c_X11_layGaps (D : md_D h q) (v : Nat → Int32) (f : Nat → Nat → Int32) (hv : md_V v) (hf : md_F f)  : pm_Mt l g 268 1 0 0 [.ref h] (md A0 g h q v f) (md_Qv A0 g h q f (fun v2 f2 => (v2 0).toInt = (v 0).toInt ∧ (v2 1).toInt = (v 1).toInt ∧ (v2 2).toInt = (v 2).toInt ∧ (v2 3).toInt = (v 3).toInt ∧ (v2 4).toInt = (v 4).toInt ∧ (v2 6).toInt = (v 6).toInt)) := by
  refine mt_X11_layGaps rfl (fun J hC => ?_)
  have hv9 := hv
  unfold md_V at hv9
  refine hC.1 0 0 _ _ rfl _ _ _ _ _ ?_
  have k0 : (0 : Int32).toInt = 0 := rfl
  have lp2 : ∀ (n : Nat) (z1_2 : Int32) (v1 : Nat → Int32) (f1 : Nat → Nat → Int32), md_V v1 → md_F f1 → f1 2 = f 2 → (0 ≤ z1_2.toInt ∧ z1_2.toInt ≤ (v 0).toInt) → (v1 0).toInt = (v 0).toInt → (v1 1).toInt = (v 1).toInt → (v1 2).toInt = (v 2).toInt → (v1 3).toInt = (v 3).toInt → (v1 4).toInt = (v 4).toInt → (v1 6).toInt = (v 6).toInt → 200 - z1_2.toInt < (n : Int) → J 2 [some (.ref h), some (.int z1_2)] [] (md A0 g h q v1 f1) 0 0 := by
    intro n
    induction n with
    | zero =>
      intro z1_2 v1 f1 hv1 hf1 hw1 j0_2 j1_2 j2_2 j3_2 j4_2 j5_2 j6_2 j7_2
      omega
    | succ n ih3 =>
      intro z1_2 v1 f1 hv1 hf1 hw1 j0_2 j1_2 j2_2 j3_2 j4_2 j5_2 j6_2 j7_2
      refine hC.1 1 2 _ _ rfl _ _ _ _ _ ?_
      have hu4 := hv1
      unfold md_V at hu4
      refine Exists.intro _ (And.intro md_o ?_)
      refine And.intro (fun c5 => ?_) (fun c5 => ?_)
      · skip
        refine hC.1 4 42 _ _ rfl _ _ _ _ _ ?_
        exact ⟨rfl, rfl, v1, f1, rfl, rfl, hv1, hf1, hw1, by first | trivial | omega | (dsimp only; omega)⟩
      · skip
        refine Exists.intro _ (And.intro md_o ?_)
        refine And.intro (Exists.intro _ md_o) (Exists.intro _ (Exists.intro _ (Exists.intro _ (Exists.intro _ (And.intro (c_X11_ahead D v1 f1 hv1 hf1 z1_2 (by omega)) (And.intro rfl (fun r9 A9 h9 => ?_)))))))
        obtain ⟨y6, rfl, rfl, by6⟩ := h9
        refine And.intro (fun c7 => ?_) (fun c7 => ?_)
        · skip
          refine hC.1 2 28 _ _ rfl _ _ _ _ _ ?_
          refine And.intro (Exists.intro _ md_o) (Exists.intro _ (Exists.intro _ (Exists.intro _ (Exists.intro _ (And.intro (c_X11_ahead D v1 f1 hv1 hf1 z1_2 (by omega)) (And.intro rfl (fun r9 A9 h9 => ?_)))))))
          obtain ⟨y8, rfl, rfl, by8⟩ := h9
          intro m9 em_34
          try have e9 : m9.toInt = (z1_2).toInt - (y8).toInt := by rw [em_34]; exact pm_sub _ _ (by omega) (by omega)
          refine hC.1 3 35 _ _ rfl _ _ _ _ _ ?_
          refine Exists.intro _ (Exists.intro _ (And.intro (md_a_gaps D) (And.intro (by omega) ?_)))
          rw [md_s_gaps D]
          obtain ⟨f10, ef10⟩ : ∃ z9, z9 = va_up f1 17 (upd (f1 17) (z1_2).toInt.toNat m9) := ⟨_, rfl⟩
          rw [← ef10]
          have hf10 : md_F f10 := by rw [ef10]; exact md_F_st hf1 17 _ _ (md_rng _ _ (by decide))
          have hw10 : f10 2 = f 2 := (show f10 2 = f1 2 by rw [ef10]; rfl).trans hw1
          have k1 : (1 : Int32).toInt = 1 := rfl
          intro m11 em_36
          try have e11 : m11.toInt = (z1_2).toInt + (1) := by rw [em_36]; exact pm_addc _ _ (1) rfl (by omega) (by omega)
          exact ih3 m11 v1 f10 hv1 hf10 hw10 (by omega) (by omega) (by omega) (by omega) (by omega) (by omega) (by omega) (by omega)
        · skip
          have k268435456 : (268435456 : Int32).toInt = 268435456 := rfl
          refine hC.1 3 35 _ _ rfl _ _ _ _ _ ?_
          refine Exists.intro _ (Exists.intro _ (And.intro (md_a_gaps D) (And.intro (by omega) ?_)))
          rw [md_s_gaps D]
          obtain ⟨f12, ef12⟩ : ∃ z9, z9 = va_up f1 17 (upd (f1 17) (z1_2).toInt.toNat (268435456 : Int32)) := ⟨_, rfl⟩
          rw [← ef12]
          have hf12 : md_F f12 := by rw [ef12]; exact md_F_st hf1 17 _ _ (md_rng _ _ (by decide))
          have hw12 : f12 2 = f 2 := (show f12 2 = f1 2 by rw [ef12]; rfl).trans hw1
          have k1 : (1 : Int32).toInt = 1 := rfl
          intro m13 em_36
          try have e13 : m13.toInt = (z1_2).toInt + (1) := by rw [em_36]; exact pm_addc _ _ (1) rfl (by omega) (by omega)
          exact ih3 m13 v1 f12 hv1 hf12 hw12 (by omega) (by omega) (by omega) (by omega) (by omega) (by omega) (by omega) (by omega)
  exact lp2 (200 - (0 : Int32).toInt).toNat.succ (0 : Int32) v f hv hf rfl (by omega) (by omega) (by omega) (by omega) (by omega) (by omega) (by omega) (by omega)

end
