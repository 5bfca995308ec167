section
variable {l : Launch} {g : pm_G} {A0 : pm_H} {K nn dn : Nat} {q : Nat → Nat} {w : Nat → Int32} {e : Nat → Nat → Int32} {v : Nat → Int32} {f : Nat → Nat → Int32}
set_option maxRecDepth 100000 in
set_option maxHeartbeats 2000000 in
theorem c_X0_colourInOrder (hI : cw_I K nn dn q w e) (hs : cw_S v f) {o1 : Nat} (ho1 : cw_ro K o1) (x3 : Int32) (x4 : Int32) (x5 : Int32) (x6 : Int32) (p0 : 0 ≤ x3.toInt ∧ x3.toInt ≤ x4.toInt ∧ x4.toInt < (w o1).toInt) : pm_Mt l g 68 2 0 0 [.ref (q 3), .ref (q o1), .ref (q 2), .int x3, .int x4, .int x5, .int x6] (cw A0 g K nn dn q w e v f) (cw_Qs A0 g K nn dn q w e (fun r v2 f2 => ∃ x : Int32, r = some (.int x) ∧ (True))) := by
  refine mt_X0_colourInOrder rfl (fun J hC => ?_)
  have hu1 := hI.2.1
  unfold cw_W at hu1
  have ro_nn : cw_ro K nn := hI.2.1.2.1
  have ro_dn : cw_ro K dn := hI.2.1.2.2.1
  have rg_x3 := pm_rng x3
  have rg_x4 := pm_rng x4
  have rg_x5 := pm_rng x5
  have rg_x6 := pm_rng x6
  have zz0 := cw_sz hI ho1
  refine hC.1 0 0 _ _ rfl _ _ _ _ _ ?_
  refine pm_swc 5 rfl (by decide) ?_ ?_
  · intro _
    refine hC.1 6 95 _ _ rfl _ _ _ _ _ ?_
    have km1 : (-1 : Int32).toInt = -1 := rfl
    exact ⟨rfl, fun e9 => absurd e9 (by decide), rfl, v, f, rfl, hs, (-1 : Int32), rfl, by first | trivial | omega | (dsimp only; omega)⟩
  · intro i9 hi9 he9
    rcases (show i9 = 0 ∨ i9 = 1 ∨ i9 = 2 ∨ i9 = 3 ∨ i9 = 4 by omega) with rfl | rfl | rfl | rfl | rfl
    · skip
      refine hC.1 1 36 _ _ rfl _ _ _ _ _ ?_
      have k1 : (1 : Int32).toInt = 1 := rfl
      refine And.intro (Exists.intro _ (cw_o3 hI.1)) (Exists.intro _ (Exists.intro _ (Exists.intro _ (Exists.intro _ (And.intro (c_X0_listAsMet__c1 hI hs ho1 x3 x4 (by omega)) (And.intro rfl (fun r9 A9 h9 => ?_)))))))
      rcases h9 with ⟨v5, f5, rfl, hs5, rfl, by4⟩
      refine hC.1 7 97 _ _ rfl _ _ _ _ _ ?_
      refine And.intro (fun c6 => ?_) (fun c6 => ?_)
      · skip
        refine hC.1 8 121 _ _ rfl _ _ _ _ _ ?_
        have km1 : (-1 : Int32).toInt = -1 := rfl
        refine hC.1 9 122 _ _ rfl _ _ _ _ _ ?_
        exact ⟨rfl, fun e9 => absurd e9 (by decide), rfl, v5, f5, rfl, hs5, (-1 : Int32), rfl, by first | trivial | omega | (dsimp only; omega)⟩
      · skip
        refine Exists.intro _ (And.intro (cw_o3 hI.1) ?_)
        have z7 := hs5.1
        refine And.intro (fun c8 => ?_) (fun c8 => ?_)
        · skip
          refine hC.1 8 121 _ _ rfl _ _ _ _ _ ?_
          have km1 : (-1 : Int32).toInt = -1 := rfl
          refine hC.1 9 122 _ _ rfl _ _ _ _ _ ?_
          exact ⟨rfl, fun e9 => absurd e9 (by decide), rfl, v5, f5, rfl, hs5, (-1 : Int32), rfl, by first | trivial | omega | (dsimp only; omega)⟩
        · skip
          refine Exists.intro _ (And.intro (cw_o3 hI.1) ?_)
          refine Exists.intro _ (Exists.intro _ (And.intro (Or.inl (cw_a16 hI.1)) (And.intro (by omega) ?_)))
          have w9 := hs5.2.1 (x5).toInt.toNat
          refine hC.1 9 122 _ _ rfl _ _ _ _ _ ?_
          exact ⟨rfl, fun e9 => absurd e9 (by decide), rfl, v5, f5, rfl, hs5, (f5 16 (x5).toInt.toNat), rfl, by first | trivial | omega | (dsimp only; omega)⟩
    · skip
      refine hC.1 2 48 _ _ rfl _ _ _ _ _ ?_
      have km1 : (-1 : Int32).toInt = -1 := rfl
      refine And.intro (Exists.intro _ (cw_o3 hI.1)) (Exists.intro _ (Exists.intro _ (Exists.intro _ (Exists.intro _ (And.intro (c_X0_listAsMet__cm1 hI hs ho1 x4 x3 (by omega)) (And.intro rfl (fun r9 A9 h9 => ?_)))))))
      rcases h9 with ⟨v11, f11, rfl, hs11, rfl, by10⟩
      refine hC.1 7 97 _ _ rfl _ _ _ _ _ ?_
      refine And.intro (fun c12 => ?_) (fun c12 => ?_)
      · skip
        refine hC.1 8 121 _ _ rfl _ _ _ _ _ ?_
        refine hC.1 9 122 _ _ rfl _ _ _ _ _ ?_
        exact ⟨rfl, fun e9 => absurd e9 (by decide), rfl, v11, f11, rfl, hs11, (-1 : Int32), rfl, by first | trivial | omega | (dsimp only; omega)⟩
      · skip
        refine Exists.intro _ (And.intro (cw_o3 hI.1) ?_)
        have z13 := hs11.1
        refine And.intro (fun c14 => ?_) (fun c14 => ?_)
        · skip
          refine hC.1 8 121 _ _ rfl _ _ _ _ _ ?_
          refine hC.1 9 122 _ _ rfl _ _ _ _ _ ?_
          exact ⟨rfl, fun e9 => absurd e9 (by decide), rfl, v11, f11, rfl, hs11, (-1 : Int32), rfl, by first | trivial | omega | (dsimp only; omega)⟩
        · skip
          refine Exists.intro _ (And.intro (cw_o3 hI.1) ?_)
          refine Exists.intro _ (Exists.intro _ (And.intro (Or.inl (cw_a16 hI.1)) (And.intro (by omega) ?_)))
          have w15 := hs11.2.1 (x5).toInt.toNat
          refine hC.1 9 122 _ _ rfl _ _ _ _ _ ?_
          exact ⟨rfl, fun e9 => absurd e9 (by decide), rfl, v11, f11, rfl, hs11, (f11 16 (x5).toInt.toNat), rfl, by first | trivial | omega | (dsimp only; omega)⟩
    · skip
      refine hC.1 3 60 _ _ rfl _ _ _ _ _ ?_
      refine Exists.intro _ (And.intro (cw_o2 hI.1) ?_)
      refine And.intro (Exists.intro _ (cw_o3 hI.1)) (Exists.intro _ (Exists.intro _ (Exists.intro _ (Exists.intro _ (And.intro (c_X0_colourOf hI hs (v 3) x5 ) (And.intro rfl (fun r9 A9 h9 => ?_)))))))
      obtain ⟨y16, rfl, rfl, by16⟩ := h9
      exact ⟨rfl, fun e9 => absurd e9 (by decide), rfl, v, f, rfl, hs, y16, rfl, by first | trivial | omega | (dsimp only; omega)⟩
    · skip
      refine hC.1 4 71 _ _ rfl _ _ _ _ _ ?_
      refine Exists.intro _ (And.intro (cw_o2 hI.1) ?_)
      refine And.intro (Exists.intro _ (cw_o3 hI.1)) (Exists.intro _ (Exists.intro _ (Exists.intro _ (Exists.intro _ (And.intro (c_X0_listByMost__15 hI hs  ) (And.intro rfl (fun r9 A9 h9 => ?_)))))))
      rcases h9 with ⟨v19, f19, rfl, hs19, rfl, by18⟩
      refine hC.1 7 97 _ _ rfl _ _ _ _ _ ?_
      refine And.intro (fun c20 => ?_) (fun c20 => ?_)
      · skip
        refine hC.1 8 121 _ _ rfl _ _ _ _ _ ?_
        have km1 : (-1 : Int32).toInt = -1 := rfl
        refine hC.1 9 122 _ _ rfl _ _ _ _ _ ?_
        exact ⟨rfl, fun e9 => absurd e9 (by decide), rfl, v19, f19, rfl, hs19, (-1 : Int32), rfl, by first | trivial | omega | (dsimp only; omega)⟩
      · skip
        refine Exists.intro _ (And.intro (cw_o3 hI.1) ?_)
        have z21 := hs19.1
        refine And.intro (fun c22 => ?_) (fun c22 => ?_)
        · skip
          refine hC.1 8 121 _ _ rfl _ _ _ _ _ ?_
          have km1 : (-1 : Int32).toInt = -1 := rfl
          refine hC.1 9 122 _ _ rfl _ _ _ _ _ ?_
          exact ⟨rfl, fun e9 => absurd e9 (by decide), rfl, v19, f19, rfl, hs19, (-1 : Int32), rfl, by first | trivial | omega | (dsimp only; omega)⟩
        · skip
          refine Exists.intro _ (And.intro (cw_o3 hI.1) ?_)
          refine Exists.intro _ (Exists.intro _ (And.intro (Or.inl (cw_a16 hI.1)) (And.intro (by omega) ?_)))
          have w23 := hs19.2.1 (x5).toInt.toNat
          refine hC.1 9 122 _ _ rfl _ _ _ _ _ ?_
          exact ⟨rfl, fun e9 => absurd e9 (by decide), rfl, v19, f19, rfl, hs19, (f19 16 (x5).toInt.toNat), rfl, by first | trivial | omega | (dsimp only; omega)⟩
    · skip
      refine hC.1 5 83 _ _ rfl _ _ _ _ _ ?_
      refine Exists.intro _ (And.intro (cw_o2 hI.1) ?_)
      refine And.intro (Exists.intro _ (cw_o3 hI.1)) (Exists.intro _ (Exists.intro _ (Exists.intro _ (Exists.intro _ (And.intro (c_X0_listByMost__14 hI hs  ) (And.intro rfl (fun r9 A9 h9 => ?_)))))))
      rcases h9 with ⟨v25, f25, rfl, hs25, rfl, by24⟩
      refine hC.1 7 97 _ _ rfl _ _ _ _ _ ?_
      refine And.intro (fun c26 => ?_) (fun c26 => ?_)
      · skip
        refine hC.1 8 121 _ _ rfl _ _ _ _ _ ?_
        have km1 : (-1 : Int32).toInt = -1 := rfl
        refine hC.1 9 122 _ _ rfl _ _ _ _ _ ?_
        exact ⟨rfl, fun e9 => absurd e9 (by decide), rfl, v25, f25, rfl, hs25, (-1 : Int32), rfl, by first | trivial | omega | (dsimp only; omega)⟩
      · skip
        refine Exists.intro _ (And.intro (cw_o3 hI.1) ?_)
        have z27 := hs25.1
        refine And.intro (fun c28 => ?_) (fun c28 => ?_)
        · skip
          refine hC.1 8 121 _ _ rfl _ _ _ _ _ ?_
          have km1 : (-1 : Int32).toInt = -1 := rfl
          refine hC.1 9 122 _ _ rfl _ _ _ _ _ ?_
          exact ⟨rfl, fun e9 => absurd e9 (by decide), rfl, v25, f25, rfl, hs25, (-1 : Int32), rfl, by first | trivial | omega | (dsimp only; omega)⟩
        · skip
          refine Exists.intro _ (And.intro (cw_o3 hI.1) ?_)
          refine Exists.intro _ (Exists.intro _ (And.intro (Or.inl (cw_a16 hI.1)) (And.intro (by omega) ?_)))
          have w29 := hs25.2.1 (x5).toInt.toNat
          refine hC.1 9 122 _ _ rfl _ _ _ _ _ ?_
          exact ⟨rfl, fun e9 => absurd e9 (by decide), rfl, v25, f25, rfl, hs25, (f25 16 (x5).toInt.toNat), rfl, by first | trivial | omega | (dsimp only; omega)⟩

set_option maxRecDepth 100000 in
set_option maxHeartbeats 2000000 in
theorem c_X1_clearPair (hI : cw_I K nn dn q w e) (hs : cw_S v f)   : pm_Mt l g 82 0 0 0 [.ref (q 4)] (cw A0 g K nn dn q w e v f) (cw_Qs A0 g K nn dn q w e (fun r v2 f2 => r = none ∧ (True))) := by
  refine mt_X1_clearPair rfl (fun J hC => ?_)
  have hu1 := hI.2.1
  unfold cw_W at hu1
  have ro_nn : cw_ro K nn := hI.2.1.2.1
  have ro_dn : cw_ro K dn := hI.2.1.2.2.1
  refine hC.1 0 0 _ _ rfl _ _ _ _ _ ?_
  have km1 : (-1 : Int32).toInt = -1 := rfl
  refine Exists.intro _ (And.intro (cw_o4 hI.1) (And.intro rfl ?_))
  rw [cw_p_pairDistance hI.1]
  obtain ⟨v2, ev2⟩ : ∃ z9, z9 = upd v 5 (-1 : Int32) := ⟨_, rfl⟩
  rw [← ev2]
  have hs2 : cw_S v2 f := by rw [ev2]; exact cw_S_v hs 5 _ (by decide)
  have ev2_0 : (v2 0).toInt = (v 0).toInt := by rw [ev2]; rfl
  refine Exists.intro _ (And.intro (cw_o4 hI.1) (And.intro rfl ?_))
  rw [cw_p_pairFirst hI.1]
  obtain ⟨v3, ev3⟩ : ∃ z9, z9 = upd v2 6 (-1 : Int32) := ⟨_, rfl⟩
  rw [← ev3]
  have hs3 : cw_S v3 f := by rw [ev3]; exact cw_S_v hs2 6 _ (by decide)
  have ev3_0 : (v3 0).toInt = (v2 0).toInt := by rw [ev3]; rfl
  exact ⟨rfl, rfl, v3, f, rfl, hs3, rfl, by first | trivial | omega | (dsimp only; omega)⟩

set_option maxRecDepth 100000 in
set_option maxHeartbeats 2000000 in
theorem c_X1_offerPair (hI : cw_I K nn dn q w e) (hs : cw_S v f) (x1 : Int32) (x2 : Int32)  : pm_Mt l g 83 0 0 0 [.ref (q 4), .int x1, .int x2] (cw A0 g K nn dn q w e v f) (cw_Qs A0 g K nn dn q w e (fun r v2 f2 => r = none ∧ (True))) := by
  refine mt_X1_offerPair rfl (fun J hC => ?_)
  have hu1 := hI.2.1
  unfold cw_W at hu1
  have ro_nn : cw_ro K nn := hI.2.1.2.1
  have ro_dn : cw_ro K dn := hI.2.1.2.2.1
  have rg_x1 := pm_rng x1
  have rg_x2 := pm_rng x2
  refine hC.1 0 0 _ _ rfl _ _ _ _ _ ?_
  refine Exists.intro _ (And.intro (cw_o4 hI.1) ?_)
  have km1 : (-1 : Int32).toInt = -1 := rfl
  refine And.intro (fun c2 => ?_) (fun c2 => ?_)
  · skip
    have dc2 : ((v 5)).toInt = ((-1 : Int32) : Int32).toInt := congrArg Int32.toInt c2
    refine hC.1 1 18 _ _ rfl _ _ _ _ _ ?_
    intro m3 em_21
    try have e3 : m3.toInt = (x2).toInt - (x1).toInt := by rw [em_21]; exact pm_sub _ _ (by omega) (by omega)
    refine Exists.intro _ (And.intro (cw_o4 hI.1) (And.intro rfl ?_))
    rw [cw_p_pairDistance hI.1]
    obtain ⟨v4, ev4⟩ : ∃ z9, z9 = upd v 5 m3 := ⟨_, rfl⟩
    rw [← ev4]
    have hs4 : cw_S v4 f := by rw [ev4]; exact cw_S_v hs 5 _ (by decide)
    have ev4_0 : (v4 0).toInt = (v 0).toInt := by rw [ev4]; rfl
    refine Exists.intro _ (And.intro (cw_o4 hI.1) (And.intro rfl ?_))
    rw [cw_p_pairFirst hI.1]
    obtain ⟨v5, ev5⟩ : ∃ z9, z9 = upd v4 6 x1 := ⟨_, rfl⟩
    rw [← ev5]
    have hs5 : cw_S v5 f := by rw [ev5]; exact cw_S_v hs4 6 _ (by decide)
    have ev5_0 : (v5 0).toInt = (v4 0).toInt := by rw [ev5]; rfl
    refine hC.1 2 30 _ _ rfl _ _ _ _ _ ?_
    exact ⟨rfl, rfl, v5, f, rfl, hs5, rfl, by first | trivial | omega | (dsimp only; omega)⟩
  · skip
    have dc2 := pm_neI c2
    intro m6 em_10
    try have e6 : m6.toInt = (x2).toInt - (x1).toInt := by rw [em_10]; exact pm_sub _ _ (by omega) (by omega)
    refine Exists.intro _ (And.intro (cw_o4 hI.1) ?_)
    refine And.intro (fun c7 => ?_) (fun c7 => ?_)
    · skip
      refine hC.1 2 30 _ _ rfl _ _ _ _ _ ?_
      exact ⟨rfl, rfl, v, f, rfl, hs, rfl, by first | trivial | omega | (dsimp only; omega)⟩
    · skip
      refine hC.1 1 18 _ _ rfl _ _ _ _ _ ?_
      intro m8 em_21
      try have e8 : m8.toInt = (x2).toInt - (x1).toInt := by rw [em_21]; exact pm_sub _ _ (by omega) (by omega)
      refine Exists.intro _ (And.intro (cw_o4 hI.1) (And.intro rfl ?_))
      rw [cw_p_pairDistance hI.1]
      obtain ⟨v9, ev9⟩ : ∃ z9, z9 = upd v 5 m8 := ⟨_, rfl⟩
      rw [← ev9]
      have hs9 : cw_S v9 f := by rw [ev9]; exact cw_S_v hs 5 _ (by decide)
      have ev9_0 : (v9 0).toInt = (v 0).toInt := by rw [ev9]; rfl
      refine Exists.intro _ (And.intro (cw_o4 hI.1) (And.intro rfl ?_))
      rw [cw_p_pairFirst hI.1]
      obtain ⟨v10, ev10⟩ : ∃ z9, z9 = upd v9 6 x1 := ⟨_, rfl⟩
      rw [← ev10]
      have hs10 : cw_S v10 f := by rw [ev10]; exact cw_S_v hs9 6 _ (by decide)
      have ev10_0 : (v10 0).toInt = (v9 0).toInt := by rw [ev10]; rfl
      refine hC.1 2 30 _ _ rfl _ _ _ _ _ ?_
      exact ⟨rfl, rfl, v10, f, rfl, hs10, rfl, by first | trivial | omega | (dsimp only; omega)⟩

set_option maxRecDepth 100000 in
set_option maxHeartbeats 2000000 in
theorem c_X1_pairFound (hI : cw_I K nn dn q w e) (hs : cw_S v f) (x1 : Int32)  : pm_Mt l g 84 0 0 0 [.ref (q 4), .int x1] (cw A0 g K nn dn q w e v f) (md_Qp (cw A0 g K nn dn q w e v f) (fun r => True)) := by
  refine mt_X1_pairFound rfl (fun J hC => ?_)
  have hu1 := hI.2.1
  unfold cw_W at hu1
  have ro_nn : cw_ro K nn := hI.2.1.2.1
  have ro_dn : cw_ro K dn := hI.2.1.2.2.1
  have rg_x1 := pm_rng x1
  refine hC.1 0 0 _ _ rfl _ _ _ _ _ ?_
  refine And.intro (fun c2 => ?_) (fun c2 => ?_)
  · skip
    have dc2 := pm_neI c2
    have k0 : (0 : Int32).toInt = 0 := rfl
    refine hC.1 1 11 _ _ rfl _ _ _ _ _ ?_
    have k1 : (1 : Int32).toInt = 1 := rfl
    refine And.intro (fun c3 => ?_) (fun c3 => ?_)
    · skip
      have dc3 := pm_neI c3
      refine hC.1 2 23 _ _ rfl _ _ _ _ _ ?_
      have km1 : (-1 : Int32).toInt = -1 := rfl
      refine hC.1 3 24 _ _ rfl _ _ _ _ _ ?_
      exact ⟨rfl, fun e9 => absurd e9 (by decide), rfl, (-1 : Int32), rfl, rfl, by first | trivial | omega | (dsimp only; omega)⟩
    · skip
      have dc3 : (x1).toInt = ((1 : Int32) : Int32).toInt := congrArg Int32.toInt c3
      refine Exists.intro _ (And.intro (cw_o4 hI.1) ?_)
      refine hC.1 3 24 _ _ rfl _ _ _ _ _ ?_
      exact ⟨rfl, fun e9 => absurd e9 (by decide), rfl, (v 6), rfl, rfl, by first | trivial | omega | (dsimp only; omega)⟩
  · skip
    have dc2 : (x1).toInt = (0 : Int32).toInt := congrArg Int32.toInt c2
    have k0 : (0 : Int32).toInt = 0 := rfl
    refine Exists.intro _ (And.intro (cw_o4 hI.1) ?_)
    refine hC.1 3 24 _ _ rfl _ _ _ _ _ ?_
    exact ⟨rfl, fun e9 => absurd e9 (by decide), rfl, (v 5), rfl, rfl, by first | trivial | omega | (dsimp only; omega)⟩

set_option maxRecDepth 100000 in
set_option maxHeartbeats 2000000 in
theorem c_X1_findNearestAlike (hI : cw_I K nn dn q w e) (hs : cw_S v f) {o1 : Nat} (ho1 : cw_ro K o1) (x2 : Int32) (x3 : Int32) (p0 : 0 ≤ x2.toInt ∧ x2.toInt ≤ x3.toInt ∧ x3.toInt < (w o1).toInt) : pm_Mt l g 81 1 0 0 [.ref (q 4), .ref (q o1), .int x2, .int x3] (cw A0 g K nn dn q w e v f) (cw_Qs A0 g K nn dn q w e (fun r v2 f2 => r = none ∧ (True))) := by
  refine mt_X1_findNearestAlike rfl (fun J hC => ?_)
  have hu1 := hI.2.1
  unfold cw_W at hu1
  have ro_nn : cw_ro K nn := hI.2.1.2.1
  have ro_dn : cw_ro K dn := hI.2.1.2.2.1
  have rg_x2 := pm_rng x2
  have rg_x3 := pm_rng x3
  have zz0 := cw_sz hI ho1
  refine hC.1 0 0 _ _ rfl _ _ _ _ _ ?_
  refine And.intro (Exists.intro _ (cw_o4 hI.1)) (Exists.intro _ (Exists.intro _ (Exists.intro _ (Exists.intro _ (And.intro (c_X1_clearPair hI hs  ) (And.intro rfl (fun r9 A9 h9 => ?_)))))))
  rcases h9 with ⟨v3, f3, rfl, hs3, rfl, by2⟩
  have lp5 : ∀ (n : Nat) (z4_7 : Int32) (v4 : Nat → Int32) (f4 : Nat → Nat → Int32), cw_S v4 f4 → (x2.toInt ≤ z4_7.toInt ∧ z4_7.toInt ≤ x3.toInt + 1) → 200 - z4_7.toInt < (n : Int) → J 7 [some (.ref (q 4)), some (.ref (q o1)), some (.int x2), some (.int x3), some (.int z4_7)] [] (cw A0 g K nn dn q w e v4 f4) 0 0 := by
    intro n
    induction n with
    | zero =>
      intro z4_7 v4 f4 hs4 j0_7 j1_7
      omega
    | succ n ih6 =>
      intro z4_7 v4 f4 hs4 j0_7 j1_7
      refine hC.1 1 7 _ _ rfl _ _ _ _ _ ?_
      refine And.intro (fun c7 => ?_) (fun c7 => ?_)
      · skip
        refine hC.1 3 43 _ _ rfl _ _ _ _ _ ?_
        exact ⟨rfl, rfl, v4, f4, rfl, hs4, rfl, by first | trivial | omega | (dsimp only; omega)⟩
      · skip
        refine Exists.intro _ (And.intro (cw_ro_o hI.1 ho1) ?_)
        refine Exists.intro _ (Exists.intro _ (And.intro (Or.inl (cw_ro_3 hI.1 ho1)) (And.intro (by omega) ?_)))
        have w8 := cw_ahd hI ho1 (z4_7).toInt.toNat
        refine And.intro (fun c9 => ?_) (fun c9 => ?_)
        · skip
          refine hC.1 2 37 _ _ rfl _ _ _ _ _ ?_
          have k1 : (1 : Int32).toInt = 1 := rfl
          intro m10 em_37
          try have e10 : m10.toInt = (z4_7).toInt + (1) := by rw [em_37]; exact pm_addc _ _ (1) rfl (by omega) (by omega)
          exact ih6 m10 v4 f4 hs4 (by omega) (by omega)
        · skip
          refine Exists.intro _ (And.intro (cw_ro_o hI.1 ho1) ?_)
          refine Exists.intro _ (Exists.intro _ (And.intro (Or.inl (cw_ro_3 hI.1 ho1)) (And.intro (by omega) ?_)))
          have w11 := cw_ahd hI ho1 (z4_7).toInt.toNat
          refine And.intro (Exists.intro _ (cw_o4 hI.1)) (Exists.intro _ (Exists.intro _ (Exists.intro _ (Exists.intro _ (And.intro (c_X1_offerPair hI hs4 (e (o1 + 3) (z4_7).toInt.toNat) z4_7 ) (And.intro rfl (fun r9 A9 h9 => ?_)))))))
          rcases h9 with ⟨v13, f13, rfl, hs13, rfl, by12⟩
          refine hC.1 2 37 _ _ rfl _ _ _ _ _ ?_
          have k1 : (1 : Int32).toInt = 1 := rfl
          intro m14 em_37
          try have e14 : m14.toInt = (z4_7).toInt + (1) := by rw [em_37]; exact pm_addc _ _ (1) rfl (by omega) (by omega)
          exact ih6 m14 v13 f13 hs13 (by omega) (by omega)
  exact lp5 (200 - x2.toInt).toNat.succ x2 v3 f3 hs3 (by omega) (by omega)

set_option maxRecDepth 100000 in
set_option maxHeartbeats 2000000 in
theorem c_X1_findNearestOfTwo (hI : cw_I K nn dn q w e) (hs : cw_S v f) {o1 : Nat} (ho1 : cw_ro K o1) (x2 : Int32) (x3 : Int32)  : pm_Mt l g 99 1 0 0 [.ref (q 4), .ref (q o1), .int x2, .int x3] (cw A0 g K nn dn q w e v f) (cw_Qs A0 g K nn dn q w e (fun r v2 f2 => r = none ∧ (True))) := by
  refine mt_X1_findNearestOfTwo rfl (fun J hC => ?_)
  have hu1 := hI.2.1
  unfold cw_W at hu1
  have ro_nn : cw_ro K nn := hI.2.1.2.1
  have ro_dn : cw_ro K dn := hI.2.1.2.2.1
  have rg_x2 := pm_rng x2
  have rg_x3 := pm_rng x3
  have zz0 := cw_sz hI ho1
  refine hC.1 0 0 _ _ rfl _ _ _ _ _ ?_
  refine And.intro (Exists.intro _ (cw_o4 hI.1)) (Exists.intro _ (Exists.intro _ (Exists.intro _ (Exists.intro _ (And.intro (c_X1_clearPair hI hs  ) (And.intro rfl (fun r9 A9 h9 => ?_)))))))
  rcases h9 with ⟨v3, f3, rfl, hs3, rfl, by2⟩
  have km1 : (-1 : Int32).toInt = -1 := rfl
  have k0 : (0 : Int32).toInt = 0 := rfl
  have lp5 : ∀ (n : Nat) (z4_13 : Int32) (z5_13 : Int32) (z6_13 : Int32) (v4 : Nat → Int32) (f4 : Nat → Nat → Int32), cw_S v4 f4 → (0 ≤ z6_13.toInt ∧ z6_13.toInt ≤ 160) → 200 - z6_13.toInt < (n : Int) → J 13 [some (.ref (q 4)), some (.ref (q o1)), some (.int x2), some (.int x3), some (.int z4_13), some (.int z5_13), some (.int z6_13)] [] (cw A0 g K nn dn q w e v4 f4) 0 0 := by
    intro n
    induction n with
    | zero =>
      intro z4_13 z5_13 z6_13 v4 f4 hs4 j0_13 j1_13
      omega
    | succ n ih6 =>
      intro z4_13 z5_13 z6_13 v4 f4 hs4 j0_13 j1_13
      refine hC.1 1 13 _ _ rfl _ _ _ _ _ ?_
      refine Exists.intro _ (And.intro (cw_ro_o hI.1 ho1) ?_)
      have z7 := cw_sz hI ho1
      refine And.intro (fun c8 => ?_) (fun c8 => ?_)
      · skip
        refine hC.1 4 89 _ _ rfl _ _ _ _ _ ?_
        exact ⟨rfl, rfl, v4, f4, rfl, hs4, rfl, by first | trivial | omega | (dsimp only; omega)⟩
      · skip
        refine Exists.intro _ (And.intro (cw_ro_o hI.1 ho1) ?_)
        refine Exists.intro _ (Exists.intro _ (And.intro (Or.inl (cw_ro_1 hI.1 ho1)) (And.intro (by omega) ?_)))
        have w9 := cw_col hI ho1 (z6_13).toInt.toNat
        refine And.intro (fun c10 => ?_) (fun c10 => ?_)
        · skip
          have dc10 := pm_neI c10
          refine hC.1 2 54 _ _ rfl _ _ _ _ _ ?_
          refine Exists.intro _ (And.intro (cw_ro_o hI.1 ho1) ?_)
          refine Exists.intro _ (Exists.intro _ (And.intro (Or.inl (cw_ro_1 hI.1 ho1)) (And.intro (by omega) ?_)))
          have w11 := cw_col hI ho1 (z6_13).toInt.toNat
          refine And.intro (fun c12 => ?_) (fun c12 => ?_)
          · skip
            have dc12 := pm_neI c12
            refine hC.1 3 83 _ _ rfl _ _ _ _ _ ?_
            have k1 : (1 : Int32).toInt = 1 := rfl
            intro m13 em_83
            try have e13 : m13.toInt = (z6_13).toInt + (1) := by rw [em_83]; exact pm_addc _ _ (1) rfl (by omega) (by omega)
            exact ih6 z4_13 z5_13 m13 v4 f4 hs4 (by omega) (by omega)
          · skip
            have dc12 : ((e (o1 + 1) (z6_13).toInt.toNat)).toInt = (x3 : Int32).toInt := congrArg Int32.toInt c12
            refine And.intro (fun c14 => ?_) (fun c14 => ?_)
            · skip
              have dc14 : (z4_13).toInt = ((-1 : Int32) : Int32).toInt := congrArg Int32.toInt c14
              refine hC.1 3 83 _ _ rfl _ _ _ _ _ ?_
              have k1 : (1 : Int32).toInt = 1 := rfl
              intro m15 em_83
              try have e15 : m15.toInt = (z6_13).toInt + (1) := by rw [em_83]; exact pm_addc _ _ (1) rfl (by omega) (by omega)
              exact ih6 z4_13 z6_13 m15 v4 f4 hs4 (by omega) (by omega)
            · skip
              have dc14 := pm_neI c14
              refine And.intro (Exists.intro _ (cw_o4 hI.1)) (Exists.intro _ (Exists.intro _ (Exists.intro _ (Exists.intro _ (And.intro (c_X1_offerPair hI hs4 z4_13 z6_13 ) (And.intro rfl (fun r9 A9 h9 => ?_)))))))
              rcases h9 with ⟨v17, f17, rfl, hs17, rfl, by16⟩
              refine hC.1 3 83 _ _ rfl _ _ _ _ _ ?_
              have k1 : (1 : Int32).toInt = 1 := rfl
              intro m18 em_83
              try have e18 : m18.toInt = (z6_13).toInt + (1) := by rw [em_83]; exact pm_addc _ _ (1) rfl (by omega) (by omega)
              exact ih6 z4_13 z6_13 m18 v17 f17 hs17 (by omega) (by omega)
        · skip
          have dc10 : ((e (o1 + 1) (z6_13).toInt.toNat)).toInt = (x2 : Int32).toInt := congrArg Int32.toInt c10
          refine And.intro (fun c19 => ?_) (fun c19 => ?_)
          · skip
            have dc19 : (z5_13).toInt = ((-1 : Int32) : Int32).toInt := congrArg Int32.toInt c19
            refine hC.1 3 83 _ _ rfl _ _ _ _ _ ?_
            have k1 : (1 : Int32).toInt = 1 := rfl
            intro m20 em_83
            try have e20 : m20.toInt = (z6_13).toInt + (1) := by rw [em_83]; exact pm_addc _ _ (1) rfl (by omega) (by omega)
            exact ih6 z6_13 z5_13 m20 v4 f4 hs4 (by omega) (by omega)
          · skip
            have dc19 := pm_neI c19
            refine And.intro (Exists.intro _ (cw_o4 hI.1)) (Exists.intro _ (Exists.intro _ (Exists.intro _ (Exists.intro _ (And.intro (c_X1_offerPair hI hs4 z5_13 z6_13 ) (And.intro rfl (fun r9 A9 h9 => ?_)))))))
            rcases h9 with ⟨v22, f22, rfl, hs22, rfl, by21⟩
            refine hC.1 3 83 _ _ rfl _ _ _ _ _ ?_
            have k1 : (1 : Int32).toInt = 1 := rfl
            intro m23 em_83
            try have e23 : m23.toInt = (z6_13).toInt + (1) := by rw [em_83]; exact pm_addc _ _ (1) rfl (by omega) (by omega)
            exact ih6 z6_13 z5_13 m23 v22 f22 hs22 (by omega) (by omega)
  exact lp5 (200 - (0 : Int32).toInt).toNat.succ (-1 : Int32) (-1 : Int32) (0 : Int32) v3 f3 hs3 (by omega) (by omega)

set_option maxRecDepth 100000 in
set_option maxHeartbeats 2000000 in
theorem c_X1_unlikeTwos (hI : cw_I K nn dn q w e) (hs : cw_S v f) {o1 : Nat} (ho1 : cw_ro K o1) (x2 : Int32) (x3 : Int32) (p0 : 0 ≤ x2.toInt ∧ x2.toInt ≤ x3.toInt ∧ x3.toInt < (w o1).toInt) : pm_Mt l g 86 1 0 0 [.ref (q 4), .ref (q o1), .int x2, .int x3] (cw A0 g K nn dn q w e v f) (cw_Qs A0 g K nn dn q w e (fun r v2 f2 => ∃ x : Int32, r = some (.int x) ∧ (True))) := by
  refine mt_X1_unlikeTwos rfl (fun J hC => ?_)
  have hu1 := hI.2.1
  unfold cw_W at hu1
  have ro_nn : cw_ro K nn := hI.2.1.2.1
  have ro_dn : cw_ro K dn := hI.2.1.2.2.1
  have rg_x2 := pm_rng x2
  have rg_x3 := pm_rng x3
  have zz0 := cw_sz hI ho1
  refine hC.1 0 0 _ _ rfl _ _ _ _ _ ?_
  refine Exists.intro _ (And.intro (cw_o4 hI.1) ?_)
  have k0 : (0 : Int32).toInt = 0 := rfl
  refine Exists.intro _ (Exists.intro _ (Exists.intro _ (Exists.intro _ (And.intro (c_fill (cw_a20 hI.1) (by decide) (0 : Int32)) (And.intro rfl (fun r9 A9 h9 => ?_))))))
  obtain ⟨rfl, rfl⟩ := h9
  rw [cw_s20 hI.1]
  obtain ⟨f2, ef2⟩ : ∃ z9, z9 = va_up f 20 (fun j => if j < 24 then (0 : Int32) else f 20 j) := ⟨_, rfl⟩
  rw [← ef2]
  have hs2 : cw_S v f2 := by rw [ef2]; exact cw_S_fr hs _ _ (by decide) (by decide)
  have k1 : (1 : Int32).toInt = 1 := rfl
  intro m3 em_13
  try have e3 : m3.toInt = (x2).toInt + (1) := by rw [em_13]; exact pm_addc _ _ (1) rfl (by omega) (by omega)
  have lp5 : ∀ (n : Nat) (z4_16 : Int32) (z5_16 : Int32) (v4 : Nat → Int32) (f4 : Nat → Nat → Int32), cw_S v4 f4 → (x2.toInt + 1 ≤ z5_16.toInt ∧ z5_16.toInt ≤ x3.toInt + 1) → 200 - z5_16.toInt < (n : Int) → J 16 [some (.ref (q 4)), some (.ref (q o1)), some (.int x2), some (.int x3), some (.int z4_16), some (.int z5_16), none, none] [] (cw A0 g K nn dn q w e v4 f4) 0 0 := by
    intro n
    induction n with
    | zero =>
      intro z4_16 z5_16 v4 f4 hs4 j0_16 j1_16
      omega
    | succ n ih6 =>
      intro z4_16 z5_16 v4 f4 hs4 j0_16 j1_16
      refine hC.1 1 16 _ _ rfl _ _ _ _ _ ?_
      refine And.intro (fun c7 => ?_) (fun c7 => ?_)
      · skip
        refine hC.1 3 109 _ _ rfl _ _ _ _ _ ?_
        exact ⟨rfl, fun e9 => absurd e9 (by decide), rfl, v4, f4, rfl, hs4, z4_16, rfl, by first | trivial | omega | (dsimp only; omega)⟩
      · skip
        refine Exists.intro _ (And.intro (cw_ro_o hI.1 ho1) ?_)
        intro m8 em_29
        try have e8 : m8.toInt = (z5_16).toInt - (1) := by rw [em_29]; exact pm_subc _ _ (1) rfl (by omega) (by omega)
        refine Exists.intro _ (Exists.intro _ (And.intro (Or.inl (cw_ro_1 hI.1 ho1)) (And.intro (by omega) ?_)))
        have w9 := cw_col hI ho1 (m8).toInt.toNat
        refine Exists.intro _ (And.intro (cw_ro_o hI.1 ho1) ?_)
        refine Exists.intro _ (Exists.intro _ (And.intro (Or.inl (cw_ro_1 hI.1 ho1)) (And.intro (by omega) ?_)))
        have w10 := cw_col hI ho1 (z5_16).toInt.toNat
        refine Exists.intro _ (Exists.intro _ (Exists.intro _ (Exists.intro _ (And.intro (c_J9_min_7cf53 (cw A0 g K nn dn q w e v4 f4) (e (o1 + 1) (m8).toInt.toNat) (e (o1 + 1) (z5_16).toInt.toNat) ) (And.intro rfl (fun r9 A9 h9 => ?_))))))
        obtain ⟨y11, rfl, rfl, by11⟩ := h9
        refine Exists.intro _ (And.intro (cw_ro_o hI.1 ho1) ?_)
        intro m13 em_50
        try have e13 : m13.toInt = (z5_16).toInt - (1) := by rw [em_50]; exact pm_subc _ _ (1) rfl (by omega) (by omega)
        refine Exists.intro _ (Exists.intro _ (And.intro (Or.inl (cw_ro_1 hI.1 ho1)) (And.intro (by omega) ?_)))
        have w14 := cw_col hI ho1 (m13).toInt.toNat
        refine Exists.intro _ (And.intro (cw_ro_o hI.1 ho1) ?_)
        refine Exists.intro _ (Exists.intro _ (And.intro (Or.inl (cw_ro_1 hI.1 ho1)) (And.intro (by omega) ?_)))
        have w15 := cw_col hI ho1 (z5_16).toInt.toNat
        refine Exists.intro _ (Exists.intro _ (Exists.intro _ (Exists.intro _ (And.intro (c_J9_max_7cf53 (cw A0 g K nn dn q w e v4 f4) (e (o1 + 1) (m13).toInt.toNat) (e (o1 + 1) (z5_16).toInt.toNat) ) (And.intro rfl (fun r9 A9 h9 => ?_))))))
        obtain ⟨y16, rfl, rfl, by16⟩ := h9
        refine And.intro (fun c18 => ?_) (fun c18 => ?_)
        · skip
          have dc18 : (y11).toInt = (y16 : Int32).toInt := congrArg Int32.toInt c18
          refine hC.1 2 103 _ _ rfl _ _ _ _ _ ?_
          intro m19 em_103
          try have e19 : m19.toInt = (z5_16).toInt + (1) := by rw [em_103]; exact pm_addc _ _ (1) rfl (by omega) (by omega)
          exact hC.2 [false, false, false, false, false, false, true, true] _ _ _ _ _ _ (ih6 z4_16 m19 v4 f4 hs4 (by omega) (by omega))
        · skip
          have dc18 := pm_neI c18
          refine Exists.intro _ (And.intro (cw_o4 hI.1) ?_)
          refine Exists.intro _ (Exists.intro _ (And.intro (Or.inl (cw_a20 hI.1)) (And.intro (by omega) ?_)))
          refine And.intro (fun c20 => ?_) (fun c20 => ?_)
          · skip
            have dc20 := pm_neI c20
            refine hC.1 2 103 _ _ rfl _ _ _ _ _ ?_
            intro m21 em_103
            try have e21 : m21.toInt = (z5_16).toInt + (1) := by rw [em_103]; exact pm_addc _ _ (1) rfl (by omega) (by omega)
            exact hC.2 [false, false, false, false, false, false, true, true] _ _ _ _ _ _ (ih6 z4_16 m21 v4 f4 hs4 (by omega) (by omega))
          · skip
            have dc20 : (((f4 20 (y11).toInt.toNat) &&& ((1 : Int32) <<< (y16 &&& 31)))).toInt = (0 : Int32).toInt := congrArg Int32.toInt c20
            refine Exists.intro _ (And.intro (cw_o4 hI.1) ?_)
            refine Exists.intro _ (Exists.intro _ (And.intro (Or.inl (cw_a20 hI.1)) (And.intro (by omega) ?_)))
            refine Exists.intro _ (Exists.intro _ (And.intro (cw_a20 hI.1) (And.intro (by omega) ?_)))
            rw [cw_s20 hI.1]
            obtain ⟨f22, ef22⟩ : ∃ z9, z9 = va_up f4 20 (upd (f4 20) (y11).toInt.toNat ((f4 20 (y11).toInt.toNat) ||| ((1 : Int32) <<< (y16 &&& 31)))) := ⟨_, rfl⟩
            rw [← ef22]
            have hs22 : cw_S v4 f22 := by rw [ef22]; exact cw_S_fr hs4 _ _ (by decide) (by decide)
            intro m23 em_100
            try have e23 : m23.toInt = (z4_16).toInt + (1) := by rw [em_100]; exact pm_addc _ _ (1) rfl (by omega) (by omega)
            refine hC.1 2 103 _ _ rfl _ _ _ _ _ ?_
            intro m24 em_103
            try have e24 : m24.toInt = (z5_16).toInt + (1) := by rw [em_103]; exact pm_addc _ _ (1) rfl (by omega) (by omega)
            exact hC.2 [false, false, false, false, false, false, true, true] _ _ _ _ _ _ (ih6 m23 m24 v4 f22 hs22 (by omega) (by omega))
  exact lp5 (200 - m3.toInt).toNat.succ (0 : Int32) m3 v f2 hs2 (by omega) (by omega)

set_option maxRecDepth 100000 in
set_option maxHeartbeats 2000000 in
theorem c_X1_coveringLength (hI : cw_I K nn dn q w e) (hs : cw_S v f) {o1 : Nat} (ho1 : cw_ro K o1) (x3 : Int32) (x4 : Int32) (p0 : 0 ≤ x3.toInt ∧ x3.toInt ≤ x4.toInt ∧ x4.toInt < (w o1).toInt) : pm_Mt l g 89 3 0 0 [.ref (q 4), .ref (q o1), .ref (q 2), .int x3, .int x4] (cw A0 g K nn dn q w e v f) (cw_Qs A0 g K nn dn q w e (fun r v2 f2 => ∃ x : Int32, r = some (.int x) ∧ (True))) := by
  refine mt_X1_coveringLength rfl (fun J hC => ?_)
  have hu1 := hI.2.1
  unfold cw_W at hu1
  have ro_nn : cw_ro K nn := hI.2.1.2.1
  have ro_dn : cw_ro K dn := hI.2.1.2.2.1
  have rg_x3 := pm_rng x3
  have rg_x4 := pm_rng x4
  have zz0 := cw_sz hI ho1
  refine hC.1 0 0 _ _ rfl _ _ _ _ _ ?_
  refine And.intro (Exists.intro _ (cw_o2 hI.1)) (Exists.intro _ (Exists.intro _ (Exists.intro _ (Exists.intro _ (And.intro (c_X2_read hI hs ho1 x3 x4 ) (And.intro rfl (fun r9 A9 h9 => ?_)))))))
  rcases h9 with ⟨v3, f3, rfl, hs3, rfl, by2⟩
  refine Exists.intro _ (And.intro (cw_o4 hI.1) ?_)
  have k1 : (1 : Int32).toInt = 1 := rfl
  intro m4 em_14
  try have e4 : m4.toInt = (x3).toInt - (1) := by rw [em_14]; exact pm_subc _ _ (1) rfl (by omega) (by omega)
  refine Exists.intro _ (Exists.intro _ (Exists.intro _ (Exists.intro _ (And.intro (c_fill (cw_a19 hI.1) (by decide) m4) (And.intro rfl (fun r9 A9 h9 => ?_))))))
  obtain ⟨rfl, rfl⟩ := h9
  rw [cw_s19 hI.1]
  obtain ⟨f5, ef5⟩ : ∃ z9, z9 = va_up f3 19 (fun j => if j < 24 then m4 else f3 19 j) := ⟨_, rfl⟩
  rw [← ef5]
  have hs5 : cw_S v3 f5 := by rw [ef5]; exact cw_S_fr hs3 _ _ (by decide) (by decide)
  have lp7 : ∀ (n : Nat) (z5_24 : Int32) (z6_24 : Int32) (v6 : Nat → Int32) (f6 : Nat → Nat → Int32), cw_S v6 f6 → (x3.toInt ≤ z6_24.toInt ∧ z6_24.toInt ≤ x4.toInt + 1) → 200 - z6_24.toInt < (n : Int) → J 24 [some (.ref (q 4)), some (.ref (q o1)), some (.ref (q 2)), some (.int x3), some (.int x4), some (.int z5_24), some (.int z6_24), none] [] (cw A0 g K nn dn q w e v6 f6) 0 0 := by
    intro n
    induction n with
    | zero =>
      intro z5_24 z6_24 v6 f6 hs6 j0_24 j1_24
      omega
    | succ n ih8 =>
      intro z5_24 z6_24 v6 f6 hs6 j0_24 j1_24
      refine hC.1 1 24 _ _ rfl _ _ _ _ _ ?_
      refine And.intro (fun c9 => ?_) (fun c9 => ?_)
      · skip
        refine hC.1 2 72 _ _ rfl _ _ _ _ _ ?_
        have k0 : (0 : Int32).toInt = 0 := rfl
        have lp11 : ∀ (n : Nat) (z5_75 : Int32) (z6_75 : Int32), (0 ≤ z6_75.toInt ∧ z6_75.toInt ≤ 24) → 200 - z6_75.toInt < (n : Int) → J 75 [some (.ref (q 4)), some (.ref (q o1)), some (.ref (q 2)), some (.int x3), some (.int x4), some (.int z5_75), some (.int z6_75), none] [] (cw A0 g K nn dn q w e v6 f6) 0 0 := by
          intro n
          induction n with
          | zero =>
            intro z5_75 z6_75 j0_75 j1_75
            omega
          | succ n ih12 =>
            intro z5_75 z6_75 j0_75 j1_75
            refine hC.1 3 75 _ _ rfl _ _ _ _ _ ?_
            have k24 : (24 : Int32).toInt = 24 := rfl
            refine And.intro (fun c13 => ?_) (fun c13 => ?_)
            · skip
              refine hC.1 5 117 _ _ rfl _ _ _ _ _ ?_
              exact ⟨rfl, fun e9 => absurd e9 (by decide), rfl, v6, f6, rfl, hs6, z5_75, rfl, by first | trivial | omega | (dsimp only; omega)⟩
            · skip
              refine Exists.intro _ (And.intro (cw_o2 hI.1) ?_)
              refine Exists.intro _ (Exists.intro _ (And.intro (Or.inl (cw_a14 hI.1)) (And.intro (by omega) ?_)))
              refine And.intro (fun c14 => ?_) (fun c14 => ?_)
              · skip
                refine hC.1 4 111 _ _ rfl _ _ _ _ _ ?_
                intro m15 em_111
                try have e15 : m15.toInt = (z6_75).toInt + (1) := by rw [em_111]; exact pm_addc _ _ (1) rfl (by omega) (by omega)
                exact ih12 z5_75 m15 (by omega) (by omega)
              · skip
                intro m16 em_97
                try have e16 : m16.toInt = (x4).toInt + (1) := by rw [em_97]; exact pm_addc _ _ (1) rfl (by omega) (by omega)
                refine Exists.intro _ (And.intro (cw_o4 hI.1) ?_)
                refine Exists.intro _ (Exists.intro _ (And.intro (Or.inl (cw_a19 hI.1)) (And.intro (by omega) ?_)))
                intro m17 em_105
                try have e17 : m17.toInt = (m16).toInt - ((f6 19 (z6_75).toInt.toNat)).toInt := by rw [em_105]; exact pm_sub _ _ (by omega) (by omega)
                refine Exists.intro _ (Exists.intro _ (Exists.intro _ (Exists.intro _ (And.intro (c_J9_max_7cf53 (cw A0 g K nn dn q w e v6 f6) z5_75 m17 ) (And.intro rfl (fun r9 A9 h9 => ?_))))))
                obtain ⟨y18, rfl, rfl, by18⟩ := h9
                refine hC.1 4 111 _ _ rfl _ _ _ _ _ ?_
                intro m20 em_111
                try have e20 : m20.toInt = (z6_75).toInt + (1) := by rw [em_111]; exact pm_addc _ _ (1) rfl (by omega) (by omega)
                exact ih12 y18 m20 (by omega) (by omega)
        exact lp11 (200 - (0 : Int32).toInt).toNat.succ z5_24 (0 : Int32) (by omega) (by omega)
      · skip
        refine Exists.intro _ (And.intro (cw_ro_o hI.1 ho1) ?_)
        refine Exists.intro _ (Exists.intro _ (And.intro (Or.inl (cw_ro_1 hI.1 ho1)) (And.intro (by omega) ?_)))
        have w21 := cw_col hI ho1 (z6_24).toInt.toNat
        refine Exists.intro _ (And.intro (cw_o4 hI.1) ?_)
        refine Exists.intro _ (Exists.intro _ (And.intro (Or.inl (cw_a19 hI.1)) (And.intro (by omega) ?_)))
        intro m22 em_51
        try have e22 : m22.toInt = (z6_24).toInt - ((f6 19 ((e (o1 + 1) (z6_24).toInt.toNat)).toInt.toNat)).toInt := by rw [em_51]; exact pm_sub _ _ (by omega) (by omega)
        refine Exists.intro _ (Exists.intro _ (Exists.intro _ (Exists.intro _ (And.intro (c_J9_max_7cf53 (cw A0 g K nn dn q w e v6 f6) z5_24 m22 ) (And.intro rfl (fun r9 A9 h9 => ?_))))))
        obtain ⟨y23, rfl, rfl, by23⟩ := h9
        refine Exists.intro _ (And.intro (cw_o4 hI.1) ?_)
        refine Exists.intro _ (Exists.intro _ (And.intro (cw_a19 hI.1) (And.intro (by omega) ?_)))
        rw [cw_s19 hI.1]
        obtain ⟨f25, ef25⟩ : ∃ z9, z9 = va_up f6 19 (upd (f6 19) ((e (o1 + 1) (z6_24).toInt.toNat)).toInt.toNat z6_24) := ⟨_, rfl⟩
        rw [← ef25]
        have hs25 : cw_S v6 f25 := by rw [ef25]; exact cw_S_fr hs6 _ _ (by decide) (by decide)
        intro m26 em_66
        try have e26 : m26.toInt = (z6_24).toInt + (1) := by rw [em_66]; exact pm_addc _ _ (1) rfl (by omega) (by omega)
        exact hC.2 [false, false, false, false, false, false, false, true] _ _ _ _ _ _ (ih8 y23 m26 v6 f25 hs25 (by omega) (by omega))
  exact lp7 (200 - x3.toInt).toNat.succ (1 : Int32) x3 v3 f5 hs5 (by omega) (by omega)

end
