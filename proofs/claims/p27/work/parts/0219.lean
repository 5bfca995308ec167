section
variable {l : Launch} {g : pm_G} {A0 : pm_H} {K nn dn : Nat} {q : Nat → Nat} {w : Nat → Int32} {e : Nat → Nat → Int32} {v : Nat → Int32} {f : Nat → Nat → Int32}
set_option maxRecDepth 100000 in
set_option maxHeartbeats 2000000 in
theorem c_X0_colourInOrder (hI : cw_I K nn dn q w e) (hs : cw_S v f) {o1 : Nat} (ho1 : cw_ro K o1) (x3 : Int32) (x4 : Int32) (x5 : Int32) (x6 : Int32) (p0 : 0 ≤ x3.toInt ∧ x3.toInt ≤ x4.toInt ∧ x4.toInt < (w o1).toInt) : pm_Mt l g 68 2 0 0 [.ref (q 3), .ref (q o1), .ref (q 2), .int x3, .int x4, .int x5, .int x6] (cw A0 g K nn dn q w e v f) (cw_Qs A0 g K nn dn q w e (fun r v2 f2 => ∃ x : Int32, r = some (.int x) ∧ (True))) := by
  refine mt_X0_colourInOrder rfl (fun J hC => ?_)
  have ro_nn : cw_ro K nn := hI.2.1.2.1
  have ro_dn : cw_ro K dn := hI.2.1.2.2.1
  have hu1 := hI.2.1
  unfold cw_W at hu1
  have rg_x3 := pm_rng x3
  have rg_x4 := pm_rng x4
  have rg_x5 := pm_rng x5
  have rg_x6 := pm_rng x6
  have zz0 := cw_sz hI ho1
  refine hC.1 0 0 _ _ rfl _ _ _ _ _ ?_
  refine pm_swc 5 rfl (by decide) ?_ ?_
  · intro _
    refine hC.1 6 95 _ _ rfl _ _ _ _ _ ?_
    have km1 : (-1 : Int32).toInt = -1 := rfl
    exact ⟨rfl, fun e9 => absurd e9 (by decide), rfl, v, f, rfl, hs, (-1 : Int32), rfl, by exact True.intro⟩
  · intro i9 hi9 he9
    rcases (show i9 = 0 ∨ i9 = 1 ∨ i9 = 2 ∨ i9 = 3 ∨ i9 = 4 by omega) with rfl | rfl | rfl | rfl | rfl
    · skip
      refine hC.1 1 36 _ _ rfl _ _ _ _ _ ?_
      have k1 : (1 : Int32).toInt = 1 := rfl
      refine And.intro (Exists.intro _ (cw_o3 hI.1)) (Exists.intro _ (Exists.intro _ (Exists.intro _ (Exists.intro _ (And.intro (c_X0_listAsMet__c1 hI hs ho1 x3 x4 (by omega)) (And.intro rfl (fun r9 A9 h9 => ?_)))))))
      rcases h9 with ⟨v5, f5, rfl, hs5, rfl, by4⟩
      refine hC.1 7 97 _ _ rfl _ _ _ _ _ ?_
      refine And.intro (fun c6 => ?_) (fun c6 => ?_)
      · skip
        refine hC.1 8 121 _ _ rfl _ _ _ _ _ ?_
        have km1 : (-1 : Int32).toInt = -1 := rfl
        refine hC.1 9 122 _ _ rfl _ _ _ _ _ ?_
        exact ⟨rfl, fun e9 => absurd e9 (by decide), rfl, v5, f5, rfl, hs5, (-1 : Int32), rfl, by exact True.intro⟩
      · skip
        refine Exists.intro _ (And.intro (cw_o3 hI.1) ?_)
        have z7 := hs5.1
        refine And.intro (fun c8 => ?_) (fun c8 => ?_)
        · skip
          refine hC.1 8 121 _ _ rfl _ _ _ _ _ ?_
          have km1 : (-1 : Int32).toInt = -1 := rfl
          refine hC.1 9 122 _ _ rfl _ _ _ _ _ ?_
          exact ⟨rfl, fun e9 => absurd e9 (by decide), rfl, v5, f5, rfl, hs5, (-1 : Int32), rfl, by exact True.intro⟩
        · skip
          refine Exists.intro _ (And.intro (cw_o3 hI.1) ?_)
          refine Exists.intro _ (Exists.intro _ (And.intro (Or.inl (cw_a16 hI.1)) (And.intro (by omega) ?_)))
          have w9 := hs5.2.1 (x5).toInt.toNat
          refine hC.1 9 122 _ _ rfl _ _ _ _ _ ?_
          exact ⟨rfl, fun e9 => absurd e9 (by decide), rfl, v5, f5, rfl, hs5, (f5 16 (x5).toInt.toNat), rfl, by exact True.intro⟩
    · skip
      refine hC.1 2 48 _ _ rfl _ _ _ _ _ ?_
      have km1 : (-1 : Int32).toInt = -1 := rfl
      refine And.intro (Exists.intro _ (cw_o3 hI.1)) (Exists.intro _ (Exists.intro _ (Exists.intro _ (Exists.intro _ (And.intro (c_X0_listAsMet__cm1 hI hs ho1 x4 x3 (by omega)) (And.intro rfl (fun r9 A9 h9 => ?_)))))))
      rcases h9 with ⟨v11, f11, rfl, hs11, rfl, by10⟩
      refine hC.1 7 97 _ _ rfl _ _ _ _ _ ?_
      refine And.intro (fun c12 => ?_) (fun c12 => ?_)
      · skip
        refine hC.1 8 121 _ _ rfl _ _ _ _ _ ?_
        refine hC.1 9 122 _ _ rfl _ _ _ _ _ ?_
        exact ⟨rfl, fun e9 => absurd e9 (by decide), rfl, v11, f11, rfl, hs11, (-1 : Int32), rfl, by exact True.intro⟩
      · skip
        refine Exists.intro _ (And.intro (cw_o3 hI.1) ?_)
        have z13 := hs11.1
        refine And.intro (fun c14 => ?_) (fun c14 => ?_)
        · skip
          refine hC.1 8 121 _ _ rfl _ _ _ _ _ ?_
          refine hC.1 9 122 _ _ rfl _ _ _ _ _ ?_
          exact ⟨rfl, fun e9 => absurd e9 (by decide), rfl, v11, f11, rfl, hs11, (-1 : Int32), rfl, by exact True.intro⟩
        · skip
          refine Exists.intro _ (And.intro (cw_o3 hI.1) ?_)
          refine Exists.intro _ (Exists.intro _ (And.intro (Or.inl (cw_a16 hI.1)) (And.intro (by omega) ?_)))
          have w15 := hs11.2.1 (x5).toInt.toNat
          refine hC.1 9 122 _ _ rfl _ _ _ _ _ ?_
          exact ⟨rfl, fun e9 => absurd e9 (by decide), rfl, v11, f11, rfl, hs11, (f11 16 (x5).toInt.toNat), rfl, by exact True.intro⟩
    · skip
      refine hC.1 3 60 _ _ rfl _ _ _ _ _ ?_
      refine Exists.intro _ (And.intro (cw_o2 hI.1) ?_)
      refine And.intro (Exists.intro _ (cw_o3 hI.1)) (Exists.intro _ (Exists.intro _ (Exists.intro _ (Exists.intro _ (And.intro (c_X0_colourOf hI hs (v 3) x5 ) (And.intro rfl (fun r9 A9 h9 => ?_)))))))
      obtain ⟨y16, rfl, rfl, by16⟩ := h9
      exact ⟨rfl, fun e9 => absurd e9 (by decide), rfl, v, f, rfl, hs, y16, rfl, by exact True.intro⟩
    · skip
      refine hC.1 4 71 _ _ rfl _ _ _ _ _ ?_
      refine Exists.intro _ (And.intro (cw_o2 hI.1) ?_)
      refine And.intro (Exists.intro _ (cw_o3 hI.1)) (Exists.intro _ (Exists.intro _ (Exists.intro _ (Exists.intro _ (And.intro (c_X0_listByMost__15 hI hs  ) (And.intro rfl (fun r9 A9 h9 => ?_)))))))
      rcases h9 with ⟨v19, f19, rfl, hs19, rfl, by18⟩
      refine hC.1 7 97 _ _ rfl _ _ _ _ _ ?_
      refine And.intro (fun c20 => ?_) (fun c20 => ?_)
      · skip
        refine hC.1 8 121 _ _ rfl _ _ _ _ _ ?_
        have km1 : (-1 : Int32).toInt = -1 := rfl
        refine hC.1 9 122 _ _ rfl _ _ _ _ _ ?_
        exact ⟨rfl, fun e9 => absurd e9 (by decide), rfl, v19, f19, rfl, hs19, (-1 : Int32), rfl, by exact True.intro⟩
      · skip
        refine Exists.intro _ (And.intro (cw_o3 hI.1) ?_)
        have z21 := hs19.1
        refine And.intro (fun c22 => ?_) (fun c22 => ?_)
        · skip
          refine hC.1 8 121 _ _ rfl _ _ _ _ _ ?_
          have km1 : (-1 : Int32).toInt = -1 := rfl
          refine hC.1 9 122 _ _ rfl _ _ _ _ _ ?_
          exact ⟨rfl, fun e9 => absurd e9 (by decide), rfl, v19, f19, rfl, hs19, (-1 : Int32), rfl, by exact True.intro⟩
        · skip
          refine Exists.intro _ (And.intro (cw_o3 hI.1) ?_)
          refine Exists.intro _ (Exists.intro _ (And.intro (Or.inl (cw_a16 hI.1)) (And.intro (by omega) ?_)))
          have w23 := hs19.2.1 (x5).toInt.toNat
          refine hC.1 9 122 _ _ rfl _ _ _ _ _ ?_
          exact ⟨rfl, fun e9 => absurd e9 (by decide), rfl, v19, f19, rfl, hs19, (f19 16 (x5).toInt.toNat), rfl, by exact True.intro⟩
    · skip
      refine hC.1 5 83 _ _ rfl _ _ _ _ _ ?_
      refine Exists.intro _ (And.intro (cw_o2 hI.1) ?_)
      refine And.intro (Exists.intro _ (cw_o3 hI.1)) (Exists.intro _ (Exists.intro _ (Exists.intro _ (Exists.intro _ (And.intro (c_X0_listByMost__14 hI hs  ) (And.intro rfl (fun r9 A9 h9 => ?_)))))))
      rcases h9 with ⟨v25, f25, rfl, hs25, rfl, by24⟩
      refine hC.1 7 97 _ _ rfl _ _ _ _ _ ?_
      refine And.intro (fun c26 => ?_) (fun c26 => ?_)
      · skip
        refine hC.1 8 121 _ _ rfl _ _ _ _ _ ?_
        have km1 : (-1 : Int32).toInt = -1 := rfl
        refine hC.1 9 122 _ _ rfl _ _ _ _ _ ?_
        exact ⟨rfl, fun e9 => absurd e9 (by decide), rfl, v25, f25, rfl, hs25, (-1 : Int32), rfl, by exact True.intro⟩
      · skip
        refine Exists.intro _ (And.intro (cw_o3 hI.1) ?_)
        have z27 := hs25.1
        refine And.intro (fun c28 => ?_) (fun c28 => ?_)
        · skip
          refine hC.1 8 121 _ _ rfl _ _ _ _ _ ?_
          have km1 : (-1 : Int32).toInt = -1 := rfl
          refine hC.1 9 122 _ _ rfl _ _ _ _ _ ?_
          exact ⟨rfl, fun e9 => absurd e9 (by decide), rfl, v25, f25, rfl, hs25, (-1 : Int32), rfl, by exact True.intro⟩
        · skip
          refine Exists.intro _ (And.intro (cw_o3 hI.1) ?_)
          refine Exists.intro _ (Exists.intro _ (And.intro (Or.inl (cw_a16 hI.1)) (And.intro (by omega) ?_)))
          have w29 := hs25.2.1 (x5).toInt.toNat
          refine hC.1 9 122 _ _ rfl _ _ _ _ _ ?_
          exact ⟨rfl, fun e9 => absurd e9 (by decide), rfl, v25, f25, rfl, hs25, (f25 16 (x5).toInt.toNat), rfl, by exact True.intro⟩

end
