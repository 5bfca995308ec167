section
variable {l : Launch} {g : pm_G} {A0 : pm_H} {K nn dn : Nat} {q : Nat → Nat} {w : Nat → Int32} {e : Nat → Nat → Int32} {v : Nat → Int32} {f : Nat → Nat → Int32}
set_option maxRecDepth 100000 in
set_option maxHeartbeats 2000000 in
theorem c_X1_findNearestOfTwo (hI : cw_I K nn dn q w e) (hs : cw_S v f) {o1 : Nat} (ho1 : cw_ro K o1) (x2 : Int32) (x3 : Int32)  : pm_Mt l g 99 1 0 0 [.ref (q 4), .ref (q o1), .int x2, .int x3] (cw A0 g K nn dn q w e v f) (cw_Qs A0 g K nn dn q w e (fun r v2 f2 => r = none ∧ (True))) := by
  refine mt_X1_findNearestOfTwo rfl (fun J hC => ?_)
  have ro_nn : cw_ro K nn := hI.2.1.2.1
  have ro_dn : cw_ro K dn := hI.2.1.2.2.1
  have hu1 := hI.2.1
  unfold cw_W at hu1
  have rg_x2 := pm_rng x2
  have rg_x3 := pm_rng x3
  have zz0 := cw_sz hI ho1
  refine hC.1 0 0 _ _ rfl _ _ _ _ _ ?_
  refine And.intro (Exists.intro _ (cw_o4 hI.1)) (Exists.intro _ (Exists.intro _ (Exists.intro _ (Exists.intro _ (And.intro (c_X1_clearPair hI hs  ) (And.intro rfl (fun r9 A9 h9 => ?_)))))))
  rcases h9 with ⟨v3, f3, rfl, hs3, rfl, by2⟩
  have km1 : (-1 : Int32).toInt = -1 := rfl
  have k0 : (0 : Int32).toInt = 0 := rfl
  have lp5 : ∀ (n : Nat) (z4_13 : Int32) (z5_13 : Int32) (z6_13 : Int32) (v4 : Nat → Int32) (f4 : Nat → Nat → Int32), cw_S v4 f4 → (0 ≤ z6_13.toInt ∧ z6_13.toInt ≤ 160) → 200 - z6_13.toInt < (n : Int) → J 13 [some (.ref (q 4)), some (.ref (q o1)), some (.int x2), some (.int x3), some (.int z4_13), some (.int z5_13), some (.int z6_13)] [] (cw A0 g K nn dn q w e v4 f4) 0 0 := by
    intro n
    induction n with
    | zero =>
      intro z4_13 z5_13 z6_13 v4 f4 hs4 j0_13 j1_13
      omega
    | succ n ih6 =>
      intro z4_13 z5_13 z6_13 v4 f4 hs4 j0_13 j1_13
      refine hC.1 1 13 _ _ rfl _ _ _ _ _ ?_
      refine Exists.intro _ (And.intro (cw_ro_o hI.1 ho1) ?_)
      have z7 := cw_sz hI ho1
      refine And.intro (fun c8 => ?_) (fun c8 => ?_)
      · skip
        refine hC.1 4 89 _ _ rfl _ _ _ _ _ ?_
        exact ⟨rfl, rfl, v4, f4, rfl, hs4, rfl, by exact True.intro⟩
      · skip
        refine Exists.intro _ (And.intro (cw_ro_o hI.1 ho1) ?_)
        refine Exists.intro _ (Exists.intro _ (And.intro (Or.inl (cw_ro_1 hI.1 ho1)) (And.intro (by omega) ?_)))
        have w9 := cw_col hI ho1 (z6_13).toInt.toNat
        refine And.intro (fun c10 => ?_) (fun c10 => ?_)
        · skip
          have dc10 := pm_neI c10
          refine hC.1 2 54 _ _ rfl _ _ _ _ _ ?_
          refine Exists.intro _ (And.intro (cw_ro_o hI.1 ho1) ?_)
          refine Exists.intro _ (Exists.intro _ (And.intro (Or.inl (cw_ro_1 hI.1 ho1)) (And.intro (by omega) ?_)))
          have w11 := cw_col hI ho1 (z6_13).toInt.toNat
          refine And.intro (fun c12 => ?_) (fun c12 => ?_)
          · skip
            have dc12 := pm_neI c12
            refine hC.1 3 83 _ _ rfl _ _ _ _ _ ?_
            have k1 : (1 : Int32).toInt = 1 := rfl
            intro m13 em_83
            try have e13 : m13.toInt = (z6_13).toInt + (1) := by rw [em_83]; exact pm_addc _ _ (1) rfl (by omega) (by omega)
            exact ih6 z4_13 z5_13 m13 v4 f4 hs4 (by omega) (by omega)
          · skip
            have dc12 : ((e (o1 + 1) (z6_13).toInt.toNat)).toInt = (x3 : Int32).toInt := congrArg Int32.toInt c12
            refine And.intro (fun c14 => ?_) (fun c14 => ?_)
            · skip
              have dc14 : (z4_13).toInt = ((-1 : Int32) : Int32).toInt := congrArg Int32.toInt c14
              refine hC.1 3 83 _ _ rfl _ _ _ _ _ ?_
              have k1 : (1 : Int32).toInt = 1 := rfl
              intro m15 em_83
              try have e15 : m15.toInt = (z6_13).toInt + (1) := by rw [em_83]; exact pm_addc _ _ (1) rfl (by omega) (by omega)
              exact ih6 z4_13 z6_13 m15 v4 f4 hs4 (by omega) (by omega)
            · skip
              have dc14 := pm_neI c14
              refine And.intro (Exists.intro _ (cw_o4 hI.1)) (Exists.intro _ (Exists.intro _ (Exists.intro _ (Exists.intro _ (And.intro (c_X1_offerPair hI hs4 z4_13 z6_13 ) (And.intro rfl (fun r9 A9 h9 => ?_)))))))
              rcases h9 with ⟨v17, f17, rfl, hs17, rfl, by16⟩
              refine hC.1 3 83 _ _ rfl _ _ _ _ _ ?_
              have k1 : (1 : Int32).toInt = 1 := rfl
              intro m18 em_83
              try have e18 : m18.toInt = (z6_13).toInt + (1) := by rw [em_83]; exact pm_addc _ _ (1) rfl (by omega) (by omega)
              exact ih6 z4_13 z6_13 m18 v17 f17 hs17 (by omega) (by omega)
        · skip
          have dc10 : ((e (o1 + 1) (z6_13).toInt.toNat)).toInt = (x2 : Int32).toInt := congrArg Int32.toInt c10
          refine And.intro (fun c19 => ?_) (fun c19 => ?_)
          · skip
            have dc19 : (z5_13).toInt = ((-1 : Int32) : Int32).toInt := congrArg Int32.toInt c19
            refine hC.1 3 83 _ _ rfl _ _ _ _ _ ?_
            have k1 : (1 : Int32).toInt = 1 := rfl
            intro m20 em_83
            try have e20 : m20.toInt = (z6_13).toInt + (1) := by rw [em_83]; exact pm_addc _ _ (1) rfl (by omega) (by omega)
            exact ih6 z6_13 z5_13 m20 v4 f4 hs4 (by omega) (by omega)
          · skip
            have dc19 := pm_neI c19
            refine And.intro (Exists.intro _ (cw_o4 hI.1)) (Exists.intro _ (Exists.intro _ (Exists.intro _ (Exists.intro _ (And.intro (c_X1_offerPair hI hs4 z5_13 z6_13 ) (And.intro rfl (fun r9 A9 h9 => ?_)))))))
            rcases h9 with ⟨v22, f22, rfl, hs22, rfl, by21⟩
            refine hC.1 3 83 _ _ rfl _ _ _ _ _ ?_
            have k1 : (1 : Int32).toInt = 1 := rfl
            intro m23 em_83
            try have e23 : m23.toInt = (z6_13).toInt + (1) := by rw [em_83]; exact pm_addc _ _ (1) rfl (by omega) (by omega)
            exact ih6 z6_13 z5_13 m23 v22 f22 hs22 (by omega) (by omega)
  exact lp5 (200 - (0 : Int32).toInt).toNat.succ (-1 : Int32) (-1 : Int32) (0 : Int32) v3 f3 hs3 (by omega) (by omega)

end
