section
variable {l : Launch} {g : pm_G} {A0 : pm_H} {K nn dn : Nat} {q : Nat → Nat} {w : Nat → Int32} {e : Nat → Nat → Int32} {v : Nat → Int32} {f : Nat → Nat → Int32}
set_option maxRecDepth 100000 in
set_option maxHeartbeats 2000000 in
theorem c_X3_greedy (hI : cw_I K nn dn q w e) (hs : cw_S v f) {o1 : Nat} (ho1 : cw_ro K o1) (x3 : Int32) (x4 : Int32)  : pm_Mt l g 142 2 0 0 [.ref (q 8), .ref (q o1), .ref (q 2), .int x3, .int x4] (cw A0 g K nn dn q w e v f) (cw_Qs A0 g K nn dn q w e (fun r v2 f2 => ∃ x : Int32, r = some (.int x) ∧ (True))) := by
  refine mt_X3_greedy rfl (fun J hC => ?_)
  have ro_nn : cw_ro K nn := hI.2.1.2.1
  have ro_dn : cw_ro K dn := hI.2.1.2.2.1
  have hu1 := hI.2.1
  unfold cw_W at hu1
  have rg_x3 := pm_rng x3
  have rg_x4 := pm_rng x4
  have zz0 := cw_sz hI ho1
  refine hC.1 0 0 _ _ rfl _ _ _ _ _ ?_
  refine And.intro (Exists.intro _ (cw_o2 hI.1)) (Exists.intro _ (Exists.intro _ (Exists.intro _ (Exists.intro _ (And.intro (c_X2_clear hI hs  ) (And.intro rfl (fun r9 A9 h9 => ?_)))))))
  rcases h9 with ⟨v3, f3, rfl, hs3, rfl, by2⟩
  have k0 : (0 : Int32).toInt = 0 := rfl
  have lp5 : ∀ (n : Nat) (z5_10 : Int32) (z6_10 : Int32) (v4 : Nat → Int32) (f4 : Nat → Nat → Int32), cw_S v4 f4 → (0 ≤ z6_10.toInt ∧ z6_10.toInt ≤ 160) → 200 - z6_10.toInt < (n : Int) → J 10 [some (.ref (q 8)), some (.ref (q o1)), some (.ref (q 2)), some (.int x3), some (.int x4), some (.int z5_10), some (.int z6_10)] [] (cw A0 g K nn dn q w e v4 f4) 0 0 := by
    intro n
    induction n with
    | zero =>
      intro z5_10 z6_10 v4 f4 hs4 j0_10 j1_10
      omega
    | succ n ih6 =>
      intro z5_10 z6_10 v4 f4 hs4 j0_10 j1_10
      refine hC.1 1 10 _ _ rfl _ _ _ _ _ ?_
      refine Exists.intro _ (And.intro (cw_ro_o hI.1 ho1) ?_)
      have z7 := cw_sz hI ho1
      refine And.intro (fun c8 => ?_) (fun c8 => ?_)
      · skip
        refine hC.1 4 74 _ _ rfl _ _ _ _ _ ?_
        have km1 : (-1 : Int32).toInt = -1 := rfl
        refine And.intro (fun c9 => ?_) (fun c9 => ?_)
        · skip
          have dc9 := pm_neI c9
          refine hC.1 7 96 _ _ rfl _ _ _ _ _ ?_
          refine And.intro (fun c10 => ?_) (fun c10 => ?_)
          · skip
            have dc10 := pm_neI c10
            refine hC.1 8 112 _ _ rfl _ _ _ _ _ ?_
            refine hC.1 9 113 _ _ rfl _ _ _ _ _ ?_
            exact ⟨rfl, fun e9 => absurd e9 (by decide), rfl, v4, f4, rfl, hs4, (-1 : Int32), rfl, by exact True.intro⟩
          · skip
            have dc10 : (z5_10).toInt = (x4 : Int32).toInt := congrArg Int32.toInt c10
            refine Exists.intro _ (And.intro (cw_ro_o hI.1 ho1) ?_)
            have z11 := cw_sz hI ho1
            have k1 : (1 : Int32).toInt = 1 := rfl
            intro m12 em_108
            try have e12 : m12.toInt = ((w o1)).toInt - (1) := by rw [em_108]; exact pm_subc _ _ (1) rfl (by omega) (by omega)
            refine hC.1 9 113 _ _ rfl _ _ _ _ _ ?_
            exact ⟨rfl, fun e9 => absurd e9 (by decide), rfl, v4, f4, rfl, hs4, m12, rfl, by exact True.intro⟩
        · skip
          have dc9 : (x4).toInt = ((-1 : Int32) : Int32).toInt := congrArg Int32.toInt c9
          refine Exists.intro _ (And.intro (cw_ro_o hI.1 ho1) ?_)
          have z13 := cw_sz hI ho1
          refine And.intro (fun c14 => ?_) (fun c14 => ?_)
          · skip
            have dc14 := pm_neI c14
            refine hC.1 5 91 _ _ rfl _ _ _ _ _ ?_
            have k1 : (1 : Int32).toInt = 1 := rfl
            intro m15 em_94
            try have e15 : m15.toInt = (z5_10).toInt + (1) := by rw [em_94]; exact pm_addc _ _ (1) rfl (by omega) (by omega)
            refine hC.1 6 95 _ _ rfl _ _ _ _ _ ?_
            exact ⟨rfl, fun e9 => absurd e9 (by decide), rfl, v4, f4, rfl, hs4, m15, rfl, by exact True.intro⟩
          · skip
            have dc14 : ((w o1)).toInt = (0 : Int32).toInt := congrArg Int32.toInt c14
            refine hC.1 6 95 _ _ rfl _ _ _ _ _ ?_
            exact ⟨rfl, fun e9 => absurd e9 (by decide), rfl, v4, f4, rfl, hs4, (0 : Int32), rfl, by exact True.intro⟩
      · skip
        refine Exists.intro _ (And.intro (cw_ro_o hI.1 ho1) ?_)
        refine Exists.intro _ (Exists.intro _ (And.intro (Or.inl (cw_ro_1 hI.1 ho1)) (And.intro (by omega) ?_)))
        have w16 := cw_col hI ho1 (z6_10).toInt.toNat
        refine And.intro (Exists.intro _ (cw_o2 hI.1)) (Exists.intro _ (Exists.intro _ (Exists.intro _ (Exists.intro _ (And.intro (c_X2_take hI hs4 (e (o1 + 1) (z6_10).toInt.toNat) (by omega)) (And.intro rfl (fun r9 A9 h9 => ?_)))))))
        rcases h9 with ⟨v18, f18, rfl, hs18, rfl, by17⟩
        refine Exists.intro _ (And.intro (cw_o2 hI.1) ?_)
        refine And.intro (fun c19 => ?_) (fun c19 => ?_)
        · skip
          refine hC.1 3 68 _ _ rfl _ _ _ _ _ ?_
          have k1 : (1 : Int32).toInt = 1 := rfl
          intro m20 em_68
          try have e20 : m20.toInt = (z6_10).toInt + (1) := by rw [em_68]; exact pm_addc _ _ (1) rfl (by omega) (by omega)
          exact ih6 z5_10 m20 v18 f18 hs18 (by omega) (by omega)
        · skip
          refine And.intro (fun c21 => ?_) (fun c21 => ?_)
          · skip
            have dc21 := pm_neI c21
            refine hC.1 2 50 _ _ rfl _ _ _ _ _ ?_
            have k1 : (1 : Int32).toInt = 1 := rfl
            intro m22 em_50
            try have e22 : m22.toInt = (z5_10).toInt + (1) := by rw [em_50]; exact pm_addc _ _ (1) rfl (by omega) (by omega)
            refine And.intro (Exists.intro _ (cw_o2 hI.1)) (Exists.intro _ (Exists.intro _ (Exists.intro _ (Exists.intro _ (And.intro (c_X2_clear hI hs18  ) (And.intro rfl (fun r9 A9 h9 => ?_)))))))
            rcases h9 with ⟨v24, f24, rfl, hs24, rfl, by23⟩
            refine Exists.intro _ (And.intro (cw_ro_o hI.1 ho1) ?_)
            refine Exists.intro _ (Exists.intro _ (And.intro (Or.inl (cw_ro_1 hI.1 ho1)) (And.intro (by omega) ?_)))
            have w25 := cw_col hI ho1 (z6_10).toInt.toNat
            refine And.intro (Exists.intro _ (cw_o2 hI.1)) (Exists.intro _ (Exists.intro _ (Exists.intro _ (Exists.intro _ (And.intro (c_X2_take hI hs24 (e (o1 + 1) (z6_10).toInt.toNat) (by omega)) (And.intro rfl (fun r9 A9 h9 => ?_)))))))
            rcases h9 with ⟨v27, f27, rfl, hs27, rfl, by26⟩
            refine hC.1 3 68 _ _ rfl _ _ _ _ _ ?_
            intro m28 em_68
            try have e28 : m28.toInt = (z6_10).toInt + (1) := by rw [em_68]; exact pm_addc _ _ (1) rfl (by omega) (by omega)
            exact ih6 m22 m28 v27 f27 hs27 (by omega) (by omega)
          · skip
            have dc21 : (z5_10).toInt = (x4 : Int32).toInt := congrArg Int32.toInt c21
            have k1 : (1 : Int32).toInt = 1 := rfl
            intro m29 em_48
            try have e29 : m29.toInt = (z6_10).toInt - (1) := by rw [em_48]; exact pm_subc _ _ (1) rfl (by omega) (by omega)
            exact ⟨rfl, fun e9 => absurd e9 (by decide), rfl, v18, f18, rfl, hs18, m29, rfl, by exact True.intro⟩
  exact lp5 (200 - (0 : Int32).toInt).toNat.succ (0 : Int32) (0 : Int32) v3 f3 hs3 (by omega) (by omega)

end
