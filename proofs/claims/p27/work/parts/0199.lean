section
variable {l : Launch} {g : pm_G} {A0 : pm_H} {K nn dn : Nat} {q : Nat → Nat} {w : Nat → Int32} {e : Nat → Nat → Int32} {v : Nat → Int32} {f : Nat → Nat → Int32}
set_option maxRecDepth 100000 in
set_option maxHeartbeats 2000000 in
theorem c_X7_widestGap (hI : cw_I K nn dn q w e) (hs : cw_S v f) {o0 : Nat} (ho0 : cw_ro K o0) (x1 : Int32)  : pm_Mt l g 50 1 0 0 [.ref (q o0), .int x1] (cw A0 g K nn dn q w e v f) (md_Qp (cw A0 g K nn dn q w e v f) (fun r => True)) := by
  refine mt_X7_widestGap rfl (fun J hC => ?_)
  have ro_nn : cw_ro K nn := hI.2.1.2.1
  have ro_dn : cw_ro K dn := hI.2.1.2.2.1
  have hu1 := hI.2.1
  unfold cw_W at hu1
  have rg_x1 := pm_rng x1
  have zz0 := cw_sz hI ho0
  refine hC.1 0 0 _ _ rfl _ _ _ _ _ ?_
  have km1 : (-1 : Int32).toInt = -1 := rfl
  have k0 : (0 : Int32).toInt = 0 := rfl
  have lp3 : ∀ (n : Nat) (z2_4 : Int32) (z3_4 : Int32), (0 ≤ z3_4.toInt ∧ z3_4.toInt ≤ 160) → 200 - z3_4.toInt < (n : Int) → J 4 [some (.ref (q o0)), some (.int x1), some (.int z2_4), some (.int z3_4)] [] (cw A0 g K nn dn q w e v f) 0 0 := by
    intro n
    induction n with
    | zero =>
      intro z2_4 z3_4 j0_4 j1_4
      omega
    | succ n ih4 =>
      intro z2_4 z3_4 j0_4 j1_4
      refine hC.1 1 4 _ _ rfl _ _ _ _ _ ?_
      refine Exists.intro _ (And.intro (cw_ro_o hI.1 ho0) ?_)
      have z5 := cw_sz hI ho0
      refine And.intro (fun c6 => ?_) (fun c6 => ?_)
      · skip
        refine hC.1 3 53 _ _ rfl _ _ _ _ _ ?_
        exact ⟨rfl, fun e9 => absurd e9 (by decide), rfl, z2_4, rfl, rfl, by exact True.intro⟩
      · skip
        refine Exists.intro _ (And.intro (cw_ro_o hI.1 ho0) ?_)
        refine Exists.intro _ (Exists.intro _ (And.intro (Or.inl (cw_ro_1 hI.1 ho0)) (And.intro (by omega) ?_)))
        have w7 := cw_col hI ho0 (z3_4).toInt.toNat
        refine And.intro (fun c8 => ?_) (fun c8 => ?_)
        · skip
          have dc8 := pm_neI c8
          refine hC.1 2 47 _ _ rfl _ _ _ _ _ ?_
          have k1 : (1 : Int32).toInt = 1 := rfl
          intro m9 em_47
          try have e9 : m9.toInt = (z3_4).toInt + (1) := by rw [em_47]; exact pm_addc _ _ (1) rfl (by omega) (by omega)
          exact ih4 z2_4 m9 (by omega) (by omega)
        · skip
          have dc8 : ((e (o0 + 1) (z3_4).toInt.toNat)).toInt = (x1 : Int32).toInt := congrArg Int32.toInt c8
          refine Exists.intro _ (And.intro (cw_ro_o hI.1 ho0) ?_)
          refine Exists.intro _ (Exists.intro _ (And.intro (Or.inl (cw_ro_3 hI.1 ho0)) (And.intro (by omega) ?_)))
          have w10 := cw_ahd hI ho0 (z3_4).toInt.toNat
          refine And.intro (fun c11 => ?_) (fun c11 => ?_)
          · skip
            have dc11 : ((e (o0 + 3) (z3_4).toInt.toNat)).toInt = ((-1 : Int32) : Int32).toInt := congrArg Int32.toInt c11
            refine hC.1 2 47 _ _ rfl _ _ _ _ _ ?_
            have k1 : (1 : Int32).toInt = 1 := rfl
            intro m12 em_47
            try have e12 : m12.toInt = (z3_4).toInt + (1) := by rw [em_47]; exact pm_addc _ _ (1) rfl (by omega) (by omega)
            exact ih4 z2_4 m12 (by omega) (by omega)
          · skip
            have dc11 := pm_neI c11
            refine Exists.intro _ (And.intro (cw_ro_o hI.1 ho0) ?_)
            refine Exists.intro _ (Exists.intro _ (And.intro (Or.inl (cw_ro_3 hI.1 ho0)) (And.intro (by omega) ?_)))
            have w13 := cw_ahd hI ho0 (z3_4).toInt.toNat
            intro m14 em_40
            try have e14 : m14.toInt = (z3_4).toInt - ((e (o0 + 3) (z3_4).toInt.toNat)).toInt := by rw [em_40]; exact pm_sub _ _ (by omega) (by omega)
            have k1 : (1 : Int32).toInt = 1 := rfl
            intro m15 em_42
            try have e15 : m15.toInt = (m14).toInt - (1) := by rw [em_42]; exact pm_subc _ _ (1) rfl (by omega) (by omega)
            refine Exists.intro _ (Exists.intro _ (Exists.intro _ (Exists.intro _ (And.intro (c_J9_max_7cf53 (cw A0 g K nn dn q w e v f) z2_4 m15 ) (And.intro rfl (fun r9 A9 h9 => ?_))))))
            obtain ⟨y16, rfl, rfl, by16⟩ := h9
            refine hC.1 2 47 _ _ rfl _ _ _ _ _ ?_
            intro m18 em_47
            try have e18 : m18.toInt = (z3_4).toInt + (1) := by rw [em_47]; exact pm_addc _ _ (1) rfl (by omega) (by omega)
            exact ih4 y16 m18 (by omega) (by omega)
  exact lp3 (200 - (0 : Int32).toInt).toNat.succ (-1 : Int32) (0 : Int32) (by omega) (by omega)

end
