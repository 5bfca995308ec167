section
variable {l : Launch} {g : pm_G} {A0 : pm_H} {h : Nat} {q : Nat → Nat}
set_option maxRecDepth 100000 in
set_option maxHeartbeats 2000000 in
theorem c_X11_sets (D : md_D h q) (v : Nat → Int32) (f : Nat → Nat → Int32) (hv : md_V v) (hf : md_F f) (x1 : Int32)  : pm_Mt l g 266 1 0 0 [.ref h, .int x1] (md A0 g h q v f) (md_Qp (md A0 g h q v f) (fun r => True)) := by
  refine mt_X11_sets rfl (fun J hC => ?_)
  have hv9 := hv
  unfold md_V at hv9
  have rg_x1 := pm_rng x1
  refine hC.1 0 0 _ _ rfl _ _ _ _ _ ?_
  have k1 : (1 : Int32).toInt = 1 := rfl
  refine Exists.intro _ (And.intro md_o ?_)
  refine Exists.intro _ (Exists.intro _ (Exists.intro _ (Exists.intro _ (And.intro (c_X11_isIn (md A0 g h q v f) x1 (1 : Int32) (v 0) ) (And.intro rfl (fun r9 A9 h9 => ?_))))))
  rcases h9 with ⟨y1, rfl, rfl, ⟨rfl, by1⟩ | ⟨rfl, by1⟩⟩
  · skip
    refine And.intro (fun _ => ?_) (fun c9 => absurd c9 (by decide))
    refine hC.1 1 14 _ _ rfl _ _ _ _ _ ?_
    have k0 : (0 : Int32).toInt = 0 := rfl
    have lp2 : ∀ (n : Nat) (z2_18 : Int32) (z3_18 : Int32), (0 ≤ z3_18.toInt ∧ z3_18.toInt ≤ 161) → 200 - z3_18.toInt < (n : Int) → J 18 [some (.ref h), some (.int x1), some (.int z2_18), some (.int z3_18), none, none] [] (md A0 g h q v f) 0 0 := by
      intro n
      induction n with
      | zero =>
        intro z2_18 z3_18 j0_18 j1_18
        omega
      | succ n ih3 =>
        intro z2_18 z3_18 j0_18 j1_18
        refine hC.1 2 18 _ _ rfl _ _ _ _ _ ?_
        intro m4 em_20
        try have e4 : m4.toInt = (z3_18).toInt + (x1).toInt := by rw [em_20]; exact pm_add _ _ (by omega) (by omega)
        refine Exists.intro _ (And.intro md_o ?_)
        refine And.intro (fun c5 => ?_) (fun c5 => ?_)
        · skip
          refine hC.1 9 102 _ _ rfl _ _ _ _ _ ?_
          exact ⟨rfl, fun e9 => absurd e9 (by decide), rfl, z2_18, rfl, rfl, by exact True.intro⟩
        · skip
          have lp6 : ∀ (n : Nat) (z4_34 : Int32) (z5_34 : Int32), (0 ≤ z5_34.toInt ∧ z5_34.toInt ≤ z3_18.toInt) → 200 - z5_34.toInt < (n : Int) → J 34 [some (.ref h), some (.int x1), some (.int z2_18), some (.int z3_18), some (.int z4_34), some (.int z5_34)] [] (md A0 g h q v f) 0 0 := by
            intro n
            induction n with
            | zero =>
              intro z4_34 z5_34 j0_34 j1_34
              omega
            | succ n ih7 =>
              intro z4_34 z5_34 j0_34 j1_34
              refine hC.1 3 34 _ _ rfl _ _ _ _ _ ?_
              refine And.intro (fun c8 => ?_) (fun c8 => ?_)
              · skip
                refine hC.1 6 83 _ _ rfl _ _ _ _ _ ?_
                refine And.intro (fun c9 => ?_) (fun c9 => ?_)
                · skip
                  have dc9 : (z4_34).toInt = (0 : Int32).toInt := congrArg Int32.toInt c9
                  refine hC.1 7 93 _ _ rfl _ _ _ _ _ ?_
                  refine hC.1 8 94 _ _ rfl _ _ _ _ _ ?_
                  intro m10 em_94
                  try have e10 : m10.toInt = (z2_18).toInt + (0) := by rw [em_94]; exact pm_addc _ _ (0) rfl (by omega) (by omega)
                  intro m11 em_96
                  try have e11 : m11.toInt = (z3_18).toInt + (1) := by rw [em_96]; exact pm_addc _ _ (1) rfl (by omega) (by omega)
                  exact hC.2 [false, false, false, false, true, true] _ _ _ _ _ _ (ih3 m10 m11 (by omega) (by omega))
                · skip
                  have dc9 := pm_neI c9
                  refine hC.1 8 94 _ _ rfl _ _ _ _ _ ?_
                  intro m12 em_94
                  try have e12 : m12.toInt = (z2_18).toInt + (1) := by rw [em_94]; exact pm_addc _ _ (1) rfl (by omega) (by omega)
                  intro m13 em_96
                  try have e13 : m13.toInt = (z3_18).toInt + (1) := by rw [em_96]; exact pm_addc _ _ (1) rfl (by omega) (by omega)
                  exact hC.2 [false, false, false, false, true, true] _ _ _ _ _ _ (ih3 m12 m13 (by omega) (by omega))
              · skip
                refine And.intro (fun c14 => ?_) (fun c14 => ?_)
                · skip
                  have dc14 : (z4_34).toInt = (0 : Int32).toInt := congrArg Int32.toInt c14
                  refine hC.1 6 83 _ _ rfl _ _ _ _ _ ?_
                  refine And.intro (fun c15 => ?_) (fun c15 => ?_)
                  · skip
                    have dc15 : (z4_34).toInt = (0 : Int32).toInt := congrArg Int32.toInt c15
                    refine hC.1 7 93 _ _ rfl _ _ _ _ _ ?_
                    refine hC.1 8 94 _ _ rfl _ _ _ _ _ ?_
                    intro m16 em_94
                    try have e16 : m16.toInt = (z2_18).toInt + (0) := by rw [em_94]; exact pm_addc _ _ (0) rfl (by omega) (by omega)
                    intro m17 em_96
                    try have e17 : m17.toInt = (z3_18).toInt + (1) := by rw [em_96]; exact pm_addc _ _ (1) rfl (by omega) (by omega)
                    exact hC.2 [false, false, false, false, true, true] _ _ _ _ _ _ (ih3 m16 m17 (by omega) (by omega))
                  · skip
                    have dc15 := pm_neI c15
                    refine hC.1 8 94 _ _ rfl _ _ _ _ _ ?_
                    intro m18 em_94
                    try have e18 : m18.toInt = (z2_18).toInt + (1) := by rw [em_94]; exact pm_addc _ _ (1) rfl (by omega) (by omega)
                    intro m19 em_96
                    try have e19 : m19.toInt = (z3_18).toInt + (1) := by rw [em_96]; exact pm_addc _ _ (1) rfl (by omega) (by omega)
                    exact hC.2 [false, false, false, false, true, true] _ _ _ _ _ _ (ih3 m18 m19 (by omega) (by omega))
                · skip
                  have dc14 := pm_neI c14
                  intro m20 em_51
                  try have e20 : m20.toInt = (z5_34).toInt + (x1).toInt := by rw [em_51]; exact pm_add _ _ (by omega) (by omega)
                  intro m21 em_53
                  try have e21 : m21.toInt = (m20).toInt - (1) := by rw [em_53]; exact pm_subc _ _ (1) rfl (by omega) (by omega)
                  refine And.intro (Exists.intro _ md_o) (Exists.intro _ (Exists.intro _ (Exists.intro _ (Exists.intro _ (And.intro (c_X11_setOf D v f hv hf z5_34 m21 (by omega) (by omega)) (And.intro rfl (fun r9 A9 h9 => ?_)))))))
                  obtain ⟨y22, rfl, rfl, by22⟩ := h9
                  intro m23 em_61
                  try have e23 : m23.toInt = (z3_18).toInt + (x1).toInt := by rw [em_61]; exact pm_add _ _ (by omega) (by omega)
                  intro m24 em_63
                  try have e24 : m24.toInt = (m23).toInt - (1) := by rw [em_63]; exact pm_subc _ _ (1) rfl (by omega) (by omega)
                  refine And.intro (Exists.intro _ md_o) (Exists.intro _ (Exists.intro _ (Exists.intro _ (Exists.intro _ (And.intro (c_X11_setOf D v f hv hf z3_18 m24 (by omega) (by omega)) (And.intro rfl (fun r9 A9 h9 => ?_)))))))
                  obtain ⟨y25, rfl, rfl, by25⟩ := h9
                  refine And.intro (fun c26 => ?_) (fun c26 => ?_)
                  · skip
                    have dc26 : (y22).toInt = (y25 : Int32).toInt := congrArg Int32.toInt c26
                    refine hC.1 4 74 _ _ rfl _ _ _ _ _ ?_
                    refine hC.1 5 75 _ _ rfl _ _ _ _ _ ?_
                    intro m27 em_77
                    try have e27 : m27.toInt = (z5_34).toInt + (1) := by rw [em_77]; exact pm_addc _ _ (1) rfl (by omega) (by omega)
                    exact ih7 (0 : Int32) m27 (by omega) (by omega)
                  · skip
                    have dc26 := pm_neI c26
                    refine hC.1 5 75 _ _ rfl _ _ _ _ _ ?_
                    intro m28 em_77
                    try have e28 : m28.toInt = (z5_34).toInt + (1) := by rw [em_77]; exact pm_addc _ _ (1) rfl (by omega) (by omega)
                    exact ih7 (1 : Int32) m28 (by omega) (by omega)
          exact lp6 (200 - (0 : Int32).toInt).toNat.succ (1 : Int32) (0 : Int32) (by omega) (by omega)
    exact lp2 (200 - (0 : Int32).toInt).toNat.succ (0 : Int32) (0 : Int32) (by omega) (by omega)
  · skip
    have k0 : (0 : Int32).toInt = 0 := rfl
    refine And.intro (fun c9 => absurd c9 (by decide)) (fun _ => ?_)
    exact ⟨rfl, fun e9 => absurd e9 (by decide), rfl, (0 : Int32), rfl, rfl, by exact True.intro⟩

end
