section
variable {l : Launch} {g : pm_G} {A0 : pm_H} {h : Nat} {q : Nat → Nat}
set_option maxRecDepth 100000 in
set_option maxHeartbeats 2000000 in
theorem c_X11_unlike (D : md_D h q) (v : Nat → Int32) (f : Nat → Nat → Int32) (hv : md_V v) (hf : md_F f) (x1 : Int32)  : pm_Mt l g 254 1 0 0 [.ref h, .int x1] (md A0 g h q v f) (md_Qp (md A0 g h q v f) (fun r => True)) := by
  refine mt_X11_unlike rfl (fun J hC => ?_)
  have hv9 := hv
  unfold md_V at hv9
  have rg_x1 := pm_rng x1
  refine hC.1 0 0 _ _ rfl _ _ _ _ _ ?_
  refine Exists.intro _ (And.intro md_o ?_)
  refine And.intro (fun c1 => ?_) (fun c1 => ?_)
  · skip
    have dc1 : ((v 0)).toInt = (0 : Int32).toInt := congrArg Int32.toInt c1
    have k0 : (0 : Int32).toInt = 0 := rfl
    refine hC.1 1 16 _ _ rfl _ _ _ _ _ ?_
    have km1 : (-1 : Int32).toInt = -1 := rfl
    exact ⟨rfl, fun e9 => absurd e9 (by decide), rfl, (-1 : Int32), rfl, rfl, by exact True.intro⟩
  · skip
    have dc1 := pm_neI c1
    have k0 : (0 : Int32).toInt = 0 := rfl
    have k1 : (1 : Int32).toInt = 1 := rfl
    refine Exists.intro _ (Exists.intro _ (Exists.intro _ (Exists.intro _ (And.intro (c_X11_isIn (md A0 g h q v f) x1 (0 : Int32) (1 : Int32) ) (And.intro rfl (fun r9 A9 h9 => ?_))))))
    rcases h9 with ⟨y2, rfl, rfl, ⟨rfl, by2⟩ | ⟨rfl, by2⟩⟩
    · skip
      refine And.intro (fun _ => ?_) (fun c9 => absurd c9 (by decide))
      refine hC.1 2 18 _ _ rfl _ _ _ _ _ ?_
      have km1 : (-1 : Int32).toInt = -1 := rfl
      have lp3 : ∀ (n : Nat) (z2_25 : Int32) (z3_25 : Int32) (z4_25 : Int32), (0 ≤ z4_25.toInt ∧ z4_25.toInt ≤ (v 0).toInt) → 200 - z4_25.toInt < (n : Int) → J 25 [some (.ref h), some (.int x1), some (.int z2_25), some (.int z3_25), some (.int z4_25), none] [] (md A0 g h q v f) 0 0 := by
        intro n
        induction n with
        | zero =>
          intro z2_25 z3_25 z4_25 j0_25 j1_25
          omega
        | succ n ih4 =>
          intro z2_25 z3_25 z4_25 j0_25 j1_25
          refine hC.1 3 25 _ _ rfl _ _ _ _ _ ?_
          refine Exists.intro _ (And.intro md_o ?_)
          refine And.intro (fun c5 => ?_) (fun c5 => ?_)
          · skip
            refine hC.1 8 94 _ _ rfl _ _ _ _ _ ?_
            refine And.intro (fun c6 => ?_) (fun c6 => ?_)
            · skip
              have dc6 := pm_neI c6
              refine hC.1 9 102 _ _ rfl _ _ _ _ _ ?_
              refine hC.1 10 103 _ _ rfl _ _ _ _ _ ?_
              exact ⟨rfl, fun e9 => absurd e9 (by decide), rfl, z3_25, rfl, rfl, by exact True.intro⟩
            · skip
              have dc6 : (x1).toInt = (0 : Int32).toInt := congrArg Int32.toInt c6
              refine hC.1 10 103 _ _ rfl _ _ _ _ _ ?_
              exact ⟨rfl, fun e9 => absurd e9 (by decide), rfl, z2_25, rfl, rfl, by exact True.intro⟩
          · skip
            have lp7 : ∀ (n : Nat) (z5_38 : Int32), (z4_25.toInt ≤ z5_38.toInt ∧ z5_38.toInt < (v 0).toInt) → 200 - z5_38.toInt < (n : Int) → J 38 [some (.ref h), some (.int x1), some (.int z2_25), some (.int z3_25), some (.int z4_25), some (.int z5_38)] [] (md A0 g h q v f) 0 0 := by
              intro n
              induction n with
              | zero =>
                intro z5_38 j0_38 j1_38
                omega
              | succ n ih8 =>
                intro z5_38 j0_38 j1_38
                refine hC.1 4 38 _ _ rfl _ _ _ _ _ ?_
                intro m9 em_41
                try have e9 : m9.toInt = (z5_38).toInt + (1) := by rw [em_41]; exact pm_addc _ _ (1) rfl (by omega) (by omega)
                refine Exists.intro _ (And.intro md_o ?_)
                refine And.intro (fun c10 => ?_) (fun c10 => ?_)
                · skip
                  refine hC.1 5 68 _ _ rfl _ _ _ _ _ ?_
                  intro m11 em_72
                  try have e11 : m11.toInt = (z5_38).toInt - (z4_25).toInt := by rw [em_72]; exact pm_sub _ _ (by omega) (by omega)
                  intro m12 em_75
                  try have e12 : m12.toInt = (z3_25).toInt - (z2_25).toInt := by rw [em_75]; exact pm_sub _ _ (by omega) (by omega)
                  refine And.intro (fun c13 => ?_) (fun c13 => ?_)
                  · skip
                    refine hC.1 6 82 _ _ rfl _ _ _ _ _ ?_
                    refine hC.1 7 88 _ _ rfl _ _ _ _ _ ?_
                    intro m14 em_88
                    try have e14 : m14.toInt = (z4_25).toInt + (1) := by rw [em_88]; exact pm_addc _ _ (1) rfl (by omega) (by omega)
                    exact hC.2 [false, false, false, false, false, true] _ _ _ _ _ _ (ih4 z4_25 z5_38 m14 (by omega) (by omega))
                  · skip
                    refine hC.1 7 88 _ _ rfl _ _ _ _ _ ?_
                    intro m15 em_88
                    try have e15 : m15.toInt = (z4_25).toInt + (1) := by rw [em_88]; exact pm_addc _ _ (1) rfl (by omega) (by omega)
                    exact hC.2 [false, false, false, false, false, true] _ _ _ _ _ _ (ih4 z2_25 z3_25 m15 (by omega) (by omega))
                · skip
                  intro m16 em_53
                  try have e16 : m16.toInt = (z5_38).toInt + (1) := by rw [em_53]; exact pm_addc _ _ (1) rfl (by omega) (by omega)
                  refine And.intro (Exists.intro _ md_o) (Exists.intro _ (Exists.intro _ (Exists.intro _ (Exists.intro _ (And.intro (c_X11_ahead D v f hv hf m16 (by omega)) (And.intro rfl (fun r9 A9 h9 => ?_)))))))
                  obtain ⟨y17, rfl, rfl, by17⟩ := h9
                  refine And.intro (fun c18 => ?_) (fun c18 => ?_)
                  · skip
                    refine hC.1 5 68 _ _ rfl _ _ _ _ _ ?_
                    intro m19 em_72
                    try have e19 : m19.toInt = (z5_38).toInt - (z4_25).toInt := by rw [em_72]; exact pm_sub _ _ (by omega) (by omega)
                    intro m20 em_75
                    try have e20 : m20.toInt = (z3_25).toInt - (z2_25).toInt := by rw [em_75]; exact pm_sub _ _ (by omega) (by omega)
                    refine And.intro (fun c21 => ?_) (fun c21 => ?_)
                    · skip
                      refine hC.1 6 82 _ _ rfl _ _ _ _ _ ?_
                      refine hC.1 7 88 _ _ rfl _ _ _ _ _ ?_
                      intro m22 em_88
                      try have e22 : m22.toInt = (z4_25).toInt + (1) := by rw [em_88]; exact pm_addc _ _ (1) rfl (by omega) (by omega)
                      exact hC.2 [false, false, false, false, false, true] _ _ _ _ _ _ (ih4 z4_25 z5_38 m22 (by omega) (by omega))
                    · skip
                      refine hC.1 7 88 _ _ rfl _ _ _ _ _ ?_
                      intro m23 em_88
                      try have e23 : m23.toInt = (z4_25).toInt + (1) := by rw [em_88]; exact pm_addc _ _ (1) rfl (by omega) (by omega)
                      exact hC.2 [false, false, false, false, false, true] _ _ _ _ _ _ (ih4 z2_25 z3_25 m23 (by omega) (by omega))
                  · skip
                    intro m24 em_62
                    try have e24 : m24.toInt = (z5_38).toInt + (1) := by rw [em_62]; exact pm_addc _ _ (1) rfl (by omega) (by omega)
                    exact ih8 m24 (by omega) (by omega)
            exact lp7 (200 - z4_25.toInt).toNat.succ z4_25 (by omega) (by omega)
      exact lp3 (200 - (0 : Int32).toInt).toNat.succ (0 : Int32) (-1 : Int32) (0 : Int32) (by omega) (by omega)
    · skip
      refine And.intro (fun c9 => absurd c9 (by decide)) (fun _ => ?_)
      refine hC.1 1 16 _ _ rfl _ _ _ _ _ ?_
      have km1 : (-1 : Int32).toInt = -1 := rfl
      exact ⟨rfl, fun e9 => absurd e9 (by decide), rfl, (-1 : Int32), rfl, rfl, by exact True.intro⟩

end
