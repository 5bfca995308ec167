section
variable {l : Launch} {g : pm_G} {A0 : pm_H} {h : Nat} {q : Nat → Nat}
set_option maxRecDepth 100000 in
set_option maxHeartbeats 2000000 in
theorem c_X11_window (D : md_D h q) (v : Nat → Int32) (f : Nat → Nat → Int32) (hv : md_V v) (hf : md_F f) (x1 : Int32) (x2 : Int32)  : pm_Mt l g 251 1 0 0 [.ref h, .int x1, .int x2] (md A0 g h q v f) (md_Qp (md A0 g h q v f) (fun r => True)) := by
  refine mt_X11_window rfl (fun J hC => ?_)
  have hv9 := hv
  unfold md_V at hv9
  have rg_x1 := pm_rng x1
  have rg_x2 := pm_rng x2
  refine hC.1 0 0 _ _ rfl _ _ _ _ _ ?_
  have k1 : (1 : Int32).toInt = 1 := rfl
  have k16777215 : (16777215 : Int32).toInt = 16777215 := rfl
  refine Exists.intro _ (Exists.intro _ (Exists.intro _ (Exists.intro _ (And.intro (c_X11_isIn (md A0 g h q v f) x1 (1 : Int32) (16777215 : Int32) ) (And.intro rfl (fun r9 A9 h9 => ?_))))))
  rcases h9 with ⟨y1, rfl, rfl, ⟨rfl, by1⟩ | ⟨rfl, by1⟩⟩
  · skip
    refine And.intro (fun c9 => absurd c9 (by decide)) (fun _ => ?_)
    have k0 : (0 : Int32).toInt = 0 := rfl
    have k2 : (2 : Int32).toInt = 2 := rfl
    refine Exists.intro _ (Exists.intro _ (Exists.intro _ (Exists.intro _ (And.intro (c_X11_isIn (md A0 g h q v f) x2 (0 : Int32) (2 : Int32) ) (And.intro rfl (fun r9 A9 h9 => ?_))))))
    rcases h9 with ⟨y2, rfl, rfl, ⟨rfl, by2⟩ | ⟨rfl, by2⟩⟩
    · skip
      refine And.intro (fun _ => ?_) (fun c9 => absurd c9 (by decide))
      refine hC.1 2 21 _ _ rfl _ _ _ _ _ ?_
      have km1 : (-1 : Int32).toInt = -1 := rfl
      have lp3 : ∀ (n : Nat) (z3_32 : Int32) (z4_32 : Int32) (z5_32 : Int32) (z6_32 : Int32), (0 ≤ z6_32.toInt ∧ z6_32.toInt ≤ (v 0).toInt) → 200 - z6_32.toInt < (n : Int) → J 32 [some (.ref h), some (.int x1), some (.int x2), some (.int z3_32), some (.int z4_32), some (.int z5_32), some (.int z6_32), none, none] [] (md A0 g h q v f) 0 0 := by
        intro n
        induction n with
        | zero =>
          intro z3_32 z4_32 z5_32 z6_32 j0_32 j1_32
          omega
        | succ n ih4 =>
          intro z3_32 z4_32 z5_32 z6_32 j0_32 j1_32
          refine hC.1 3 32 _ _ rfl _ _ _ _ _ ?_
          refine Exists.intro _ (And.intro md_o ?_)
          refine And.intro (fun c5 => ?_) (fun c5 => ?_)
          · skip
            refine hC.1 9 152 _ _ rfl _ _ _ _ _ ?_
            refine And.intro (fun c6 => ?_) (fun c6 => ?_)
            · skip
              have dc6 := pm_neI c6
              refine hC.1 10 161 _ _ rfl _ _ _ _ _ ?_
              refine And.intro (fun c7 => ?_) (fun c7 => ?_)
              · skip
                refine hC.1 11 170 _ _ rfl _ _ _ _ _ ?_
                refine And.intro (fun c8 => ?_) (fun c8 => ?_)
                · skip
                  have dc8 := pm_neI c8
                  refine hC.1 12 179 _ _ rfl _ _ _ _ _ ?_
                  refine hC.1 13 181 _ _ rfl _ _ _ _ _ ?_
                  exact ⟨rfl, fun e9 => absurd e9 (by decide), rfl, z5_32, rfl, rfl, by exact True.intro⟩
                · skip
                  have dc8 : (x2).toInt = (0 : Int32).toInt := congrArg Int32.toInt c8
                  refine hC.1 13 181 _ _ rfl _ _ _ _ _ ?_
                  exact ⟨rfl, fun e9 => absurd e9 (by decide), rfl, z4_32, rfl, rfl, by exact True.intro⟩
              · skip
                refine hC.1 13 181 _ _ rfl _ _ _ _ _ ?_
                exact ⟨rfl, fun e9 => absurd e9 (by decide), rfl, (-1 : Int32), rfl, rfl, by exact True.intro⟩
            · skip
              have dc6 : (x2).toInt = ((2 : Int32) : Int32).toInt := congrArg Int32.toInt c6
              refine hC.1 13 181 _ _ rfl _ _ _ _ _ ?_
              exact ⟨rfl, fun e9 => absurd e9 (by decide), rfl, z3_32, rfl, rfl, by exact True.intro⟩
          · skip
            have lp9 : ∀ (n : Nat) (z7_48 : Int32) (z8_48 : Int32), (0 ≤ z8_48.toInt ∧ z8_48.toInt ≤ (v 0).toInt) → 200 - z8_48.toInt < (n : Int) → J 48 [some (.ref h), some (.int x1), some (.int x2), some (.int z3_32), some (.int z4_32), some (.int z5_32), some (.int z6_32), some (.int z7_48), some (.int z8_48)] [] (md A0 g h q v f) 0 0 := by
              intro n
              induction n with
              | zero =>
                intro z7_48 z8_48 j0_48 j1_48
                omega
              | succ n ih10 =>
                intro z7_48 z8_48 j0_48 j1_48
                refine hC.1 4 48 _ _ rfl _ _ _ _ _ ?_
                refine Exists.intro _ (And.intro md_o ?_)
                refine And.intro (fun c11 => ?_) (fun c11 => ?_)
                · skip
                  refine hC.1 5 95 _ _ rfl _ _ _ _ _ ?_
                  refine Exists.intro _ (And.intro md_o ?_)
                  refine And.intro (fun c12 => ?_) (fun c12 => ?_)
                  · skip
                    have dc12 := pm_neI c12
                    refine hC.1 6 107 _ _ rfl _ _ _ _ _ ?_
                    refine Exists.intro _ (And.intro md_o ?_)
                    intro m13 em_114
                    try have e13 : m13.toInt = ((v 0)).toInt - (z8_48).toInt := by rw [em_114]; exact pm_sub _ _ (by omega) (by omega)
                    intro m14 em_115
                    try have e14 : m14.toInt = (z3_32).toInt + (m13).toInt := by rw [em_115]; exact pm_add _ _ (by omega) (by omega)
                    refine And.intro (fun c15 => ?_) (fun c15 => ?_)
                    · skip
                      refine hC.1 7 138 _ _ rfl _ _ _ _ _ ?_
                      refine hC.1 8 146 _ _ rfl _ _ _ _ _ ?_
                      intro m16 em_146
                      try have e16 : m16.toInt = (z6_32).toInt + (1) := by rw [em_146]; exact pm_addc _ _ (1) rfl (by omega) (by omega)
                      exact hC.2 [false, false, false, false, false, false, false, true, true] _ _ _ _ _ _ (ih4 m14 z6_32 z8_48 m16 (by omega) (by omega))
                    · skip
                      intro m17 em_126
                      try have e17 : m17.toInt = (z8_48).toInt - (z6_32).toInt := by rw [em_126]; exact pm_sub _ _ (by omega) (by omega)
                      intro m18 em_131
                      try have e18 : m18.toInt = (z5_32).toInt - (z4_32).toInt := by rw [em_131]; exact pm_sub _ _ (by omega) (by omega)
                      refine And.intro (fun c19 => ?_) (fun c19 => ?_)
                      · skip
                        refine hC.1 7 138 _ _ rfl _ _ _ _ _ ?_
                        refine hC.1 8 146 _ _ rfl _ _ _ _ _ ?_
                        intro m20 em_146
                        try have e20 : m20.toInt = (z6_32).toInt + (1) := by rw [em_146]; exact pm_addc _ _ (1) rfl (by omega) (by omega)
                        exact hC.2 [false, false, false, false, false, false, false, true, true] _ _ _ _ _ _ (ih4 m14 z6_32 z8_48 m20 (by omega) (by omega))
                      · skip
                        refine hC.1 8 146 _ _ rfl _ _ _ _ _ ?_
                        intro m21 em_146
                        try have e21 : m21.toInt = (z6_32).toInt + (1) := by rw [em_146]; exact pm_addc _ _ (1) rfl (by omega) (by omega)
                        exact hC.2 [false, false, false, false, false, false, false, true, true] _ _ _ _ _ _ (ih4 m14 z4_32 z5_32 m21 (by omega) (by omega))
                  · skip
                    have dc12 : (z8_48).toInt = ((v 0) : Int32).toInt := congrArg Int32.toInt c12
                    refine hC.1 8 146 _ _ rfl _ _ _ _ _ ?_
                    intro m22 em_146
                    try have e22 : m22.toInt = (z6_32).toInt + (1) := by rw [em_146]; exact pm_addc _ _ (1) rfl (by omega) (by omega)
                    exact hC.2 [false, false, false, false, false, false, false, true, true] _ _ _ _ _ _ (ih4 z3_32 z4_32 z5_32 m22 (by omega) (by omega))
                · skip
                  refine Exists.intro _ (And.intro md_o ?_)
                  refine Exists.intro _ (Exists.intro _ (And.intro (Or.inl (md_a_colours D)) (And.intro (by omega) ?_)))
                  have w23 : (0 : Int) ≤ (f 0 (z8_48).toInt.toNat).toInt ∧ (f 0 (z8_48).toInt.toNat).toInt ≤ (23 : Int) := hf 0 _
                  refine And.intro (fun c24 => ?_) (fun c24 => ?_)
                  · skip
                    have dc24 : (((z7_48 ||| ((1 : Int32) <<< ((f 0 (z8_48).toInt.toNat) &&& 31))) &&& x1)).toInt = (x1 : Int32).toInt := congrArg Int32.toInt c24
                    refine hC.1 5 95 _ _ rfl _ _ _ _ _ ?_
                    refine Exists.intro _ (And.intro md_o ?_)
                    refine And.intro (fun c25 => ?_) (fun c25 => ?_)
                    · skip
                      have dc25 := pm_neI c25
                      refine hC.1 6 107 _ _ rfl _ _ _ _ _ ?_
                      refine Exists.intro _ (And.intro md_o ?_)
                      intro m26 em_114
                      try have e26 : m26.toInt = ((v 0)).toInt - (z8_48).toInt := by rw [em_114]; exact pm_sub _ _ (by omega) (by omega)
                      intro m27 em_115
                      try have e27 : m27.toInt = (z3_32).toInt + (m26).toInt := by rw [em_115]; exact pm_add _ _ (by omega) (by omega)
                      refine And.intro (fun c28 => ?_) (fun c28 => ?_)
                      · skip
                        refine hC.1 7 138 _ _ rfl _ _ _ _ _ ?_
                        refine hC.1 8 146 _ _ rfl _ _ _ _ _ ?_
                        intro m29 em_146
                        try have e29 : m29.toInt = (z6_32).toInt + (1) := by rw [em_146]; exact pm_addc _ _ (1) rfl (by omega) (by omega)
                        exact hC.2 [false, false, false, false, false, false, false, true, true] _ _ _ _ _ _ (ih4 m27 z6_32 z8_48 m29 (by omega) (by omega))
                      · skip
                        intro m30 em_126
                        try have e30 : m30.toInt = (z8_48).toInt - (z6_32).toInt := by rw [em_126]; exact pm_sub _ _ (by omega) (by omega)
                        intro m31 em_131
                        try have e31 : m31.toInt = (z5_32).toInt - (z4_32).toInt := by rw [em_131]; exact pm_sub _ _ (by omega) (by omega)
                        refine And.intro (fun c32 => ?_) (fun c32 => ?_)
                        · skip
                          refine hC.1 7 138 _ _ rfl _ _ _ _ _ ?_
                          refine hC.1 8 146 _ _ rfl _ _ _ _ _ ?_
                          intro m33 em_146
                          try have e33 : m33.toInt = (z6_32).toInt + (1) := by rw [em_146]; exact pm_addc _ _ (1) rfl (by omega) (by omega)
                          exact hC.2 [false, false, false, false, false, false, false, true, true] _ _ _ _ _ _ (ih4 m27 z6_32 z8_48 m33 (by omega) (by omega))
                        · skip
                          refine hC.1 8 146 _ _ rfl _ _ _ _ _ ?_
                          intro m34 em_146
                          try have e34 : m34.toInt = (z6_32).toInt + (1) := by rw [em_146]; exact pm_addc _ _ (1) rfl (by omega) (by omega)
                          exact hC.2 [false, false, false, false, false, false, false, true, true] _ _ _ _ _ _ (ih4 m27 z4_32 z5_32 m34 (by omega) (by omega))
                    · skip
                      have dc25 : (z8_48).toInt = ((v 0) : Int32).toInt := congrArg Int32.toInt c25
                      refine hC.1 8 146 _ _ rfl _ _ _ _ _ ?_
                      intro m35 em_146
                      try have e35 : m35.toInt = (z6_32).toInt + (1) := by rw [em_146]; exact pm_addc _ _ (1) rfl (by omega) (by omega)
                      exact hC.2 [false, false, false, false, false, false, false, true, true] _ _ _ _ _ _ (ih4 z3_32 z4_32 z5_32 m35 (by omega) (by omega))
                  · skip
                    have dc24 := pm_neI c24
                    refine Exists.intro _ (And.intro md_o ?_)
                    refine Exists.intro _ (Exists.intro _ (And.intro (Or.inl (md_a_colours D)) (And.intro (by omega) ?_)))
                    have w36 : (0 : Int) ≤ (f 0 (z8_48).toInt.toNat).toInt ∧ (f 0 (z8_48).toInt.toNat).toInt ≤ (23 : Int) := hf 0 _
                    intro m37 em_89
                    try have e37 : m37.toInt = (z8_48).toInt + (1) := by rw [em_89]; exact pm_addc _ _ (1) rfl (by omega) (by omega)
                    exact ih10 (z7_48 ||| ((1 : Int32) <<< ((f 0 (z8_48).toInt.toNat) &&& 31))) m37 (by omega) (by omega)
            exact lp9 (200 - z6_32.toInt).toNat.succ (0 : Int32) z6_32 (by omega) (by omega)
      exact lp3 (200 - (0 : Int32).toInt).toNat.succ (0 : Int32) (-1 : Int32) (0 : Int32) (0 : Int32) (by omega) (by omega)
    · skip
      refine And.intro (fun c9 => absurd c9 (by decide)) (fun _ => ?_)
      refine hC.1 1 19 _ _ rfl _ _ _ _ _ ?_
      have km1 : (-1 : Int32).toInt = -1 := rfl
      exact ⟨rfl, fun e9 => absurd e9 (by decide), rfl, (-1 : Int32), rfl, rfl, by exact True.intro⟩
  · skip
    have k0 : (0 : Int32).toInt = 0 := rfl
    refine And.intro (fun _ => ?_) (fun c9 => absurd c9 (by decide))
    refine hC.1 1 19 _ _ rfl _ _ _ _ _ ?_
    have km1 : (-1 : Int32).toInt = -1 := rfl
    exact ⟨rfl, fun e9 => absurd e9 (by decide), rfl, (-1 : Int32), rfl, rfl, by exact True.intro⟩

end
