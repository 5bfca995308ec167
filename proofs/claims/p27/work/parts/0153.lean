section
variable {l : Launch} {g : pm_G} {A0 : pm_H} {h : Nat} {q : Nat → Nat}
set_option maxRecDepth 100000 in
set_option maxHeartbeats 2000000 in
theorem c_X11_changed (D : md_D h q) (v : Nat → Int32) (f : Nat → Nat → Int32) (hv : md_V v) (hf : md_F f) (x1 : Int32) (x2 : Int32)  : pm_Mt l g 237 2 0 0 [.ref h, .int x1, .int x2] (md A0 g h q v f) (md_Qp (md A0 g h q v f) (fun r => True)) := by
  refine mt_X11_changed rfl (fun J hC => ?_)
  have hv9 := hv
  unfold md_V at hv9
  have rg_x1 := pm_rng x1
  have rg_x2 := pm_rng x2
  refine hC.1 0 0 _ _ rfl _ _ _ _ _ ?_
  refine And.intro (Exists.intro _ md_o) (Exists.intro _ (Exists.intro _ (Exists.intro _ (Exists.intro _ (And.intro (c_X11_isKnown D v f hv hf x1 ) (And.intro rfl (fun r9 A9 h9 => ?_)))))))
  rcases h9 with ⟨y1, rfl, rfl, ⟨rfl, by1⟩ | ⟨rfl, by1⟩⟩
  · skip
    have k1 : (1 : Int32).toInt = 1 := rfl
    refine And.intro (fun c9 => absurd c9 (by decide)) (fun _ => ?_)
    have k0 : (0 : Int32).toInt = 0 := rfl
    have k3 : (3 : Int32).toInt = 3 := rfl
    refine Exists.intro _ (Exists.intro _ (Exists.intro _ (Exists.intro _ (And.intro (c_X11_isIn (md A0 g h q v f) x2 (0 : Int32) (3 : Int32) ) (And.intro rfl (fun r9 A9 h9 => ?_))))))
    rcases h9 with ⟨y2, rfl, rfl, ⟨rfl, by2⟩ | ⟨rfl, by2⟩⟩
    · skip
      refine And.intro (fun _ => ?_) (fun c9 => absurd c9 (by decide))
      refine hC.1 2 19 _ _ rfl _ _ _ _ _ ?_
      have lp3 : ∀ (n : Nat) (z3_24 : Int32) (z4_24 : Int32), (0 ≤ z4_24.toInt ∧ z4_24.toInt ≤ (v 0).toInt) → 200 - z4_24.toInt < (n : Int) → J 24 [some (.ref h), some (.int x1), some (.int x2), some (.int z3_24), some (.int z4_24), none, none] [] (md A0 g h q v f) 0 0 := by
        intro n
        induction n with
        | zero =>
          intro z3_24 z4_24 j0_24 j1_24
          omega
        | succ n ih4 =>
          intro z3_24 z4_24 j0_24 j1_24
          refine hC.1 3 24 _ _ rfl _ _ _ _ _ ?_
          refine Exists.intro _ (And.intro md_o ?_)
          refine And.intro (fun c5 => ?_) (fun c5 => ?_)
          · skip
            refine hC.1 13 140 _ _ rfl _ _ _ _ _ ?_
            exact ⟨rfl, fun e9 => absurd e9 (by decide), rfl, z3_24, rfl, rfl, by exact True.intro⟩
          · skip
            refine Exists.intro _ (And.intro md_o ?_)
            refine Exists.intro _ (Exists.intro _ (And.intro (Or.inl (md_a_names D)) (And.intro (by omega) ?_)))
            refine And.intro (Exists.intro _ md_o) (Exists.intro _ (Exists.intro _ (Exists.intro _ (Exists.intro _ (And.intro (c_X11_wasPlace D v f hv hf x1 (f 1 (z4_24).toInt.toNat) (by omega)) (And.intro rfl (fun r9 A9 h9 => ?_)))))))
            obtain ⟨y6, rfl, rfl, by6⟩ := h9
            refine And.intro (fun c7 => ?_) (fun c7 => ?_)
            · skip
              refine hC.1 4 55 _ _ rfl _ _ _ _ _ ?_
              refine And.intro (fun c8 => ?_) (fun c8 => ?_)
              · skip
                have dc8 : (x2).toInt = (0 : Int32).toInt := congrArg Int32.toInt c8
                refine hC.1 7 114 _ _ rfl _ _ _ _ _ ?_
                refine hC.1 9 119 _ _ rfl _ _ _ _ _ ?_
                refine And.intro (fun c9 => absurd c9 (by decide)) (fun _ => ?_)
                refine hC.1 11 132 _ _ rfl _ _ _ _ _ ?_
                intro m9 em_132
                try have e9 : m9.toInt = (z3_24).toInt + (1) := by rw [em_132]; exact pm_addc _ _ (1) rfl (by omega) (by omega)
                refine hC.1 12 134 _ _ rfl _ _ _ _ _ ?_
                intro m10 em_134
                try have e10 : m10.toInt = (z4_24).toInt + (1) := by rw [em_134]; exact pm_addc _ _ (1) rfl (by omega) (by omega)
                exact hC.2 [false, false, false, false, false, true, true] _ _ _ _ _ _ (ih4 m9 m10 (by omega) (by omega))
              · skip
                have dc8 := pm_neI c8
                refine And.intro (fun c11 => ?_) (fun c11 => ?_)
                · skip
                  have dc11 := pm_neI c11
                  refine hC.1 5 71 _ _ rfl _ _ _ _ _ ?_
                  have k2 : (2 : Int32).toInt = 2 := rfl
                  refine And.intro (fun c12 => ?_) (fun c12 => ?_)
                  · skip
                    have dc12 := pm_neI c12
                    refine hC.1 6 93 _ _ rfl _ _ _ _ _ ?_
                    refine And.intro (fun c13 => ?_) (fun c13 => ?_)
                    · skip
                      have dc13 := pm_neI c13
                      refine hC.1 8 118 _ _ rfl _ _ _ _ _ ?_
                      refine hC.1 9 119 _ _ rfl _ _ _ _ _ ?_
                      refine And.intro (fun _ => ?_) (fun c9 => absurd c9 (by decide))
                      refine hC.1 10 131 _ _ rfl _ _ _ _ _ ?_
                      refine hC.1 11 132 _ _ rfl _ _ _ _ _ ?_
                      intro m14 em_132
                      try have e14 : m14.toInt = (z3_24).toInt + (0) := by rw [em_132]; exact pm_addc _ _ (0) rfl (by omega) (by omega)
                      refine hC.1 12 134 _ _ rfl _ _ _ _ _ ?_
                      intro m15 em_134
                      try have e15 : m15.toInt = (z4_24).toInt + (1) := by rw [em_134]; exact pm_addc _ _ (1) rfl (by omega) (by omega)
                      exact hC.2 [false, false, false, false, false, true, true] _ _ _ _ _ _ (ih4 m14 m15 (by omega) (by omega))
                    · skip
                      have dc13 : (x2).toInt = ((3 : Int32) : Int32).toInt := congrArg Int32.toInt c13
                      refine And.intro (Exists.intro _ md_o) (Exists.intro _ (Exists.intro _ (Exists.intro _ (Exists.intro _ (And.intro (c_X11_bondOf D v f hv hf z4_24 (by omega)) (And.intro rfl (fun r9 A9 h9 => ?_)))))))
                      obtain ⟨y16, rfl, rfl, by16⟩ := h9
                      refine And.intro (Exists.intro _ md_o) (Exists.intro _ (Exists.intro _ (Exists.intro _ (Exists.intro _ (And.intro (c_X11_wasBond D v f hv hf x1 y6 (by omega) (by omega)) (And.intro rfl (fun r9 A9 h9 => ?_)))))))
                      obtain ⟨y17, rfl, rfl, by17⟩ := h9
                      refine And.intro (fun c18 => ?_) (fun c18 => ?_)
                      · skip
                        have dc18 : (y16).toInt = (y17 : Int32).toInt := congrArg Int32.toInt c18
                        refine hC.1 8 118 _ _ rfl _ _ _ _ _ ?_
                        refine hC.1 9 119 _ _ rfl _ _ _ _ _ ?_
                        refine And.intro (fun _ => ?_) (fun c9 => absurd c9 (by decide))
                        refine hC.1 10 131 _ _ rfl _ _ _ _ _ ?_
                        refine hC.1 11 132 _ _ rfl _ _ _ _ _ ?_
                        intro m19 em_132
                        try have e19 : m19.toInt = (z3_24).toInt + (0) := by rw [em_132]; exact pm_addc _ _ (0) rfl (by omega) (by omega)
                        refine hC.1 12 134 _ _ rfl _ _ _ _ _ ?_
                        intro m20 em_134
                        try have e20 : m20.toInt = (z4_24).toInt + (1) := by rw [em_134]; exact pm_addc _ _ (1) rfl (by omega) (by omega)
                        exact hC.2 [false, false, false, false, false, true, true] _ _ _ _ _ _ (ih4 m19 m20 (by omega) (by omega))
                      · skip
                        have dc18 := pm_neI c18
                        refine hC.1 7 114 _ _ rfl _ _ _ _ _ ?_
                        refine hC.1 9 119 _ _ rfl _ _ _ _ _ ?_
                        refine And.intro (fun c9 => absurd c9 (by decide)) (fun _ => ?_)
                        refine hC.1 11 132 _ _ rfl _ _ _ _ _ ?_
                        intro m21 em_132
                        try have e21 : m21.toInt = (z3_24).toInt + (1) := by rw [em_132]; exact pm_addc _ _ (1) rfl (by omega) (by omega)
                        refine hC.1 12 134 _ _ rfl _ _ _ _ _ ?_
                        intro m22 em_134
                        try have e22 : m22.toInt = (z4_24).toInt + (1) := by rw [em_134]; exact pm_addc _ _ (1) rfl (by omega) (by omega)
                        exact hC.2 [false, false, false, false, false, true, true] _ _ _ _ _ _ (ih4 m21 m22 (by omega) (by omega))
                  · skip
                    have dc12 : (x2).toInt = ((2 : Int32) : Int32).toInt := congrArg Int32.toInt c12
                    refine Exists.intro _ (And.intro md_o ?_)
                    refine Exists.intro _ (Exists.intro _ (And.intro (Or.inl (md_a_colours D)) (And.intro (by omega) ?_)))
                    have w23 : (0 : Int) ≤ (f 0 (z4_24).toInt.toNat).toInt ∧ (f 0 (z4_24).toInt.toNat).toInt ≤ (23 : Int) := hf 0 _
                    refine And.intro (Exists.intro _ md_o) (Exists.intro _ (Exists.intro _ (Exists.intro _ (Exists.intro _ (And.intro (c_X11_wasColour D v f hv hf x1 y6 (by omega) (by omega)) (And.intro rfl (fun r9 A9 h9 => ?_)))))))
                    obtain ⟨y24, rfl, rfl, by24⟩ := h9
                    refine And.intro (fun c25 => ?_) (fun c25 => ?_)
                    · skip
                      have dc25 := pm_neI c25
                      refine hC.1 7 114 _ _ rfl _ _ _ _ _ ?_
                      refine hC.1 9 119 _ _ rfl _ _ _ _ _ ?_
                      refine And.intro (fun c9 => absurd c9 (by decide)) (fun _ => ?_)
                      refine hC.1 11 132 _ _ rfl _ _ _ _ _ ?_
                      intro m26 em_132
                      try have e26 : m26.toInt = (z3_24).toInt + (1) := by rw [em_132]; exact pm_addc _ _ (1) rfl (by omega) (by omega)
                      refine hC.1 12 134 _ _ rfl _ _ _ _ _ ?_
                      intro m27 em_134
                      try have e27 : m27.toInt = (z4_24).toInt + (1) := by rw [em_134]; exact pm_addc _ _ (1) rfl (by omega) (by omega)
                      exact hC.2 [false, false, false, false, false, true, true] _ _ _ _ _ _ (ih4 m26 m27 (by omega) (by omega))
                    · skip
                      have dc25 : ((f 0 (z4_24).toInt.toNat)).toInt = (y24 : Int32).toInt := congrArg Int32.toInt c25
                      refine hC.1 6 93 _ _ rfl _ _ _ _ _ ?_
                      refine And.intro (fun c28 => ?_) (fun c28 => ?_)
                      · skip
                        have dc28 := pm_neI c28
                        refine hC.1 8 118 _ _ rfl _ _ _ _ _ ?_
                        refine hC.1 9 119 _ _ rfl _ _ _ _ _ ?_
                        refine And.intro (fun _ => ?_) (fun c9 => absurd c9 (by decide))
                        refine hC.1 10 131 _ _ rfl _ _ _ _ _ ?_
                        refine hC.1 11 132 _ _ rfl _ _ _ _ _ ?_
                        intro m29 em_132
                        try have e29 : m29.toInt = (z3_24).toInt + (0) := by rw [em_132]; exact pm_addc _ _ (0) rfl (by omega) (by omega)
                        refine hC.1 12 134 _ _ rfl _ _ _ _ _ ?_
                        intro m30 em_134
                        try have e30 : m30.toInt = (z4_24).toInt + (1) := by rw [em_134]; exact pm_addc _ _ (1) rfl (by omega) (by omega)
                        exact hC.2 [false, false, false, false, false, true, true] _ _ _ _ _ _ (ih4 m29 m30 (by omega) (by omega))
                      · skip
                        have dc28 : (x2).toInt = ((3 : Int32) : Int32).toInt := congrArg Int32.toInt c28
                        refine And.intro (Exists.intro _ md_o) (Exists.intro _ (Exists.intro _ (Exists.intro _ (Exists.intro _ (And.intro (c_X11_bondOf D v f hv hf z4_24 (by omega)) (And.intro rfl (fun r9 A9 h9 => ?_)))))))
                        obtain ⟨y31, rfl, rfl, by31⟩ := h9
                        refine And.intro (Exists.intro _ md_o) (Exists.intro _ (Exists.intro _ (Exists.intro _ (Exists.intro _ (And.intro (c_X11_wasBond D v f hv hf x1 y6 (by omega) (by omega)) (And.intro rfl (fun r9 A9 h9 => ?_)))))))
                        obtain ⟨y32, rfl, rfl, by32⟩ := h9
                        refine And.intro (fun c33 => ?_) (fun c33 => ?_)
                        · skip
                          have dc33 : (y31).toInt = (y32 : Int32).toInt := congrArg Int32.toInt c33
                          refine hC.1 8 118 _ _ rfl _ _ _ _ _ ?_
                          refine hC.1 9 119 _ _ rfl _ _ _ _ _ ?_
                          refine And.intro (fun _ => ?_) (fun c9 => absurd c9 (by decide))
                          refine hC.1 10 131 _ _ rfl _ _ _ _ _ ?_
                          refine hC.1 11 132 _ _ rfl _ _ _ _ _ ?_
                          intro m34 em_132
                          try have e34 : m34.toInt = (z3_24).toInt + (0) := by rw [em_132]; exact pm_addc _ _ (0) rfl (by omega) (by omega)
                          refine hC.1 12 134 _ _ rfl _ _ _ _ _ ?_
                          intro m35 em_134
                          try have e35 : m35.toInt = (z4_24).toInt + (1) := by rw [em_134]; exact pm_addc _ _ (1) rfl (by omega) (by omega)
                          exact hC.2 [false, false, false, false, false, true, true] _ _ _ _ _ _ (ih4 m34 m35 (by omega) (by omega))
                        · skip
                          have dc33 := pm_neI c33
                          refine hC.1 7 114 _ _ rfl _ _ _ _ _ ?_
                          refine hC.1 9 119 _ _ rfl _ _ _ _ _ ?_
                          refine And.intro (fun c9 => absurd c9 (by decide)) (fun _ => ?_)
                          refine hC.1 11 132 _ _ rfl _ _ _ _ _ ?_
                          intro m36 em_132
                          try have e36 : m36.toInt = (z3_24).toInt + (1) := by rw [em_132]; exact pm_addc _ _ (1) rfl (by omega) (by omega)
                          refine hC.1 12 134 _ _ rfl _ _ _ _ _ ?_
                          intro m37 em_134
                          try have e37 : m37.toInt = (z4_24).toInt + (1) := by rw [em_134]; exact pm_addc _ _ (1) rfl (by omega) (by omega)
                          exact hC.2 [false, false, false, false, false, true, true] _ _ _ _ _ _ (ih4 m36 m37 (by omega) (by omega))
                · skip
                  have dc11 : (x2).toInt = ((1 : Int32) : Int32).toInt := congrArg Int32.toInt c11
                  refine And.intro (fun c38 => ?_) (fun c38 => ?_)
                  · skip
                    have dc38 := pm_neI c38
                    refine hC.1 7 114 _ _ rfl _ _ _ _ _ ?_
                    refine hC.1 9 119 _ _ rfl _ _ _ _ _ ?_
                    refine And.intro (fun c9 => absurd c9 (by decide)) (fun _ => ?_)
                    refine hC.1 11 132 _ _ rfl _ _ _ _ _ ?_
                    intro m39 em_132
                    try have e39 : m39.toInt = (z3_24).toInt + (1) := by rw [em_132]; exact pm_addc _ _ (1) rfl (by omega) (by omega)
                    refine hC.1 12 134 _ _ rfl _ _ _ _ _ ?_
                    intro m40 em_134
                    try have e40 : m40.toInt = (z4_24).toInt + (1) := by rw [em_134]; exact pm_addc _ _ (1) rfl (by omega) (by omega)
                    exact hC.2 [false, false, false, false, false, true, true] _ _ _ _ _ _ (ih4 m39 m40 (by omega) (by omega))
                  · skip
                    have dc38 : (z4_24).toInt = (y6 : Int32).toInt := congrArg Int32.toInt c38
                    refine hC.1 5 71 _ _ rfl _ _ _ _ _ ?_
                    have k2 : (2 : Int32).toInt = 2 := rfl
                    refine And.intro (fun c41 => ?_) (fun c41 => ?_)
                    · skip
                      have dc41 := pm_neI c41
                      refine hC.1 6 93 _ _ rfl _ _ _ _ _ ?_
                      refine And.intro (fun c42 => ?_) (fun c42 => ?_)
                      · skip
                        have dc42 := pm_neI c42
                        refine hC.1 8 118 _ _ rfl _ _ _ _ _ ?_
                        refine hC.1 9 119 _ _ rfl _ _ _ _ _ ?_
                        refine And.intro (fun _ => ?_) (fun c9 => absurd c9 (by decide))
                        refine hC.1 10 131 _ _ rfl _ _ _ _ _ ?_
                        refine hC.1 11 132 _ _ rfl _ _ _ _ _ ?_
                        intro m43 em_132
                        try have e43 : m43.toInt = (z3_24).toInt + (0) := by rw [em_132]; exact pm_addc _ _ (0) rfl (by omega) (by omega)
                        refine hC.1 12 134 _ _ rfl _ _ _ _ _ ?_
                        intro m44 em_134
                        try have e44 : m44.toInt = (z4_24).toInt + (1) := by rw [em_134]; exact pm_addc _ _ (1) rfl (by omega) (by omega)
                        exact hC.2 [false, false, false, false, false, true, true] _ _ _ _ _ _ (ih4 m43 m44 (by omega) (by omega))
                      · skip
                        have dc42 : (x2).toInt = ((3 : Int32) : Int32).toInt := congrArg Int32.toInt c42
                        refine And.intro (Exists.intro _ md_o) (Exists.intro _ (Exists.intro _ (Exists.intro _ (Exists.intro _ (And.intro (c_X11_bondOf D v f hv hf z4_24 (by omega)) (And.intro rfl (fun r9 A9 h9 => ?_)))))))
                        obtain ⟨y45, rfl, rfl, by45⟩ := h9
                        refine And.intro (Exists.intro _ md_o) (Exists.intro _ (Exists.intro _ (Exists.intro _ (Exists.intro _ (And.intro (c_X11_wasBond D v f hv hf x1 y6 (by omega) (by omega)) (And.intro rfl (fun r9 A9 h9 => ?_)))))))
                        obtain ⟨y46, rfl, rfl, by46⟩ := h9
                        refine And.intro (fun c47 => ?_) (fun c47 => ?_)
                        · skip
                          have dc47 : (y45).toInt = (y46 : Int32).toInt := congrArg Int32.toInt c47
                          refine hC.1 8 118 _ _ rfl _ _ _ _ _ ?_
                          refine hC.1 9 119 _ _ rfl _ _ _ _ _ ?_
                          refine And.intro (fun _ => ?_) (fun c9 => absurd c9 (by decide))
                          refine hC.1 10 131 _ _ rfl _ _ _ _ _ ?_
                          refine hC.1 11 132 _ _ rfl _ _ _ _ _ ?_
                          intro m48 em_132
                          try have e48 : m48.toInt = (z3_24).toInt + (0) := by rw [em_132]; exact pm_addc _ _ (0) rfl (by omega) (by omega)
                          refine hC.1 12 134 _ _ rfl _ _ _ _ _ ?_
                          intro m49 em_134
                          try have e49 : m49.toInt = (z4_24).toInt + (1) := by rw [em_134]; exact pm_addc _ _ (1) rfl (by omega) (by omega)
                          exact hC.2 [false, false, false, false, false, true, true] _ _ _ _ _ _ (ih4 m48 m49 (by omega) (by omega))
                        · skip
                          have dc47 := pm_neI c47
                          refine hC.1 7 114 _ _ rfl _ _ _ _ _ ?_
                          refine hC.1 9 119 _ _ rfl _ _ _ _ _ ?_
                          refine And.intro (fun c9 => absurd c9 (by decide)) (fun _ => ?_)
                          refine hC.1 11 132 _ _ rfl _ _ _ _ _ ?_
                          intro m50 em_132
                          try have e50 : m50.toInt = (z3_24).toInt + (1) := by rw [em_132]; exact pm_addc _ _ (1) rfl (by omega) (by omega)
                          refine hC.1 12 134 _ _ rfl _ _ _ _ _ ?_
                          intro m51 em_134
                          try have e51 : m51.toInt = (z4_24).toInt + (1) := by rw [em_134]; exact pm_addc _ _ (1) rfl (by omega) (by omega)
                          exact hC.2 [false, false, false, false, false, true, true] _ _ _ _ _ _ (ih4 m50 m51 (by omega) (by omega))
                    · skip
                      have dc41 : (x2).toInt = ((2 : Int32) : Int32).toInt := congrArg Int32.toInt c41
                      refine Exists.intro _ (And.intro md_o ?_)
                      refine Exists.intro _ (Exists.intro _ (And.intro (Or.inl (md_a_colours D)) (And.intro (by omega) ?_)))
                      have w52 : (0 : Int) ≤ (f 0 (z4_24).toInt.toNat).toInt ∧ (f 0 (z4_24).toInt.toNat).toInt ≤ (23 : Int) := hf 0 _
                      refine And.intro (Exists.intro _ md_o) (Exists.intro _ (Exists.intro _ (Exists.intro _ (Exists.intro _ (And.intro (c_X11_wasColour D v f hv hf x1 y6 (by omega) (by omega)) (And.intro rfl (fun r9 A9 h9 => ?_)))))))
                      obtain ⟨y53, rfl, rfl, by53⟩ := h9
                      refine And.intro (fun c54 => ?_) (fun c54 => ?_)
                      · skip
                        have dc54 := pm_neI c54
                        refine hC.1 7 114 _ _ rfl _ _ _ _ _ ?_
                        refine hC.1 9 119 _ _ rfl _ _ _ _ _ ?_
                        refine And.intro (fun c9 => absurd c9 (by decide)) (fun _ => ?_)
                        refine hC.1 11 132 _ _ rfl _ _ _ _ _ ?_
                        intro m55 em_132
                        try have e55 : m55.toInt = (z3_24).toInt + (1) := by rw [em_132]; exact pm_addc _ _ (1) rfl (by omega) (by omega)
                        refine hC.1 12 134 _ _ rfl _ _ _ _ _ ?_
                        intro m56 em_134
                        try have e56 : m56.toInt = (z4_24).toInt + (1) := by rw [em_134]; exact pm_addc _ _ (1) rfl (by omega) (by omega)
                        exact hC.2 [false, false, false, false, false, true, true] _ _ _ _ _ _ (ih4 m55 m56 (by omega) (by omega))
                      · skip
                        have dc54 : ((f 0 (z4_24).toInt.toNat)).toInt = (y53 : Int32).toInt := congrArg Int32.toInt c54
                        refine hC.1 6 93 _ _ rfl _ _ _ _ _ ?_
                        refine And.intro (fun c57 => ?_) (fun c57 => ?_)
                        · skip
                          have dc57 := pm_neI c57
                          refine hC.1 8 118 _ _ rfl _ _ _ _ _ ?_
                          refine hC.1 9 119 _ _ rfl _ _ _ _ _ ?_
                          refine And.intro (fun _ => ?_) (fun c9 => absurd c9 (by decide))
                          refine hC.1 10 131 _ _ rfl _ _ _ _ _ ?_
                          refine hC.1 11 132 _ _ rfl _ _ _ _ _ ?_
                          intro m58 em_132
                          try have e58 : m58.toInt = (z3_24).toInt + (0) := by rw [em_132]; exact pm_addc _ _ (0) rfl (by omega) (by omega)
                          refine hC.1 12 134 _ _ rfl _ _ _ _ _ ?_
                          intro m59 em_134
                          try have e59 : m59.toInt = (z4_24).toInt + (1) := by rw [em_134]; exact pm_addc _ _ (1) rfl (by omega) (by omega)
                          exact hC.2 [false, false, false, false, false, true, true] _ _ _ _ _ _ (ih4 m58 m59 (by omega) (by omega))
                        · skip
                          have dc57 : (x2).toInt = ((3 : Int32) : Int32).toInt := congrArg Int32.toInt c57
                          refine And.intro (Exists.intro _ md_o) (Exists.intro _ (Exists.intro _ (Exists.intro _ (Exists.intro _ (And.intro (c_X11_bondOf D v f hv hf z4_24 (by omega)) (And.intro rfl (fun r9 A9 h9 => ?_)))))))
                          obtain ⟨y60, rfl, rfl, by60⟩ := h9
                          refine And.intro (Exists.intro _ md_o) (Exists.intro _ (Exists.intro _ (Exists.intro _ (Exists.intro _ (And.intro (c_X11_wasBond D v f hv hf x1 y6 (by omega) (by omega)) (And.intro rfl (fun r9 A9 h9 => ?_)))))))
                          obtain ⟨y61, rfl, rfl, by61⟩ := h9
                          refine And.intro (fun c62 => ?_) (fun c62 => ?_)
                          · skip
                            have dc62 : (y60).toInt = (y61 : Int32).toInt := congrArg Int32.toInt c62
                            refine hC.1 8 118 _ _ rfl _ _ _ _ _ ?_
                            refine hC.1 9 119 _ _ rfl _ _ _ _ _ ?_
                            refine And.intro (fun _ => ?_) (fun c9 => absurd c9 (by decide))
                            refine hC.1 10 131 _ _ rfl _ _ _ _ _ ?_
                            refine hC.1 11 132 _ _ rfl _ _ _ _ _ ?_
                            intro m63 em_132
                            try have e63 : m63.toInt = (z3_24).toInt + (0) := by rw [em_132]; exact pm_addc _ _ (0) rfl (by omega) (by omega)
                            refine hC.1 12 134 _ _ rfl _ _ _ _ _ ?_
                            intro m64 em_134
                            try have e64 : m64.toInt = (z4_24).toInt + (1) := by rw [em_134]; exact pm_addc _ _ (1) rfl (by omega) (by omega)
                            exact hC.2 [false, false, false, false, false, true, true] _ _ _ _ _ _ (ih4 m63 m64 (by omega) (by omega))
                          · skip
                            have dc62 := pm_neI c62
                            refine hC.1 7 114 _ _ rfl _ _ _ _ _ ?_
                            refine hC.1 9 119 _ _ rfl _ _ _ _ _ ?_
                            refine And.intro (fun c9 => absurd c9 (by decide)) (fun _ => ?_)
                            refine hC.1 11 132 _ _ rfl _ _ _ _ _ ?_
                            intro m65 em_132
                            try have e65 : m65.toInt = (z3_24).toInt + (1) := by rw [em_132]; exact pm_addc _ _ (1) rfl (by omega) (by omega)
                            refine hC.1 12 134 _ _ rfl _ _ _ _ _ ?_
                            intro m66 em_134
                            try have e66 : m66.toInt = (z4_24).toInt + (1) := by rw [em_134]; exact pm_addc _ _ (1) rfl (by omega) (by omega)
                            exact hC.2 [false, false, false, false, false, true, true] _ _ _ _ _ _ (ih4 m65 m66 (by omega) (by omega))
            · skip
              refine hC.1 12 134 _ _ rfl _ _ _ _ _ ?_
              intro m67 em_134
              try have e67 : m67.toInt = (z4_24).toInt + (1) := by rw [em_134]; exact pm_addc _ _ (1) rfl (by omega) (by omega)
              exact hC.2 [false, false, false, false, false, true, false] _ _ _ _ _ _ (ih4 z3_24 m67 (by omega) (by omega))
      exact lp3 (200 - (0 : Int32).toInt).toNat.succ (0 : Int32) (0 : Int32) (by omega) (by omega)
    · skip
      refine And.intro (fun c9 => absurd c9 (by decide)) (fun _ => ?_)
      refine hC.1 1 17 _ _ rfl _ _ _ _ _ ?_
      have km1 : (-1 : Int32).toInt = -1 := rfl
      exact ⟨rfl, fun e9 => absurd e9 (by decide), rfl, (-1 : Int32), rfl, rfl, by exact True.intro⟩
  · skip
    have k0 : (0 : Int32).toInt = 0 := rfl
    refine And.intro (fun _ => ?_) (fun c9 => absurd c9 (by decide))
    refine hC.1 1 17 _ _ rfl _ _ _ _ _ ?_
    have km1 : (-1 : Int32).toInt = -1 := rfl
    exact ⟨rfl, fun e9 => absurd e9 (by decide), rfl, (-1 : Int32), rfl, rfl, by exact True.intro⟩

end
