section
variable {l : Launch} {g : pm_G} {A0 : pm_H} {h : Nat} {q : Nat → Nat}
set_option maxRecDepth 100000 in
set_option maxHeartbeats 2000000 in
theorem c_X11_apart (D : md_D h q) (v : Nat → Int32) (f : Nat → Nat → Int32) (hv : md_V v) (hf : md_F f) (x1 : Int32) (x2 : Int32) (x3 : Int32)  : pm_Mt l g 246 2 0 0 [.ref h, .int x1, .int x2, .int x3] (md A0 g h q v f) (md_Qp (md A0 g h q v f) (fun r => True)) := by
  refine mt_X11_apart rfl (fun J hC => ?_)
  have hv9 := hv
  unfold md_V at hv9
  have rg_x1 := pm_rng x1
  have rg_x2 := pm_rng x2
  have rg_x3 := pm_rng x3
  refine hC.1 0 0 _ _ rfl _ _ _ _ _ ?_
  refine Exists.intro _ (Exists.intro _ (Exists.intro _ (Exists.intro _ (And.intro (c_X11_isColour (md A0 g h q v f) x1 ) (And.intro rfl (fun r9 A9 h9 => ?_))))))
  rcases h9 with ⟨y1, rfl, rfl, ⟨rfl, by1⟩ | ⟨rfl, by1⟩⟩
  · skip
    have k1 : (1 : Int32).toInt = 1 := rfl
    refine And.intro (fun c9 => absurd c9 (by decide)) (fun _ => ?_)
    refine Exists.intro _ (Exists.intro _ (Exists.intro _ (Exists.intro _ (And.intro (c_X11_isColour (md A0 g h q v f) x2 ) (And.intro rfl (fun r9 A9 h9 => ?_))))))
    rcases h9 with ⟨y2, rfl, rfl, ⟨rfl, by2⟩ | ⟨rfl, by2⟩⟩
    · skip
      refine And.intro (fun c9 => absurd c9 (by decide)) (fun _ => ?_)
      refine And.intro (fun c3 => ?_) (fun c3 => ?_)
      · skip
        have dc3 : (x1).toInt = (x2 : Int32).toInt := congrArg Int32.toInt c3
        refine hC.1 1 28 _ _ rfl _ _ _ _ _ ?_
        have km1 : (-1 : Int32).toInt = -1 := rfl
        exact ⟨rfl, fun e9 => absurd e9 (by decide), rfl, (-1 : Int32), rfl, rfl, by exact True.intro⟩
      · skip
        have dc3 := pm_neI c3
        have k0 : (0 : Int32).toInt = 0 := rfl
        refine Exists.intro _ (Exists.intro _ (Exists.intro _ (Exists.intro _ (And.intro (c_X11_isIn (md A0 g h q v f) x3 (0 : Int32) (1 : Int32) ) (And.intro rfl (fun r9 A9 h9 => ?_))))))
        rcases h9 with ⟨y4, rfl, rfl, ⟨rfl, by4⟩ | ⟨rfl, by4⟩⟩
        · skip
          refine And.intro (fun _ => ?_) (fun c9 => absurd c9 (by decide))
          refine hC.1 2 30 _ _ rfl _ _ _ _ _ ?_
          have km1 : (-1 : Int32).toInt = -1 := rfl
          have k268435456 : (268435456 : Int32).toInt = 268435456 := rfl
          have lp5 : ∀ (n : Nat) (z4_40 : Int32) (z5_40 : Int32) (z6_40 : Int32), (0 ≤ z6_40.toInt ∧ z6_40.toInt ≤ (v 0).toInt) → 200 - z6_40.toInt < (n : Int) → J 40 [some (.ref h), some (.int x1), some (.int x2), some (.int x3), some (.int z4_40), some (.int z5_40), some (.int z6_40), none] [] (md A0 g h q v f) 0 0 := by
            intro n
            induction n with
            | zero =>
              intro z4_40 z5_40 z6_40 j0_40 j1_40
              omega
            | succ n ih6 =>
              intro z4_40 z5_40 z6_40 j0_40 j1_40
              refine hC.1 3 40 _ _ rfl _ _ _ _ _ ?_
              refine Exists.intro _ (And.intro md_o ?_)
              refine And.intro (fun c7 => ?_) (fun c7 => ?_)
              · skip
                refine hC.1 9 135 _ _ rfl _ _ _ _ _ ?_
                refine And.intro (fun c8 => ?_) (fun c8 => ?_)
                · skip
                  refine hC.1 10 145 _ _ rfl _ _ _ _ _ ?_
                  refine hC.1 12 152 _ _ rfl _ _ _ _ _ ?_
                  exact ⟨rfl, fun e9 => absurd e9 (by decide), rfl, z4_40, rfl, rfl, by exact True.intro⟩
                · skip
                  refine And.intro (fun c9 => ?_) (fun c9 => ?_)
                  · skip
                    have dc9 := pm_neI c9
                    refine hC.1 11 150 _ _ rfl _ _ _ _ _ ?_
                    refine hC.1 12 152 _ _ rfl _ _ _ _ _ ?_
                    exact ⟨rfl, fun e9 => absurd e9 (by decide), rfl, z5_40, rfl, rfl, by exact True.intro⟩
                  · skip
                    have dc9 : (x3).toInt = ((1 : Int32) : Int32).toInt := congrArg Int32.toInt c9
                    refine hC.1 10 145 _ _ rfl _ _ _ _ _ ?_
                    refine hC.1 12 152 _ _ rfl _ _ _ _ _ ?_
                    exact ⟨rfl, fun e9 => absurd e9 (by decide), rfl, z4_40, rfl, rfl, by exact True.intro⟩
              · skip
                refine Exists.intro _ (And.intro md_o ?_)
                refine Exists.intro _ (Exists.intro _ (And.intro (Or.inl (md_a_colours D)) (And.intro (by omega) ?_)))
                have w10 : (0 : Int) ≤ (f 0 (z6_40).toInt.toNat).toInt ∧ (f 0 (z6_40).toInt.toNat).toInt ≤ (23 : Int) := hf 0 _
                refine And.intro (fun c11 => ?_) (fun c11 => ?_)
                · skip
                  have dc11 : ((f 0 (z6_40).toInt.toNat)).toInt = (x1 : Int32).toInt := congrArg Int32.toInt c11
                  refine hC.1 4 74 _ _ rfl _ _ _ _ _ ?_
                  refine Exists.intro _ (And.intro md_o ?_)
                  refine Exists.intro _ (Exists.intro _ (And.intro (Or.inl (md_a_colours D)) (And.intro (by omega) ?_)))
                  have w12 : (0 : Int) ≤ (f 0 (z6_40).toInt.toNat).toInt ∧ (f 0 (z6_40).toInt.toNat).toInt ≤ (23 : Int) := hf 0 _
                  refine And.intro (fun c13 => ?_) (fun c13 => ?_)
                  · skip
                    have dc13 := pm_neI c13
                    refine hC.1 5 90 _ _ rfl _ _ _ _ _ ?_
                    refine hC.1 6 91 _ _ rfl _ _ _ _ _ ?_
                    refine And.intro (Exists.intro _ md_o) (Exists.intro _ (Exists.intro _ (Exists.intro _ (Exists.intro _ (And.intro (c_X11_nextBehind D v f hv hf x1 z6_40 (by omega)) (And.intro rfl (fun r9 A9 h9 => ?_)))))))
                    obtain ⟨y14, rfl, rfl, by14⟩ := h9
                    intro m15 em_102
                    try have e15 : m15.toInt = (y14).toInt - (z6_40).toInt := by rw [em_102]; exact pm_sub _ _ (by omega) (by omega)
                    refine And.intro (fun c16 => ?_) (fun c16 => ?_)
                    · skip
                      refine hC.1 8 129 _ _ rfl _ _ _ _ _ ?_
                      intro m17 em_129
                      try have e17 : m17.toInt = (z6_40).toInt + (1) := by rw [em_129]; exact pm_addc _ _ (1) rfl (by omega) (by omega)
                      exact hC.2 [false, false, false, false, false, false, false, true] _ _ _ _ _ _ (ih6 z4_40 z5_40 m17 (by omega) (by omega))
                    · skip
                      refine And.intro (fun c18 => ?_) (fun c18 => ?_)
                      · skip
                        have dc18 := pm_neI c18
                        refine hC.1 7 118 _ _ rfl _ _ _ _ _ ?_
                        intro m19 em_126
                        try have e19 : m19.toInt = (y14).toInt - (z6_40).toInt := by rw [em_126]; exact pm_sub _ _ (by omega) (by omega)
                        refine hC.1 8 129 _ _ rfl _ _ _ _ _ ?_
                        intro m20 em_129
                        try have e20 : m20.toInt = (z6_40).toInt + (1) := by rw [em_129]; exact pm_addc _ _ (1) rfl (by omega) (by omega)
                        exact hC.2 [false, false, false, false, false, false, false, true] _ _ _ _ _ _ (ih6 z6_40 m19 m20 (by omega) (by omega))
                      · skip
                        have dc18 : (y14).toInt = ((268435456 : Int32) : Int32).toInt := congrArg Int32.toInt c18
                        refine hC.1 8 129 _ _ rfl _ _ _ _ _ ?_
                        intro m21 em_129
                        try have e21 : m21.toInt = (z6_40).toInt + (1) := by rw [em_129]; exact pm_addc _ _ (1) rfl (by omega) (by omega)
                        exact hC.2 [false, false, false, false, false, false, false, true] _ _ _ _ _ _ (ih6 z4_40 z5_40 m21 (by omega) (by omega))
                  · skip
                    have dc13 : ((f 0 (z6_40).toInt.toNat)).toInt = (x1 : Int32).toInt := congrArg Int32.toInt c13
                    refine hC.1 6 91 _ _ rfl _ _ _ _ _ ?_
                    refine And.intro (Exists.intro _ md_o) (Exists.intro _ (Exists.intro _ (Exists.intro _ (Exists.intro _ (And.intro (c_X11_nextBehind D v f hv hf x2 z6_40 (by omega)) (And.intro rfl (fun r9 A9 h9 => ?_)))))))
                    obtain ⟨y22, rfl, rfl, by22⟩ := h9
                    intro m23 em_102
                    try have e23 : m23.toInt = (y22).toInt - (z6_40).toInt := by rw [em_102]; exact pm_sub _ _ (by omega) (by omega)
                    refine And.intro (fun c24 => ?_) (fun c24 => ?_)
                    · skip
                      refine hC.1 8 129 _ _ rfl _ _ _ _ _ ?_
                      intro m25 em_129
                      try have e25 : m25.toInt = (z6_40).toInt + (1) := by rw [em_129]; exact pm_addc _ _ (1) rfl (by omega) (by omega)
                      exact hC.2 [false, false, false, false, false, false, false, true] _ _ _ _ _ _ (ih6 z4_40 z5_40 m25 (by omega) (by omega))
                    · skip
                      refine And.intro (fun c26 => ?_) (fun c26 => ?_)
                      · skip
                        have dc26 := pm_neI c26
                        refine hC.1 7 118 _ _ rfl _ _ _ _ _ ?_
                        intro m27 em_126
                        try have e27 : m27.toInt = (y22).toInt - (z6_40).toInt := by rw [em_126]; exact pm_sub _ _ (by omega) (by omega)
                        refine hC.1 8 129 _ _ rfl _ _ _ _ _ ?_
                        intro m28 em_129
                        try have e28 : m28.toInt = (z6_40).toInt + (1) := by rw [em_129]; exact pm_addc _ _ (1) rfl (by omega) (by omega)
                        exact hC.2 [false, false, false, false, false, false, false, true] _ _ _ _ _ _ (ih6 z6_40 m27 m28 (by omega) (by omega))
                      · skip
                        have dc26 : (y22).toInt = ((268435456 : Int32) : Int32).toInt := congrArg Int32.toInt c26
                        refine hC.1 8 129 _ _ rfl _ _ _ _ _ ?_
                        intro m29 em_129
                        try have e29 : m29.toInt = (z6_40).toInt + (1) := by rw [em_129]; exact pm_addc _ _ (1) rfl (by omega) (by omega)
                        exact hC.2 [false, false, false, false, false, false, false, true] _ _ _ _ _ _ (ih6 z4_40 z5_40 m29 (by omega) (by omega))
                · skip
                  have dc11 := pm_neI c11
                  refine Exists.intro _ (And.intro md_o ?_)
                  refine Exists.intro _ (Exists.intro _ (And.intro (Or.inl (md_a_colours D)) (And.intro (by omega) ?_)))
                  have w30 : (0 : Int) ≤ (f 0 (z6_40).toInt.toNat).toInt ∧ (f 0 (z6_40).toInt.toNat).toInt ≤ (23 : Int) := hf 0 _
                  refine And.intro (fun c31 => ?_) (fun c31 => ?_)
                  · skip
                    have dc31 : ((f 0 (z6_40).toInt.toNat)).toInt = (x2 : Int32).toInt := congrArg Int32.toInt c31
                    refine hC.1 4 74 _ _ rfl _ _ _ _ _ ?_
                    refine Exists.intro _ (And.intro md_o ?_)
                    refine Exists.intro _ (Exists.intro _ (And.intro (Or.inl (md_a_colours D)) (And.intro (by omega) ?_)))
                    have w32 : (0 : Int) ≤ (f 0 (z6_40).toInt.toNat).toInt ∧ (f 0 (z6_40).toInt.toNat).toInt ≤ (23 : Int) := hf 0 _
                    refine And.intro (fun c33 => ?_) (fun c33 => ?_)
                    · skip
                      have dc33 := pm_neI c33
                      refine hC.1 5 90 _ _ rfl _ _ _ _ _ ?_
                      refine hC.1 6 91 _ _ rfl _ _ _ _ _ ?_
                      refine And.intro (Exists.intro _ md_o) (Exists.intro _ (Exists.intro _ (Exists.intro _ (Exists.intro _ (And.intro (c_X11_nextBehind D v f hv hf x1 z6_40 (by omega)) (And.intro rfl (fun r9 A9 h9 => ?_)))))))
                      obtain ⟨y34, rfl, rfl, by34⟩ := h9
                      intro m35 em_102
                      try have e35 : m35.toInt = (y34).toInt - (z6_40).toInt := by rw [em_102]; exact pm_sub _ _ (by omega) (by omega)
                      refine And.intro (fun c36 => ?_) (fun c36 => ?_)
                      · skip
                        refine hC.1 8 129 _ _ rfl _ _ _ _ _ ?_
                        intro m37 em_129
                        try have e37 : m37.toInt = (z6_40).toInt + (1) := by rw [em_129]; exact pm_addc _ _ (1) rfl (by omega) (by omega)
                        exact hC.2 [false, false, false, false, false, false, false, true] _ _ _ _ _ _ (ih6 z4_40 z5_40 m37 (by omega) (by omega))
                      · skip
                        refine And.intro (fun c38 => ?_) (fun c38 => ?_)
                        · skip
                          have dc38 := pm_neI c38
                          refine hC.1 7 118 _ _ rfl _ _ _ _ _ ?_
                          intro m39 em_126
                          try have e39 : m39.toInt = (y34).toInt - (z6_40).toInt := by rw [em_126]; exact pm_sub _ _ (by omega) (by omega)
                          refine hC.1 8 129 _ _ rfl _ _ _ _ _ ?_
                          intro m40 em_129
                          try have e40 : m40.toInt = (z6_40).toInt + (1) := by rw [em_129]; exact pm_addc _ _ (1) rfl (by omega) (by omega)
                          exact hC.2 [false, false, false, false, false, false, false, true] _ _ _ _ _ _ (ih6 z6_40 m39 m40 (by omega) (by omega))
                        · skip
                          have dc38 : (y34).toInt = ((268435456 : Int32) : Int32).toInt := congrArg Int32.toInt c38
                          refine hC.1 8 129 _ _ rfl _ _ _ _ _ ?_
                          intro m41 em_129
                          try have e41 : m41.toInt = (z6_40).toInt + (1) := by rw [em_129]; exact pm_addc _ _ (1) rfl (by omega) (by omega)
                          exact hC.2 [false, false, false, false, false, false, false, true] _ _ _ _ _ _ (ih6 z4_40 z5_40 m41 (by omega) (by omega))
                    · skip
                      have dc33 : ((f 0 (z6_40).toInt.toNat)).toInt = (x1 : Int32).toInt := congrArg Int32.toInt c33
                      refine hC.1 6 91 _ _ rfl _ _ _ _ _ ?_
                      refine And.intro (Exists.intro _ md_o) (Exists.intro _ (Exists.intro _ (Exists.intro _ (Exists.intro _ (And.intro (c_X11_nextBehind D v f hv hf x2 z6_40 (by omega)) (And.intro rfl (fun r9 A9 h9 => ?_)))))))
                      obtain ⟨y42, rfl, rfl, by42⟩ := h9
                      intro m43 em_102
                      try have e43 : m43.toInt = (y42).toInt - (z6_40).toInt := by rw [em_102]; exact pm_sub _ _ (by omega) (by omega)
                      refine And.intro (fun c44 => ?_) (fun c44 => ?_)
                      · skip
                        refine hC.1 8 129 _ _ rfl _ _ _ _ _ ?_
                        intro m45 em_129
                        try have e45 : m45.toInt = (z6_40).toInt + (1) := by rw [em_129]; exact pm_addc _ _ (1) rfl (by omega) (by omega)
                        exact hC.2 [false, false, false, false, false, false, false, true] _ _ _ _ _ _ (ih6 z4_40 z5_40 m45 (by omega) (by omega))
                      · skip
                        refine And.intro (fun c46 => ?_) (fun c46 => ?_)
                        · skip
                          have dc46 := pm_neI c46
                          refine hC.1 7 118 _ _ rfl _ _ _ _ _ ?_
                          intro m47 em_126
                          try have e47 : m47.toInt = (y42).toInt - (z6_40).toInt := by rw [em_126]; exact pm_sub _ _ (by omega) (by omega)
                          refine hC.1 8 129 _ _ rfl _ _ _ _ _ ?_
                          intro m48 em_129
                          try have e48 : m48.toInt = (z6_40).toInt + (1) := by rw [em_129]; exact pm_addc _ _ (1) rfl (by omega) (by omega)
                          exact hC.2 [false, false, false, false, false, false, false, true] _ _ _ _ _ _ (ih6 z6_40 m47 m48 (by omega) (by omega))
                        · skip
                          have dc46 : (y42).toInt = ((268435456 : Int32) : Int32).toInt := congrArg Int32.toInt c46
                          refine hC.1 8 129 _ _ rfl _ _ _ _ _ ?_
                          intro m49 em_129
                          try have e49 : m49.toInt = (z6_40).toInt + (1) := by rw [em_129]; exact pm_addc _ _ (1) rfl (by omega) (by omega)
                          exact hC.2 [false, false, false, false, false, false, false, true] _ _ _ _ _ _ (ih6 z4_40 z5_40 m49 (by omega) (by omega))
                  · skip
                    have dc31 := pm_neI c31
                    refine hC.1 8 129 _ _ rfl _ _ _ _ _ ?_
                    intro m50 em_129
                    try have e50 : m50.toInt = (z6_40).toInt + (1) := by rw [em_129]; exact pm_addc _ _ (1) rfl (by omega) (by omega)
                    exact ih6 z4_40 z5_40 m50 (by omega) (by omega)
          exact lp5 (200 - (0 : Int32).toInt).toNat.succ (-1 : Int32) (268435456 : Int32) (0 : Int32) (by omega) (by omega)
        · skip
          refine And.intro (fun c9 => absurd c9 (by decide)) (fun _ => ?_)
          refine hC.1 1 28 _ _ rfl _ _ _ _ _ ?_
          have km1 : (-1 : Int32).toInt = -1 := rfl
          exact ⟨rfl, fun e9 => absurd e9 (by decide), rfl, (-1 : Int32), rfl, rfl, by exact True.intro⟩
    · skip
      have k0 : (0 : Int32).toInt = 0 := rfl
      refine And.intro (fun _ => ?_) (fun c9 => absurd c9 (by decide))
      refine hC.1 1 28 _ _ rfl _ _ _ _ _ ?_
      have km1 : (-1 : Int32).toInt = -1 := rfl
      exact ⟨rfl, fun e9 => absurd e9 (by decide), rfl, (-1 : Int32), rfl, rfl, by exact True.intro⟩
  · skip
    have k0 : (0 : Int32).toInt = 0 := rfl
    refine And.intro (fun _ => ?_) (fun c9 => absurd c9 (by decide))
    refine hC.1 1 28 _ _ rfl _ _ _ _ _ ?_
    have km1 : (-1 : Int32).toInt = -1 := rfl
    exact ⟨rfl, fun e9 => absurd e9 (by decide), rfl, (-1 : Int32), rfl, rfl, by exact True.intro⟩

end
