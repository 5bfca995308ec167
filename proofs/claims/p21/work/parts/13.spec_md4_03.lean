section
variable {l : Launch} {g : pm_G} {A0 : pm_H} {h : Nat} {q : Nat → Nat}
set_option maxRecDepth 100000 in
set_option maxHeartbeats 2000000 in
theorem c_X11_reachBack (D : md_D h q) (v : Nat → Int32) (f : Nat → Nat → Int32) (hv : md_V v) (hf : md_F f) (x1 : Int32) (x2 : Int32)  : pm_Mt l g 249 2 0 0 [.ref h, .int x1, .int x2] (md A0 g h q v f) (md_Qp (md A0 g h q v f) (fun r => True)) := by
  refine mt_X11_reachBack rfl (fun J hC => ?_)
  have hv9 := hv
  unfold md_V at hv9
  have rg_x1 := pm_rng x1
  have rg_x2 := pm_rng x2
  refine hC.1 0 0 _ _ rfl _ _ _ _ _ ?_
  refine And.intro (Exists.intro _ md_o) (Exists.intro _ (Exists.intro _ (Exists.intro _ (Exists.intro _ (And.intro (c_X11_isPlace D v f hv hf x1 ) (And.intro rfl (fun r9 A9 h9 => ?_)))))))
  rcases h9 with ⟨y1, rfl, rfl, ⟨rfl, by1⟩ | ⟨rfl, by1⟩⟩
  · skip
    have k1 : (1 : Int32).toInt = 1 := rfl
    refine And.intro (fun c9 => absurd c9 (by decide)) (fun _ => ?_)
    refine And.intro (fun c2 => ?_) (fun c2 => ?_)
    · skip
      refine hC.1 2 15 _ _ rfl _ _ _ _ _ ?_
      have lp3 : ∀ (n : Nat) (z3_17 : Int32), (-1 ≤ z3_17.toInt ∧ z3_17.toInt ≤ x1.toInt) → z3_17.toInt + 1 < (n : Int) → J 17 [some (.ref h), some (.int x1), some (.int x2), some (.int z3_17)] [] (md A0 g h q v f) 0 0 := by
        intro n
        induction n with
        | zero =>
          intro z3_17 j0_17 j1_17
          omega
        | succ n ih4 =>
          intro z3_17 j0_17 j1_17
          refine hC.1 3 17 _ _ rfl _ _ _ _ _ ?_
          refine And.intro (fun c5 => ?_) (fun c5 => ?_)
          · skip
            refine hC.1 5 39 _ _ rfl _ _ _ _ _ ?_
            have km1 : (-1 : Int32).toInt = -1 := rfl
            exact ⟨rfl, fun e9 => absurd e9 (by decide), rfl, (-1 : Int32), rfl, rfl, by first | trivial | omega | (dsimp only; omega)⟩
          · skip
            refine And.intro (Exists.intro _ md_o) (Exists.intro _ (Exists.intro _ (Exists.intro _ (Exists.intro _ (And.intro (c_X11_countOf D v f hv hf z3_17 x1 (by omega) (by omega)) (And.intro rfl (fun r9 A9 h9 => ?_)))))))
            obtain ⟨y6, rfl, rfl, by6⟩ := h9
            refine And.intro (fun c7 => ?_) (fun c7 => ?_)
            · skip
              refine hC.1 4 33 _ _ rfl _ _ _ _ _ ?_
              have km1 : (-1 : Int32).toInt = -1 := rfl
              intro m8 em_33
              try have e8 : m8.toInt = (z3_17).toInt + (-1) := by rw [em_33]; exact pm_addc _ _ (-1) rfl (by omega) (by omega)
              exact ih4 m8 (by omega) (by omega)
            · skip
              exact ⟨rfl, fun e9 => absurd e9 (by decide), rfl, z3_17, rfl, rfl, by first | trivial | omega | (dsimp only; omega)⟩
      exact lp3 (x1.toInt + 1).toNat.succ x1 (by omega) (by omega)
    · skip
      refine hC.1 1 13 _ _ rfl _ _ _ _ _ ?_
      have km1 : (-1 : Int32).toInt = -1 := rfl
      exact ⟨rfl, fun e9 => absurd e9 (by decide), rfl, (-1 : Int32), rfl, rfl, by first | trivial | omega | (dsimp only; omega)⟩
  · skip
    have k0 : (0 : Int32).toInt = 0 := rfl
    refine And.intro (fun _ => ?_) (fun c9 => absurd c9 (by decide))
    refine hC.1 1 13 _ _ rfl _ _ _ _ _ ?_
    have km1 : (-1 : Int32).toInt = -1 := rfl
    exact ⟨rfl, fun e9 => absurd e9 (by decide), rfl, (-1 : Int32), rfl, rfl, by first | trivial | omega | (dsimp only; omega)⟩

set_option maxRecDepth 100000 in
set_option maxHeartbeats 2000000 in
theorem c_X11_load (D : md_D h q) (v : Nat → Int32) (f : Nat → Nat → Int32) (hv : md_V v) (hf : md_F f) (x1 : Int32) (x2 : Int32)  : pm_Mt l g 250 2 0 0 [.ref h, .int x1, .int x2] (md A0 g h q v f) (md_Qp (md A0 g h q v f) (fun r => True)) := by
  refine mt_X11_load rfl (fun J hC => ?_)
  have hv9 := hv
  unfold md_V at hv9
  have rg_x1 := pm_rng x1
  have rg_x2 := pm_rng x2
  refine hC.1 0 0 _ _ rfl _ _ _ _ _ ?_
  refine And.intro (Exists.intro _ md_o) (Exists.intro _ (Exists.intro _ (Exists.intro _ (Exists.intro _ (And.intro (c_X11_isPlace D v f hv hf x1 ) (And.intro rfl (fun r9 A9 h9 => ?_)))))))
  rcases h9 with ⟨y1, rfl, rfl, ⟨rfl, by1⟩ | ⟨rfl, by1⟩⟩
  · skip
    have k1 : (1 : Int32).toInt = 1 := rfl
    refine And.intro (fun c9 => absurd c9 (by decide)) (fun _ => ?_)
    refine And.intro (fun c2 => ?_) (fun c2 => ?_)
    · skip
      refine hC.1 2 15 _ _ rfl _ _ _ _ _ ?_
      have lp3 : ∀ (n : Nat) (z3_17 : Int32), (x1.toInt ≤ z3_17.toInt ∧ z3_17.toInt ≤ (v 0).toInt) → 200 - z3_17.toInt < (n : Int) → J 17 [some (.ref h), some (.int x1), some (.int x2), some (.int z3_17)] [] (md A0 g h q v f) 0 0 := by
        intro n
        induction n with
        | zero =>
          intro z3_17 j0_17 j1_17
          omega
        | succ n ih4 =>
          intro z3_17 j0_17 j1_17
          refine hC.1 3 17 _ _ rfl _ _ _ _ _ ?_
          refine Exists.intro _ (And.intro md_o ?_)
          refine And.intro (fun c5 => ?_) (fun c5 => ?_)
          · skip
            refine hC.1 5 47 _ _ rfl _ _ _ _ _ ?_
            have km1 : (-1 : Int32).toInt = -1 := rfl
            exact ⟨rfl, fun e9 => absurd e9 (by decide), rfl, (-1 : Int32), rfl, rfl, by first | trivial | omega | (dsimp only; omega)⟩
          · skip
            refine And.intro (Exists.intro _ md_o) (Exists.intro _ (Exists.intro _ (Exists.intro _ (Exists.intro _ (And.intro (c_X11_setOf D v f hv hf x1 z3_17 (by omega) (by omega)) (And.intro rfl (fun r9 A9 h9 => ?_)))))))
            obtain ⟨y6, rfl, rfl, by6⟩ := h9
            refine And.intro (Exists.intro _ md_o) (Exists.intro _ (Exists.intro _ (Exists.intro _ (Exists.intro _ (And.intro (c_X11_weightOf D v f hv hf y6 ) (And.intro rfl (fun r9 A9 h9 => ?_)))))))
            obtain ⟨y7, rfl, rfl, by7⟩ := h9
            refine And.intro (fun c8 => ?_) (fun c8 => ?_)
            · skip
              refine hC.1 4 41 _ _ rfl _ _ _ _ _ ?_
              intro m9 em_41
              try have e9 : m9.toInt = (z3_17).toInt + (1) := by rw [em_41]; exact pm_addc _ _ (1) rfl (by omega) (by omega)
              exact ih4 m9 (by omega) (by omega)
            · skip
              exact ⟨rfl, fun e9 => absurd e9 (by decide), rfl, z3_17, rfl, rfl, by first | trivial | omega | (dsimp only; omega)⟩
      exact lp3 (200 - x1.toInt).toNat.succ x1 (by omega) (by omega)
    · skip
      refine hC.1 1 13 _ _ rfl _ _ _ _ _ ?_
      have km1 : (-1 : Int32).toInt = -1 := rfl
      exact ⟨rfl, fun e9 => absurd e9 (by decide), rfl, (-1 : Int32), rfl, rfl, by first | trivial | omega | (dsimp only; omega)⟩
  · skip
    have k0 : (0 : Int32).toInt = 0 := rfl
    refine And.intro (fun _ => ?_) (fun c9 => absurd c9 (by decide))
    refine hC.1 1 13 _ _ rfl _ _ _ _ _ ?_
    have km1 : (-1 : Int32).toInt = -1 := rfl
    exact ⟨rfl, fun e9 => absurd e9 (by decide), rfl, (-1 : Int32), rfl, rfl, by first | trivial | omega | (dsimp only; omega)⟩

set_option maxRecDepth 100000 in
set_option maxHeartbeats 2000000 in
theorem c_X11_window (D : md_D h q) (v : Nat → Int32) (f : Nat → Nat → Int32) (hv : md_V v) (hf : md_F f) (x1 : Int32) (x2 : Int32)  : pm_Mt l g 251 1 0 0 [.ref h, .int x1, .int x2] (md A0 g h q v f) (md_Qp (md A0 g h q v f) (fun r => True)) := by
  refine mt_X11_window rfl (fun J hC => ?_)
  have hv9 := hv
  unfold md_V at hv9
  have rg_x1 := pm_rng x1
  have rg_x2 := pm_rng x2
  refine hC.1 0 0 _ _ rfl _ _ _ _ _ ?_
  have k1 : (1 : Int32).toInt = 1 := rfl
  have k16777215 : (16777215 : Int32).toInt = 16777215 := rfl
  refine Exists.intro _ (Exists.intro _ (Exists.intro _ (Exists.intro _ (And.intro (c_X11_isIn (md A0 g h q v f) x1 (1 : Int32) (16777215 : Int32) ) (And.intro rfl (fun r9 A9 h9 => ?_))))))
  rcases h9 with ⟨y1, rfl, rfl, ⟨rfl, by1⟩ | ⟨rfl, by1⟩⟩
  · skip
    refine And.intro (fun c9 => absurd c9 (by decide)) (fun _ => ?_)
    have k0 : (0 : Int32).toInt = 0 := rfl
    have k2 : (2 : Int32).toInt = 2 := rfl
    refine Exists.intro _ (Exists.intro _ (Exists.intro _ (Exists.intro _ (And.intro (c_X11_isIn (md A0 g h q v f) x2 (0 : Int32) (2 : Int32) ) (And.intro rfl (fun r9 A9 h9 => ?_))))))
    rcases h9 with ⟨y2, rfl, rfl, ⟨rfl, by2⟩ | ⟨rfl, by2⟩⟩
    · skip
      refine And.intro (fun _ => ?_) (fun c9 => absurd c9 (by decide))
      refine hC.1 2 21 _ _ rfl _ _ _ _ _ ?_
      have km1 : (-1 : Int32).toInt = -1 := rfl
      have lp3 : ∀ (n : Nat) (z3_32 : Int32) (z4_32 : Int32) (z5_32 : Int32) (z6_32 : Int32), (0 ≤ z6_32.toInt ∧ z6_32.toInt ≤ (v 0).toInt) → 200 - z6_32.toInt < (n : Int) → J 32 [some (.ref h), some (.int x1), some (.int x2), some (.int z3_32), some (.int z4_32), some (.int z5_32), some (.int z6_32), none, none] [] (md A0 g h q v f) 0 0 := by
        intro n
        induction n with
        | zero =>
          intro z3_32 z4_32 z5_32 z6_32 j0_32 j1_32
          omega
        | succ n ih4 =>
          intro z3_32 z4_32 z5_32 z6_32 j0_32 j1_32
          refine hC.1 3 32 _ _ rfl _ _ _ _ _ ?_
          refine Exists.intro _ (And.intro md_o ?_)
          refine And.intro (fun c5 => ?_) (fun c5 => ?_)
          · skip
            refine hC.1 9 152 _ _ rfl _ _ _ _ _ ?_
            refine And.intro (fun c6 => ?_) (fun c6 => ?_)
            · skip
              have dc6 := pm_neI c6
              refine hC.1 10 161 _ _ rfl _ _ _ _ _ ?_
              refine And.intro (fun c7 => ?_) (fun c7 => ?_)
              · skip
                refine hC.1 11 170 _ _ rfl _ _ _ _ _ ?_
                refine And.intro (fun c8 => ?_) (fun c8 => ?_)
                · skip
                  have dc8 := pm_neI c8
                  refine hC.1 12 179 _ _ rfl _ _ _ _ _ ?_
                  refine hC.1 13 181 _ _ rfl _ _ _ _ _ ?_
                  exact ⟨rfl, fun e9 => absurd e9 (by decide), rfl, z5_32, rfl, rfl, by first | trivial | omega | (dsimp only; omega)⟩
                · skip
                  have dc8 : (x2).toInt = (0 : Int32).toInt := congrArg Int32.toInt c8
                  refine hC.1 13 181 _ _ rfl _ _ _ _ _ ?_
                  exact ⟨rfl, fun e9 => absurd e9 (by decide), rfl, z4_32, rfl, rfl, by first | trivial | omega | (dsimp only; omega)⟩
              · skip
                refine hC.1 13 181 _ _ rfl _ _ _ _ _ ?_
                exact ⟨rfl, fun e9 => absurd e9 (by decide), rfl, (-1 : Int32), rfl, rfl, by first | trivial | omega | (dsimp only; omega)⟩
            · skip
              have dc6 : (x2).toInt = ((2 : Int32) : Int32).toInt := congrArg Int32.toInt c6
              refine hC.1 13 181 _ _ rfl _ _ _ _ _ ?_
              exact ⟨rfl, fun e9 => absurd e9 (by decide), rfl, z3_32, rfl, rfl, by first | trivial | omega | (dsimp only; omega)⟩
          · skip
            have lp9 : ∀ (n : Nat) (z7_48 : Int32) (z8_48 : Int32), (0 ≤ z8_48.toInt ∧ z8_48.toInt ≤ (v 0).toInt) → 200 - z8_48.toInt < (n : Int) → J 48 [some (.ref h), some (.int x1), some (.int x2), some (.int z3_32), some (.int z4_32), some (.int z5_32), some (.int z6_32), some (.int z7_48), some (.int z8_48)] [] (md A0 g h q v f) 0 0 := by
              intro n
              induction n with
              | zero =>
                intro z7_48 z8_48 j0_48 j1_48
                omega
              | succ n ih10 =>
                intro z7_48 z8_48 j0_48 j1_48
                refine hC.1 4 48 _ _ rfl _ _ _ _ _ ?_
                refine Exists.intro _ (And.intro md_o ?_)
                refine And.intro (fun c11 => ?_) (fun c11 => ?_)
                · skip
                  refine hC.1 5 95 _ _ rfl _ _ _ _ _ ?_
                  refine Exists.intro _ (And.intro md_o ?_)
                  refine And.intro (fun c12 => ?_) (fun c12 => ?_)
                  · skip
                    have dc12 := pm_neI c12
                    refine hC.1 6 107 _ _ rfl _ _ _ _ _ ?_
                    refine Exists.intro _ (And.intro md_o ?_)
                    intro m13 em_114
                    try have e13 : m13.toInt = ((v 0)).toInt - (z8_48).toInt := by rw [em_114]; exact pm_sub _ _ (by omega) (by omega)
                    intro m14 em_115
                    try have e14 : m14.toInt = (z3_32).toInt + (m13).toInt := by rw [em_115]; exact pm_add _ _ (by omega) (by omega)
                    refine And.intro (fun c15 => ?_) (fun c15 => ?_)
                    · skip
                      refine hC.1 7 138 _ _ rfl _ _ _ _ _ ?_
                      refine hC.1 8 146 _ _ rfl _ _ _ _ _ ?_
                      intro m16 em_146
                      try have e16 : m16.toInt = (z6_32).toInt + (1) := by rw [em_146]; exact pm_addc _ _ (1) rfl (by omega) (by omega)
                      exact hC.2 [false, false, false, false, false, false, false, true, true] _ _ _ _ _ _ (ih4 m14 z6_32 z8_48 m16 (by omega) (by omega))
                    · skip
                      intro m17 em_126
                      try have e17 : m17.toInt = (z8_48).toInt - (z6_32).toInt := by rw [em_126]; exact pm_sub _ _ (by omega) (by omega)
                      intro m18 em_131
                      try have e18 : m18.toInt = (z5_32).toInt - (z4_32).toInt := by rw [em_131]; exact pm_sub _ _ (by omega) (by omega)
                      refine And.intro (fun c19 => ?_) (fun c19 => ?_)
                      · skip
                        refine hC.1 7 138 _ _ rfl _ _ _ _ _ ?_
                        refine hC.1 8 146 _ _ rfl _ _ _ _ _ ?_
                        intro m20 em_146
                        try have e20 : m20.toInt = (z6_32).toInt + (1) := by rw [em_146]; exact pm_addc _ _ (1) rfl (by omega) (by omega)
                        exact hC.2 [false, false, false, false, false, false, false, true, true] _ _ _ _ _ _ (ih4 m14 z6_32 z8_48 m20 (by omega) (by omega))
                      · skip
                        refine hC.1 8 146 _ _ rfl _ _ _ _ _ ?_
                        intro m21 em_146
                        try have e21 : m21.toInt = (z6_32).toInt + (1) := by rw [em_146]; exact pm_addc _ _ (1) rfl (by omega) (by omega)
                        exact hC.2 [false, false, false, false, false, false, false, true, true] _ _ _ _ _ _ (ih4 m14 z4_32 z5_32 m21 (by omega) (by omega))
                  · skip
                    have dc12 : (z8_48).toInt = ((v 0) : Int32).toInt := congrArg Int32.toInt c12
                    refine hC.1 8 146 _ _ rfl _ _ _ _ _ ?_
                    intro m22 em_146
                    try have e22 : m22.toInt = (z6_32).toInt + (1) := by rw [em_146]; exact pm_addc _ _ (1) rfl (by omega) (by omega)
                    exact hC.2 [false, false, false, false, false, false, false, true, true] _ _ _ _ _ _ (ih4 z3_32 z4_32 z5_32 m22 (by omega) (by omega))
                · skip
                  refine Exists.intro _ (And.intro md_o ?_)
                  refine Exists.intro _ (Exists.intro _ (And.intro (Or.inl (md_a_colours D)) (And.intro (by omega) ?_)))
                  have w23 : (0 : Int) ≤ (f 0 (z8_48).toInt.toNat).toInt ∧ (f 0 (z8_48).toInt.toNat).toInt ≤ (23 : Int) := hf 0 _
                  refine And.intro (fun c24 => ?_) (fun c24 => ?_)
                  · skip
                    have dc24 : (((z7_48 ||| ((1 : Int32) <<< ((f 0 (z8_48).toInt.toNat) &&& 31))) &&& x1)).toInt = (x1 : Int32).toInt := congrArg Int32.toInt c24
                    refine hC.1 5 95 _ _ rfl _ _ _ _ _ ?_
                    refine Exists.intro _ (And.intro md_o ?_)
                    refine And.intro (fun c25 => ?_) (fun c25 => ?_)
                    · skip
                      have dc25 := pm_neI c25
                      refine hC.1 6 107 _ _ rfl _ _ _ _ _ ?_
                      refine Exists.intro _ (And.intro md_o ?_)
                      intro m26 em_114
                      try have e26 : m26.toInt = ((v 0)).toInt - (z8_48).toInt := by rw [em_114]; exact pm_sub _ _ (by omega) (by omega)
                      intro m27 em_115
                      try have e27 : m27.toInt = (z3_32).toInt + (m26).toInt := by rw [em_115]; exact pm_add _ _ (by omega) (by omega)
                      refine And.intro (fun c28 => ?_) (fun c28 => ?_)
                      · skip
                        refine hC.1 7 138 _ _ rfl _ _ _ _ _ ?_
                        refine hC.1 8 146 _ _ rfl _ _ _ _ _ ?_
                        intro m29 em_146
                        try have e29 : m29.toInt = (z6_32).toInt + (1) := by rw [em_146]; exact pm_addc _ _ (1) rfl (by omega) (by omega)
                        exact hC.2 [false, false, false, false, false, false, false, true, true] _ _ _ _ _ _ (ih4 m27 z6_32 z8_48 m29 (by omega) (by omega))
                      · skip
                        intro m30 em_126
                        try have e30 : m30.toInt = (z8_48).toInt - (z6_32).toInt := by rw [em_126]; exact pm_sub _ _ (by omega) (by omega)
                        intro m31 em_131
                        try have e31 : m31.toInt = (z5_32).toInt - (z4_32).toInt := by rw [em_131]; exact pm_sub _ _ (by omega) (by omega)
                        refine And.intro (fun c32 => ?_) (fun c32 => ?_)
                        · skip
                          refine hC.1 7 138 _ _ rfl _ _ _ _ _ ?_
                          refine hC.1 8 146 _ _ rfl _ _ _ _ _ ?_
                          intro m33 em_146
                          try have e33 : m33.toInt = (z6_32).toInt + (1) := by rw [em_146]; exact pm_addc _ _ (1) rfl (by omega) (by omega)
                          exact hC.2 [false, false, false, false, false, false, false, true, true] _ _ _ _ _ _ (ih4 m27 z6_32 z8_48 m33 (by omega) (by omega))
                        · skip
                          refine hC.1 8 146 _ _ rfl _ _ _ _ _ ?_
                          intro m34 em_146
                          try have e34 : m34.toInt = (z6_32).toInt + (1) := by rw [em_146]; exact pm_addc _ _ (1) rfl (by omega) (by omega)
                          exact hC.2 [false, false, false, false, false, false, false, true, true] _ _ _ _ _ _ (ih4 m27 z4_32 z5_32 m34 (by omega) (by omega))
                    · skip
                      have dc25 : (z8_48).toInt = ((v 0) : Int32).toInt := congrArg Int32.toInt c25
                      refine hC.1 8 146 _ _ rfl _ _ _ _ _ ?_
                      intro m35 em_146
                      try have e35 : m35.toInt = (z6_32).toInt + (1) := by rw [em_146]; exact pm_addc _ _ (1) rfl (by omega) (by omega)
                      exact hC.2 [false, false, false, false, false, false, false, true, true] _ _ _ _ _ _ (ih4 z3_32 z4_32 z5_32 m35 (by omega) (by omega))
                  · skip
                    have dc24 := pm_neI c24
                    refine Exists.intro _ (And.intro md_o ?_)
                    refine Exists.intro _ (Exists.intro _ (And.intro (Or.inl (md_a_colours D)) (And.intro (by omega) ?_)))
                    have w36 : (0 : Int) ≤ (f 0 (z8_48).toInt.toNat).toInt ∧ (f 0 (z8_48).toInt.toNat).toInt ≤ (23 : Int) := hf 0 _
                    intro m37 em_89
                    try have e37 : m37.toInt = (z8_48).toInt + (1) := by rw [em_89]; exact pm_addc _ _ (1) rfl (by omega) (by omega)
                    exact ih10 (z7_48 ||| ((1 : Int32) <<< ((f 0 (z8_48).toInt.toNat) &&& 31))) m37 (by omega) (by omega)
            exact lp9 (200 - z6_32.toInt).toNat.succ (0 : Int32) z6_32 (by omega) (by omega)
      exact lp3 (200 - (0 : Int32).toInt).toNat.succ (0 : Int32) (-1 : Int32) (0 : Int32) (0 : Int32) (by omega) (by omega)
    · skip
      refine And.intro (fun c9 => absurd c9 (by decide)) (fun _ => ?_)
      refine hC.1 1 19 _ _ rfl _ _ _ _ _ ?_
      have km1 : (-1 : Int32).toInt = -1 := rfl
      exact ⟨rfl, fun e9 => absurd e9 (by decide), rfl, (-1 : Int32), rfl, rfl, by first | trivial | omega | (dsimp only; omega)⟩
  · skip
    have k0 : (0 : Int32).toInt = 0 := rfl
    refine And.intro (fun _ => ?_) (fun c9 => absurd c9 (by decide))
    refine hC.1 1 19 _ _ rfl _ _ _ _ _ ?_
    have km1 : (-1 : Int32).toInt = -1 := rfl
    exact ⟨rfl, fun e9 => absurd e9 (by decide), rfl, (-1 : Int32), rfl, rfl, by first | trivial | omega | (dsimp only; omega)⟩

set_option maxRecDepth 100000 in
set_option maxHeartbeats 2000000 in
theorem c_X11_farthest (D : md_D h q) (v : Nat → Int32) (f : Nat → Nat → Int32) (hv : md_V v) (hf : md_F f) (x1 : Int32) (x2 : Int32) (p0 : 0 ≤ x1.toInt ∧ x1.toInt ≤ (v 0).toInt) : pm_Mt l g 253 1 0 0 [.ref h, .int x1, .int x2] (md A0 g h q v f) (md_Qp (md A0 g h q v f) (fun r => x1.toInt - 1 ≤ r.toInt ∧ r.toInt < (v 0).toInt ∧ (x1.toInt < (v 0).toInt → 1 ≤ x2.toInt → x1.toInt ≤ r.toInt))) := by
  refine mt_X11_farthest rfl (fun J hC => ?_)
  have hv9 := hv
  unfold md_V at hv9
  have rg_x1 := pm_rng x1
  have rg_x2 := pm_rng x2
  refine hC.1 0 0 _ _ rfl _ _ _ _ _ ?_
  have k0 : (0 : Int32).toInt = 0 := rfl
  have lp1 : ∀ (n : Nat) (z3_5 : Int32) (z4_5 : Int32), (x1.toInt ≤ z4_5.toInt ∧ z4_5.toInt ≤ (v 0).toInt) → (z4_5.toInt = x1.toInt → z3_5 = 0) → 200 - z4_5.toInt < (n : Int) → J 5 [some (.ref h), some (.int x1), some (.int x2), some (.int z3_5), some (.int z4_5)] [] (md A0 g h q v f) 0 0 := by
    intro n
    induction n with
    | zero =>
      intro z3_5 z4_5 j0_5 j1_5 j2_5
      omega
    | succ n ih2 =>
      intro z3_5 z4_5 j0_5 j1_5 j2_5
      refine hC.1 1 5 _ _ rfl _ _ _ _ _ ?_
      refine Exists.intro _ (And.intro md_o ?_)
      refine And.intro (fun c3 => ?_) (fun c3 => ?_)
      · skip
        refine hC.1 2 50 _ _ rfl _ _ _ _ _ ?_
        have k1 : (1 : Int32).toInt = 1 := rfl
        intro m4 em_53
        try have e4 : m4.toInt = (z4_5).toInt - (1) := by rw [em_53]; exact pm_subc _ _ (1) rfl (by omega) (by omega)
        exact ⟨rfl, fun e9 => absurd e9 (by decide), rfl, m4, rfl, rfl, by first | trivial | omega | (dsimp only; omega)⟩
      · skip
        have k1 : (1 : Int32).toInt = 1 := rfl
        refine Exists.intro _ (And.intro md_o ?_)
        refine Exists.intro _ (Exists.intro _ (And.intro (Or.inl (md_a_colours D)) (And.intro (by omega) ?_)))
        have w5 : (0 : Int) ≤ (f 0 (z4_5).toInt.toNat).toInt ∧ (f 0 (z4_5).toInt.toNat).toInt ≤ (23 : Int) := hf 0 _
        refine Exists.intro _ (Exists.intro _ (Exists.intro _ (Exists.intro _ (And.intro (c_X11_bits (md A0 g h q v f) (z3_5 ||| ((1 : Int32) <<< ((f 0 (z4_5).toInt.toNat) &&& 31))) ) (And.intro rfl (fun r9 A9 h9 => ?_))))))
        obtain ⟨y6, rfl, rfl, by6⟩ := h9
        have hb9 : z4_5.toInt = x1.toInt → y6.toInt = 1 := fun e9 => by rw [by6 (by rw [j1_5 e9]; exact p2_one (by omega))]; rfl
        refine And.intro (fun c7 => ?_) (fun c7 => ?_)
        · skip
          refine hC.1 2 50 _ _ rfl _ _ _ _ _ ?_
          intro m8 em_53
          try have e8 : m8.toInt = (z4_5).toInt - (1) := by rw [em_53]; exact pm_subc _ _ (1) rfl (by omega) (by omega)
          exact ⟨rfl, fun e9 => absurd e9 (by decide), rfl, m8, rfl, rfl, by first | trivial | omega | (dsimp only; omega)⟩
        · skip
          refine Exists.intro _ (And.intro md_o ?_)
          refine Exists.intro _ (Exists.intro _ (And.intro (Or.inl (md_a_colours D)) (And.intro (by omega) ?_)))
          have w9 : (0 : Int) ≤ (f 0 (z4_5).toInt.toNat).toInt ∧ (f 0 (z4_5).toInt.toNat).toInt ≤ (23 : Int) := hf 0 _
          intro m10 em_44
          try have e10 : m10.toInt = (z4_5).toInt + (1) := by rw [em_44]; exact pm_addc _ _ (1) rfl (by omega) (by omega)
          exact ih2 (z3_5 ||| ((1 : Int32) <<< ((f 0 (z4_5).toInt.toNat) &&& 31))) m10 (by omega) (by intro e9; omega) (by omega)
  exact lp1 (200 - x1.toInt).toNat.succ (0 : Int32) x1 (by omega) (by exact fun _ => rfl) (by omega)

set_option maxRecDepth 100000 in
set_option maxHeartbeats 2000000 in
theorem c_X11_longest (D : md_D h q) (v : Nat → Int32) (f : Nat → Nat → Int32) (hv : md_V v) (hf : md_F f) (x1 : Int32) (x2 : Int32)  : pm_Mt l g 252 2 0 0 [.ref h, .int x1, .int x2] (md A0 g h q v f) (md_Qp (md A0 g h q v f) (fun r => True)) := by
  refine mt_X11_longest rfl (fun J hC => ?_)
  have hv9 := hv
  unfold md_V at hv9
  have rg_x1 := pm_rng x1
  have rg_x2 := pm_rng x2
  refine hC.1 0 0 _ _ rfl _ _ _ _ _ ?_
  have k1 : (1 : Int32).toInt = 1 := rfl
  refine And.intro (fun c1 => ?_) (fun c1 => ?_)
  · skip
    refine hC.1 1 21 _ _ rfl _ _ _ _ _ ?_
    have km1 : (-1 : Int32).toInt = -1 := rfl
    exact ⟨rfl, fun e9 => absurd e9 (by decide), rfl, (-1 : Int32), rfl, rfl, by first | trivial | omega | (dsimp only; omega)⟩
  · skip
    refine Exists.intro _ (And.intro md_o ?_)
    refine And.intro (fun c2 => ?_) (fun c2 => ?_)
    · skip
      have dc2 : ((v 0)).toInt = (0 : Int32).toInt := congrArg Int32.toInt c2
      have k0 : (0 : Int32).toInt = 0 := rfl
      refine hC.1 1 21 _ _ rfl _ _ _ _ _ ?_
      have km1 : (-1 : Int32).toInt = -1 := rfl
      exact ⟨rfl, fun e9 => absurd e9 (by decide), rfl, (-1 : Int32), rfl, rfl, by first | trivial | omega | (dsimp only; omega)⟩
    · skip
      have dc2 := pm_neI c2
      have k0 : (0 : Int32).toInt = 0 := rfl
      refine Exists.intro _ (Exists.intro _ (Exists.intro _ (Exists.intro _ (And.intro (c_X11_isIn (md A0 g h q v f) x2 (0 : Int32) (1 : Int32) ) (And.intro rfl (fun r9 A9 h9 => ?_))))))
      rcases h9 with ⟨y3, rfl, rfl, ⟨rfl, by3⟩ | ⟨rfl, by3⟩⟩
      · skip
        refine And.intro (fun _ => ?_) (fun c9 => absurd c9 (by decide))
        refine hC.1 2 23 _ _ rfl _ _ _ _ _ ?_
        have km1 : (-1 : Int32).toInt = -1 := rfl
        have lp4 : ∀ (n : Nat) (z3_31 : Int32) (z4_31 : Int32) (z5_31 : Int32), (0 ≤ z5_31.toInt ∧ z5_31.toInt ≤ (v 0).toInt) → 200 - z5_31.toInt < (n : Int) → J 31 [some (.ref h), some (.int x1), some (.int x2), some (.int z3_31), some (.int z4_31), some (.int z5_31), none] [] (md A0 g h q v f) 0 0 := by
          intro n
          induction n with
          | zero =>
            intro z3_31 z4_31 z5_31 j0_31 j1_31
            omega
          | succ n ih5 =>
            intro z3_31 z4_31 z5_31 j0_31 j1_31
            refine hC.1 3 31 _ _ rfl _ _ _ _ _ ?_
            refine Exists.intro _ (And.intro md_o ?_)
            refine And.intro (fun c6 => ?_) (fun c6 => ?_)
            · skip
              refine hC.1 6 77 _ _ rfl _ _ _ _ _ ?_
              refine And.intro (fun c7 => ?_) (fun c7 => ?_)
              · skip
                have dc7 := pm_neI c7
                refine hC.1 7 85 _ _ rfl _ _ _ _ _ ?_
                refine hC.1 8 87 _ _ rfl _ _ _ _ _ ?_
                exact ⟨rfl, fun e9 => absurd e9 (by decide), rfl, z4_31, rfl, rfl, by first | trivial | omega | (dsimp only; omega)⟩
              · skip
                have dc7 : (x2).toInt = (0 : Int32).toInt := congrArg Int32.toInt c7
                refine hC.1 8 87 _ _ rfl _ _ _ _ _ ?_
                exact ⟨rfl, fun e9 => absurd e9 (by decide), rfl, z3_31, rfl, rfl, by first | trivial | omega | (dsimp only; omega)⟩
            · skip
              refine And.intro (Exists.intro _ md_o) (Exists.intro _ (Exists.intro _ (Exists.intro _ (Exists.intro _ (And.intro (c_X11_farthest D v f hv hf z5_31 x1 (by omega)) (And.intro rfl (fun r9 A9 h9 => ?_)))))))
              obtain ⟨y8, rfl, rfl, by8⟩ := h9
              intro m9 em_53
              try have e9 : m9.toInt = (y8).toInt - (z5_31).toInt := by rw [em_53]; exact pm_sub _ _ (by omega) (by omega)
              intro m10 em_57
              try have e10 : m10.toInt = (z4_31).toInt - (z3_31).toInt := by rw [em_57]; exact pm_sub _ _ (by omega) (by omega)
              refine And.intro (fun c11 => ?_) (fun c11 => ?_)
              · skip
                refine hC.1 4 64 _ _ rfl _ _ _ _ _ ?_
                refine hC.1 5 71 _ _ rfl _ _ _ _ _ ?_
                intro m12 em_71
                try have e12 : m12.toInt = (z5_31).toInt + (1) := by rw [em_71]; exact pm_addc _ _ (1) rfl (by omega) (by omega)
                exact hC.2 [false, false, false, false, false, false, true] _ _ _ _ _ _ (ih5 z5_31 y8 m12 (by omega) (by omega))
              · skip
                refine hC.1 5 71 _ _ rfl _ _ _ _ _ ?_
                intro m13 em_71
                try have e13 : m13.toInt = (z5_31).toInt + (1) := by rw [em_71]; exact pm_addc _ _ (1) rfl (by omega) (by omega)
                exact hC.2 [false, false, false, false, false, false, true] _ _ _ _ _ _ (ih5 z3_31 z4_31 m13 (by omega) (by omega))
        exact lp4 (200 - (0 : Int32).toInt).toNat.succ (0 : Int32) (-1 : Int32) (0 : Int32) (by omega) (by omega)
      · skip
        refine And.intro (fun c9 => absurd c9 (by decide)) (fun _ => ?_)
        refine hC.1 1 21 _ _ rfl _ _ _ _ _ ?_
        have km1 : (-1 : Int32).toInt = -1 := rfl
        exact ⟨rfl, fun e9 => absurd e9 (by decide), rfl, (-1 : Int32), rfl, rfl, by first | trivial | omega | (dsimp only; omega)⟩

set_option maxRecDepth 100000 in
set_option maxHeartbeats 2000000 in
theorem c_X11_unlike (D : md_D h q) (v : Nat → Int32) (f : Nat → Nat → Int32) (hv : md_V v) (hf : md_F f) (x1 : Int32)  : pm_Mt l g 254 1 0 0 [.ref h, .int x1] (md A0 g h q v f) (md_Qp (md A0 g h q v f) (fun r => True)) := by
  refine mt_X11_unlike rfl (fun J hC => ?_)
  have hv9 := hv
  unfold md_V at hv9
  have rg_x1 := pm_rng x1
  refine hC.1 0 0 _ _ rfl _ _ _ _ _ ?_
  refine Exists.intro _ (And.intro md_o ?_)
  refine And.intro (fun c1 => ?_) (fun c1 => ?_)
  · skip
    have dc1 : ((v 0)).toInt = (0 : Int32).toInt := congrArg Int32.toInt c1
    have k0 : (0 : Int32).toInt = 0 := rfl
    refine hC.1 1 16 _ _ rfl _ _ _ _ _ ?_
    have km1 : (-1 : Int32).toInt = -1 := rfl
    exact ⟨rfl, fun e9 => absurd e9 (by decide), rfl, (-1 : Int32), rfl, rfl, by first | trivial | omega | (dsimp only; omega)⟩
  · skip
    have dc1 := pm_neI c1
    have k0 : (0 : Int32).toInt = 0 := rfl
    have k1 : (1 : Int32).toInt = 1 := rfl
    refine Exists.intro _ (Exists.intro _ (Exists.intro _ (Exists.intro _ (And.intro (c_X11_isIn (md A0 g h q v f) x1 (0 : Int32) (1 : Int32) ) (And.intro rfl (fun r9 A9 h9 => ?_))))))
    rcases h9 with ⟨y2, rfl, rfl, ⟨rfl, by2⟩ | ⟨rfl, by2⟩⟩
    · skip
      refine And.intro (fun _ => ?_) (fun c9 => absurd c9 (by decide))
      refine hC.1 2 18 _ _ rfl _ _ _ _ _ ?_
      have km1 : (-1 : Int32).toInt = -1 := rfl
      have lp3 : ∀ (n : Nat) (z2_25 : Int32) (z3_25 : Int32) (z4_25 : Int32), (0 ≤ z4_25.toInt ∧ z4_25.toInt ≤ (v 0).toInt) → 200 - z4_25.toInt < (n : Int) → J 25 [some (.ref h), some (.int x1), some (.int z2_25), some (.int z3_25), some (.int z4_25), none] [] (md A0 g h q v f) 0 0 := by
        intro n
        induction n with
        | zero =>
          intro z2_25 z3_25 z4_25 j0_25 j1_25
          omega
        | succ n ih4 =>
          intro z2_25 z3_25 z4_25 j0_25 j1_25
          refine hC.1 3 25 _ _ rfl _ _ _ _ _ ?_
          refine Exists.intro _ (And.intro md_o ?_)
          refine And.intro (fun c5 => ?_) (fun c5 => ?_)
          · skip
            refine hC.1 8 94 _ _ rfl _ _ _ _ _ ?_
            refine And.intro (fun c6 => ?_) (fun c6 => ?_)
            · skip
              have dc6 := pm_neI c6
              refine hC.1 9 102 _ _ rfl _ _ _ _ _ ?_
              refine hC.1 10 103 _ _ rfl _ _ _ _ _ ?_
              exact ⟨rfl, fun e9 => absurd e9 (by decide), rfl, z3_25, rfl, rfl, by first | trivial | omega | (dsimp only; omega)⟩
            · skip
              have dc6 : (x1).toInt = (0 : Int32).toInt := congrArg Int32.toInt c6
              refine hC.1 10 103 _ _ rfl _ _ _ _ _ ?_
              exact ⟨rfl, fun e9 => absurd e9 (by decide), rfl, z2_25, rfl, rfl, by first | trivial | omega | (dsimp only; omega)⟩
          · skip
            have lp7 : ∀ (n : Nat) (z5_38 : Int32), (z4_25.toInt ≤ z5_38.toInt ∧ z5_38.toInt < (v 0).toInt) → 200 - z5_38.toInt < (n : Int) → J 38 [some (.ref h), some (.int x1), some (.int z2_25), some (.int z3_25), some (.int z4_25), some (.int z5_38)] [] (md A0 g h q v f) 0 0 := by
              intro n
              induction n with
              | zero =>
                intro z5_38 j0_38 j1_38
                omega
              | succ n ih8 =>
                intro z5_38 j0_38 j1_38
                refine hC.1 4 38 _ _ rfl _ _ _ _ _ ?_
                intro m9 em_41
                try have e9 : m9.toInt = (z5_38).toInt + (1) := by rw [em_41]; exact pm_addc _ _ (1) rfl (by omega) (by omega)
                refine Exists.intro _ (And.intro md_o ?_)
                refine And.intro (fun c10 => ?_) (fun c10 => ?_)
                · skip
                  refine hC.1 5 68 _ _ rfl _ _ _ _ _ ?_
                  intro m11 em_72
                  try have e11 : m11.toInt = (z5_38).toInt - (z4_25).toInt := by rw [em_72]; exact pm_sub _ _ (by omega) (by omega)
                  intro m12 em_75
                  try have e12 : m12.toInt = (z3_25).toInt - (z2_25).toInt := by rw [em_75]; exact pm_sub _ _ (by omega) (by omega)
                  refine And.intro (fun c13 => ?_) (fun c13 => ?_)
                  · skip
                    refine hC.1 6 82 _ _ rfl _ _ _ _ _ ?_
                    refine hC.1 7 88 _ _ rfl _ _ _ _ _ ?_
                    intro m14 em_88
                    try have e14 : m14.toInt = (z4_25).toInt + (1) := by rw [em_88]; exact pm_addc _ _ (1) rfl (by omega) (by omega)
                    exact hC.2 [false, false, false, false, false, true] _ _ _ _ _ _ (ih4 z4_25 z5_38 m14 (by omega) (by omega))
                  · skip
                    refine hC.1 7 88 _ _ rfl _ _ _ _ _ ?_
                    intro m15 em_88
                    try have e15 : m15.toInt = (z4_25).toInt + (1) := by rw [em_88]; exact pm_addc _ _ (1) rfl (by omega) (by omega)
                    exact hC.2 [false, false, false, false, false, true] _ _ _ _ _ _ (ih4 z2_25 z3_25 m15 (by omega) (by omega))
                · skip
                  intro m16 em_53
                  try have e16 : m16.toInt = (z5_38).toInt + (1) := by rw [em_53]; exact pm_addc _ _ (1) rfl (by omega) (by omega)
                  refine And.intro (Exists.intro _ md_o) (Exists.intro _ (Exists.intro _ (Exists.intro _ (Exists.intro _ (And.intro (c_X11_ahead D v f hv hf m16 (by omega)) (And.intro rfl (fun r9 A9 h9 => ?_)))))))
                  obtain ⟨y17, rfl, rfl, by17⟩ := h9
                  refine And.intro (fun c18 => ?_) (fun c18 => ?_)
                  · skip
                    refine hC.1 5 68 _ _ rfl _ _ _ _ _ ?_
                    intro m19 em_72
                    try have e19 : m19.toInt = (z5_38).toInt - (z4_25).toInt := by rw [em_72]; exact pm_sub _ _ (by omega) (by omega)
                    intro m20 em_75
                    try have e20 : m20.toInt = (z3_25).toInt - (z2_25).toInt := by rw [em_75]; exact pm_sub _ _ (by omega) (by omega)
                    refine And.intro (fun c21 => ?_) (fun c21 => ?_)
                    · skip
                      refine hC.1 6 82 _ _ rfl _ _ _ _ _ ?_
                      refine hC.1 7 88 _ _ rfl _ _ _ _ _ ?_
                      intro m22 em_88
                      try have e22 : m22.toInt = (z4_25).toInt + (1) := by rw [em_88]; exact pm_addc _ _ (1) rfl (by omega) (by omega)
                      exact hC.2 [false, false, false, false, false, true] _ _ _ _ _ _ (ih4 z4_25 z5_38 m22 (by omega) (by omega))
                    · skip
                      refine hC.1 7 88 _ _ rfl _ _ _ _ _ ?_
                      intro m23 em_88
                      try have e23 : m23.toInt = (z4_25).toInt + (1) := by rw [em_88]; exact pm_addc _ _ (1) rfl (by omega) (by omega)
                      exact hC.2 [false, false, false, false, false, true] _ _ _ _ _ _ (ih4 z2_25 z3_25 m23 (by omega) (by omega))
                  · skip
                    intro m24 em_62
                    try have e24 : m24.toInt = (z5_38).toInt + (1) := by rw [em_62]; exact pm_addc _ _ (1) rfl (by omega) (by omega)
                    exact ih8 m24 (by omega) (by omega)
            exact lp7 (200 - z4_25.toInt).toNat.succ z4_25 (by omega) (by omega)
      exact lp3 (200 - (0 : Int32).toInt).toNat.succ (0 : Int32) (-1 : Int32) (0 : Int32) (by omega) (by omega)
    · skip
      refine And.intro (fun c9 => absurd c9 (by decide)) (fun _ => ?_)
      refine hC.1 1 16 _ _ rfl _ _ _ _ _ ?_
      have km1 : (-1 : Int32).toInt = -1 := rfl
      exact ⟨rfl, fun e9 => absurd e9 (by decide), rfl, (-1 : Int32), rfl, rfl, by first | trivial | omega | (dsimp only; omega)⟩

set_option maxRecDepth 100000 in
set_option maxHeartbeats 2000000 in
theorem c_X11_heaviest (D : md_D h q) (v : Nat → Int32) (f : Nat → Nat → Int32) (hv : md_V v) (hf : md_F f) (x1 : Int32) (x2 : Int32)  : pm_Mt l g 255 1 0 0 [.ref h, .int x1, .int x2] (md A0 g h q v f) (md_Qp (md A0 g h q v f) (fun r => True)) := by
  refine mt_X11_heaviest rfl (fun J hC => ?_)
  have hv9 := hv
  unfold md_V at hv9
  have rg_x1 := pm_rng x1
  have rg_x2 := pm_rng x2
  refine hC.1 0 0 _ _ rfl _ _ _ _ _ ?_
  have k1 : (1 : Int32).toInt = 1 := rfl
  refine Exists.intro _ (And.intro md_o ?_)
  refine Exists.intro _ (Exists.intro _ (Exists.intro _ (Exists.intro _ (And.intro (c_X11_isIn (md A0 g h q v f) x1 (1 : Int32) (v 0) ) (And.intro rfl (fun r9 A9 h9 => ?_))))))
  rcases h9 with ⟨y1, rfl, rfl, ⟨rfl, by1⟩ | ⟨rfl, by1⟩⟩
  · skip
    refine And.intro (fun c9 => absurd c9 (by decide)) (fun _ => ?_)
    have k0 : (0 : Int32).toInt = 0 := rfl
    refine Exists.intro _ (Exists.intro _ (Exists.intro _ (Exists.intro _ (And.intro (c_X11_isIn (md A0 g h q v f) x2 (0 : Int32) (1 : Int32) ) (And.intro rfl (fun r9 A9 h9 => ?_))))))
    rcases h9 with ⟨y2, rfl, rfl, ⟨rfl, by2⟩ | ⟨rfl, by2⟩⟩
    · skip
      refine And.intro (fun _ => ?_) (fun c9 => absurd c9 (by decide))
      refine hC.1 2 23 _ _ rfl _ _ _ _ _ ?_
      have km1 : (-1 : Int32).toInt = -1 := rfl
      have lp3 : ∀ (n : Nat) (z3_31 : Int32) (z4_31 : Int32) (z5_31 : Int32), (0 ≤ z5_31.toInt ∧ z5_31.toInt ≤ 161) → 200 - z5_31.toInt < (n : Int) → J 31 [some (.ref h), some (.int x1), some (.int x2), some (.int z3_31), some (.int z4_31), some (.int z5_31), none] [] (md A0 g h q v f) 0 0 := by
        intro n
        induction n with
        | zero =>
          intro z3_31 z4_31 z5_31 j0_31 j1_31
          omega
        | succ n ih4 =>
          intro z3_31 z4_31 z5_31 j0_31 j1_31
          refine hC.1 3 31 _ _ rfl _ _ _ _ _ ?_
          intro m5 em_34
          try have e5 : m5.toInt = (z5_31).toInt + (x1).toInt := by rw [em_34]; exact pm_add _ _ (by omega) (by omega)
          refine Exists.intro _ (And.intro md_o ?_)
          refine And.intro (fun c6 => ?_) (fun c6 => ?_)
          · skip
            refine hC.1 6 83 _ _ rfl _ _ _ _ _ ?_
            refine And.intro (fun c7 => ?_) (fun c7 => ?_)
            · skip
              have dc7 := pm_neI c7
              refine hC.1 7 91 _ _ rfl _ _ _ _ _ ?_
              refine hC.1 8 93 _ _ rfl _ _ _ _ _ ?_
              exact ⟨rfl, fun e9 => absurd e9 (by decide), rfl, z4_31, rfl, rfl, by first | trivial | omega | (dsimp only; omega)⟩
            · skip
              have dc7 : (x2).toInt = (0 : Int32).toInt := congrArg Int32.toInt c7
              refine hC.1 8 93 _ _ rfl _ _ _ _ _ ?_
              exact ⟨rfl, fun e9 => absurd e9 (by decide), rfl, z3_31, rfl, rfl, by first | trivial | omega | (dsimp only; omega)⟩
          · skip
            intro m8 em_49
            try have e8 : m8.toInt = (z5_31).toInt + (x1).toInt := by rw [em_49]; exact pm_add _ _ (by omega) (by omega)
            intro m9 em_51
            try have e9 : m9.toInt = (m8).toInt - (1) := by rw [em_51]; exact pm_subc _ _ (1) rfl (by omega) (by omega)
            refine And.intro (Exists.intro _ md_o) (Exists.intro _ (Exists.intro _ (Exists.intro _ (Exists.intro _ (And.intro (c_X11_setOf D v f hv hf z5_31 m9 (by omega) (by omega)) (And.intro rfl (fun r9 A9 h9 => ?_)))))))
            obtain ⟨y10, rfl, rfl, by10⟩ := h9
            refine And.intro (Exists.intro _ md_o) (Exists.intro _ (Exists.intro _ (Exists.intro _ (Exists.intro _ (And.intro (c_X11_weightOf D v f hv hf y10 ) (And.intro rfl (fun r9 A9 h9 => ?_)))))))
            obtain ⟨y11, rfl, rfl, by11⟩ := h9
            refine And.intro (fun c12 => ?_) (fun c12 => ?_)
            · skip
              refine hC.1 4 70 _ _ rfl _ _ _ _ _ ?_
              refine hC.1 5 77 _ _ rfl _ _ _ _ _ ?_
              intro m13 em_77
              try have e13 : m13.toInt = (z5_31).toInt + (1) := by rw [em_77]; exact pm_addc _ _ (1) rfl (by omega) (by omega)
              exact hC.2 [false, false, false, false, false, false, true] _ _ _ _ _ _ (ih4 z5_31 y11 m13 (by omega) (by omega))
            · skip
              refine hC.1 5 77 _ _ rfl _ _ _ _ _ ?_
              intro m14 em_77
              try have e14 : m14.toInt = (z5_31).toInt + (1) := by rw [em_77]; exact pm_addc _ _ (1) rfl (by omega) (by omega)
              exact hC.2 [false, false, false, false, false, false, true] _ _ _ _ _ _ (ih4 z3_31 z4_31 m14 (by omega) (by omega))
      exact lp3 (200 - (0 : Int32).toInt).toNat.succ (-1 : Int32) (-1 : Int32) (0 : Int32) (by omega) (by omega)
    · skip
      refine And.intro (fun c9 => absurd c9 (by decide)) (fun _ => ?_)
      refine hC.1 1 21 _ _ rfl _ _ _ _ _ ?_
      have km1 : (-1 : Int32).toInt = -1 := rfl
      exact ⟨rfl, fun e9 => absurd e9 (by decide), rfl, (-1 : Int32), rfl, rfl, by first | trivial | omega | (dsimp only; omega)⟩
  · skip
    have k0 : (0 : Int32).toInt = 0 := rfl
    refine And.intro (fun _ => ?_) (fun c9 => absurd c9 (by decide))
    refine hC.1 1 21 _ _ rfl _ _ _ _ _ ?_
    have km1 : (-1 : Int32).toInt = -1 := rfl
    exact ⟨rfl, fun e9 => absurd e9 (by decide), rfl, (-1 : Int32), rfl, rfl, by first | trivial | omega | (dsimp only; omega)⟩

set_option maxRecDepth 100000 in
set_option maxHeartbeats 2000000 in
theorem c_X11_distance (D : md_D h q) (v : Nat → Int32) (f : Nat → Nat → Int32) (hv : md_V v) (hf : md_F f) (x1 : Int32)  : pm_Mt l g 256 2 0 0 [.ref h, .int x1] (md A0 g h q v f) (md_Qp (md A0 g h q v f) (fun r => True)) := by
  refine mt_X11_distance rfl (fun J hC => ?_)
  have hv9 := hv
  unfold md_V at hv9
  have rg_x1 := pm_rng x1
  have lt9 := lastEq_lt (f 0) (f 0 x1.toInt.toNat) x1.toInt.toNat
  refine hC.1 0 0 _ _ rfl _ _ _ _ _ ?_
  refine And.intro (Exists.intro _ md_o) (Exists.intro _ (Exists.intro _ (Exists.intro _ (Exists.intro _ (And.intro (c_X11_isPlace D v f hv hf x1 ) (And.intro rfl (fun r9 A9 h9 => ?_)))))))
  rcases h9 with ⟨y1, rfl, rfl, ⟨rfl, by1⟩ | ⟨rfl, by1⟩⟩
  · skip
    have k1 : (1 : Int32).toInt = 1 := rfl
    refine And.intro (fun c9 => absurd c9 (by decide)) (fun _ => ?_)
    refine And.intro (Exists.intro _ md_o) (Exists.intro _ (Exists.intro _ (Exists.intro _ (Exists.intro _ (And.intro (c_X11_ahead D v f hv hf x1 (by omega)) (And.intro rfl (fun r9 A9 h9 => ?_)))))))
    obtain ⟨y2, rfl, rfl, by2⟩ := h9
    refine And.intro (fun c3 => ?_) (fun c3 => ?_)
    · skip
      refine hC.1 1 36 _ _ rfl _ _ _ _ _ ?_
      have km1 : (-1 : Int32).toInt = -1 := rfl
      refine hC.1 2 37 _ _ rfl _ _ _ _ _ ?_
      exact ⟨rfl, fun e9 => absurd e9 (by decide), rfl, (-1 : Int32), rfl, rfl, by first | trivial | omega | (dsimp only; omega)⟩
    · skip
      refine And.intro (Exists.intro _ md_o) (Exists.intro _ (Exists.intro _ (Exists.intro _ (Exists.intro _ (And.intro (c_X11_ahead D v f hv hf x1 (by omega)) (And.intro rfl (fun r9 A9 h9 => ?_)))))))
      obtain ⟨y4, rfl, rfl, by4⟩ := h9
      intro m5 em_23
      try have e5 : m5.toInt = (y4).toInt + (1) := by rw [em_23]; exact pm_addc _ _ (1) rfl (by omega) (by omega)
      intro m6 em_26
      try have e6 : m6.toInt = (x1).toInt - (1) := by rw [em_26]; exact pm_subc _ _ (1) rfl (by omega) (by omega)
      refine And.intro (Exists.intro _ md_o) (Exists.intro _ (Exists.intro _ (Exists.intro _ (Exists.intro _ (And.intro (c_X11_setOf D v f hv hf m5 m6 (by omega) (by omega)) (And.intro rfl (fun r9 A9 h9 => ?_)))))))
      obtain ⟨y7, rfl, rfl, by7⟩ := h9
      refine Exists.intro _ (Exists.intro _ (Exists.intro _ (Exists.intro _ (And.intro (c_X11_bits (md A0 g h q v f) y7 ) (And.intro rfl (fun r9 A9 h9 => ?_))))))
      obtain ⟨y8, rfl, rfl, by8⟩ := h9
      refine hC.1 2 37 _ _ rfl _ _ _ _ _ ?_
      exact ⟨rfl, fun e9 => absurd e9 (by decide), rfl, y8, rfl, rfl, by first | trivial | omega | (dsimp only; omega)⟩
  · skip
    have k0 : (0 : Int32).toInt = 0 := rfl
    refine And.intro (fun _ => ?_) (fun c9 => absurd c9 (by decide))
    refine hC.1 1 36 _ _ rfl _ _ _ _ _ ?_
    have km1 : (-1 : Int32).toInt = -1 := rfl
    refine hC.1 2 37 _ _ rfl _ _ _ _ _ ?_
    exact ⟨rfl, fun e9 => absurd e9 (by decide), rfl, (-1 : Int32), rfl, rfl, by first | trivial | omega | (dsimp only; omega)⟩

set_option maxRecDepth 100000 in
set_option maxHeartbeats 2000000 in
theorem c_X11_isShelf (A : pm_H) (x0 : Int32) (x1 : Int32)  : pm_Mt l g 258 1 0 0 [.int x0, .int x1] A (md_Qp A (fun r => (r = 1 ∧ ((1 ≤ x0.toInt ∧ x0.toInt ≤ 24) ∧ 0 ≤ x1.toInt ∧ x1.toInt ≤ 1)) ∨ (r = 0 ∧ (¬ ((1 ≤ x0.toInt ∧ x0.toInt ≤ 24) ∧ 0 ≤ x1.toInt ∧ x1.toInt ≤ 1))))) := by
  refine mt_X11_isShelf rfl (fun J hC => ?_)
  have rg_x0 := pm_rng x0
  have rg_x1 := pm_rng x1
  refine hC.1 0 0 _ _ rfl _ _ _ _ _ ?_
  have k1 : (1 : Int32).toInt = 1 := rfl
  have k24 : (24 : Int32).toInt = 24 := rfl
  refine Exists.intro _ (Exists.intro _ (Exists.intro _ (Exists.intro _ (And.intro (c_X11_isIn A x0 (1 : Int32) (24 : Int32) ) (And.intro rfl (fun r9 A1 h9 => ?_))))))
  rcases h9 with ⟨y2, rfl, rfl, ⟨rfl, by2⟩ | ⟨rfl, by2⟩⟩
  · skip
    refine And.intro (fun c9 => absurd c9 (by decide)) (fun _ => ?_)
    have k0 : (0 : Int32).toInt = 0 := rfl
    refine Exists.intro _ (Exists.intro _ (Exists.intro _ (Exists.intro _ (And.intro (c_X11_isIn A1 x1 (0 : Int32) (1 : Int32) ) (And.intro rfl (fun r9 A3 h9 => ?_))))))
    rcases h9 with ⟨y4, rfl, rfl, ⟨rfl, by4⟩ | ⟨rfl, by4⟩⟩
    · skip
      refine And.intro (fun c9 => absurd c9 (by decide)) (fun _ => ?_)
      refine hC.1 2 24 _ _ rfl _ _ _ _ _ ?_
      exact ⟨rfl, fun _ => (by decide), rfl, (1 : Int32), rfl, rfl, Or.inl ⟨rfl, by first | trivial | omega | (dsimp only; omega)⟩⟩
    · skip
      refine And.intro (fun _ => ?_) (fun c9 => absurd c9 (by decide))
      refine hC.1 1 23 _ _ rfl _ _ _ _ _ ?_
      refine hC.1 2 24 _ _ rfl _ _ _ _ _ ?_
      exact ⟨rfl, fun _ => (by decide), rfl, (0 : Int32), rfl, rfl, Or.inr ⟨rfl, by first | trivial | omega | (dsimp only; omega)⟩⟩
  · skip
    have k0 : (0 : Int32).toInt = 0 := rfl
    refine And.intro (fun _ => ?_) (fun c9 => absurd c9 (by decide))
    refine hC.1 1 23 _ _ rfl _ _ _ _ _ ?_
    refine hC.1 2 24 _ _ rfl _ _ _ _ _ ?_
    exact ⟨rfl, fun _ => (by decide), rfl, (0 : Int32), rfl, rfl, Or.inr ⟨rfl, by first | trivial | omega | (dsimp only; omega)⟩⟩

end
