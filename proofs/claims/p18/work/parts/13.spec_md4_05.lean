section
variable {l : Launch} {g : pm_G} {A0 : pm_H} {h : Nat} {q : Nat → Nat}
set_option maxRecDepth 100000 in
set_option maxHeartbeats 2000000 in
theorem c_X11_matched (D : md_D h q) (v : Nat → Int32) (f : Nat → Nat → Int32) (hv : md_V v) (hf : md_F f) (x1 : Int32) (x2 : Int32) (x3 : Int32) (p0 : 0 ≤ x1.toInt ∧ x1.toInt ≤ 160) (p1 : 0 ≤ x2.toInt ∧ x2.toInt ≤ 160) (p2 : x3.toInt ≤ 160) : pm_Mt l g 269 0 0 0 [.ref h, .int x1, .int x2, .int x3] (md A0 g h q v f) (md_Qp (md A0 g h q v f) (fun r => True)) := by
  refine mt_X11_matched rfl (fun J hC => ?_)
  have hv9 := hv
  unfold md_V at hv9
  have rg_x1 := pm_rng x1
  have rg_x2 := pm_rng x2
  have rg_x3 := pm_rng x3
  refine hC.1 0 0 _ _ rfl _ _ _ _ _ ?_
  have k0 : (0 : Int32).toInt = 0 := rfl
  have lp1 : ∀ (n : Nat) (z4_3 : Int32), (0 ≤ z4_3.toInt ∧ z4_3.toInt ≤ 160) → 200 - z4_3.toInt < (n : Int) → J 3 [some (.ref h), some (.int x1), some (.int x2), some (.int x3), some (.int z4_3)] [] (md A0 g h q v f) 0 0 := by
    intro n
    induction n with
    | zero =>
      intro z4_3 j0_3 j1_3
      omega
    | succ n ih2 =>
      intro z4_3 j0_3 j1_3
      refine hC.1 1 3 _ _ rfl _ _ _ _ _ ?_
      refine And.intro (fun c3 => ?_) (fun c3 => ?_)
      · skip
        refine hC.1 6 94 _ _ rfl _ _ _ _ _ ?_
        exact ⟨rfl, fun e9 => absurd e9 (by decide), rfl, z4_3, rfl, rfl, by first | trivial | omega | (dsimp only; omega)⟩
      · skip
        intro m4 em_12
        try have e4 : m4.toInt = (x1).toInt + (z4_3).toInt := by rw [em_12]; exact pm_add _ _ (by omega) (by omega)
        refine Exists.intro _ (And.intro md_o ?_)
        refine And.intro (fun c5 => ?_) (fun c5 => ?_)
        · skip
          refine hC.1 6 94 _ _ rfl _ _ _ _ _ ?_
          exact ⟨rfl, fun e9 => absurd e9 (by decide), rfl, z4_3, rfl, rfl, by first | trivial | omega | (dsimp only; omega)⟩
        · skip
          intro m6 em_23
          try have e6 : m6.toInt = (x2).toInt + (z4_3).toInt := by rw [em_23]; exact pm_add _ _ (by omega) (by omega)
          refine Exists.intro _ (And.intro md_o ?_)
          refine And.intro (fun c7 => ?_) (fun c7 => ?_)
          · skip
            refine hC.1 6 94 _ _ rfl _ _ _ _ _ ?_
            exact ⟨rfl, fun e9 => absurd e9 (by decide), rfl, z4_3, rfl, rfl, by first | trivial | omega | (dsimp only; omega)⟩
          · skip
            refine Exists.intro _ (And.intro md_o ?_)
            intro m8 em_38
            try have e8 : m8.toInt = (x1).toInt + (z4_3).toInt := by rw [em_38]; exact pm_add _ _ (by omega) (by omega)
            refine Exists.intro _ (Exists.intro _ (And.intro (Or.inl (md_a_gaps D)) (And.intro (by omega) ?_)))
            refine And.intro (fun c9 => ?_) (fun c9 => ?_)
            · skip
              refine hC.1 2 49 _ _ rfl _ _ _ _ _ ?_
              refine Exists.intro _ (And.intro md_o ?_)
              intro m10 em_56
              try have e10 : m10.toInt = (x1).toInt + (z4_3).toInt := by rw [em_56]; exact pm_add _ _ (by omega) (by omega)
              refine Exists.intro _ (Exists.intro _ (And.intro (Or.inl (md_a_gaps D)) (And.intro (by omega) ?_)))
              refine hC.1 3 58 _ _ rfl _ _ _ _ _ ?_
              refine Exists.intro _ (And.intro md_o ?_)
              intro m11 em_65
              try have e11 : m11.toInt = (x2).toInt + (z4_3).toInt := by rw [em_65]; exact pm_add _ _ (by omega) (by omega)
              refine Exists.intro _ (Exists.intro _ (And.intro (Or.inl (md_a_gaps D)) (And.intro (by omega) ?_)))
              refine And.intro (fun c12 => ?_) (fun c12 => ?_)
              · skip
                refine hC.1 4 76 _ _ rfl _ _ _ _ _ ?_
                refine Exists.intro _ (And.intro md_o ?_)
                intro m13 em_83
                try have e13 : m13.toInt = (x2).toInt + (z4_3).toInt := by rw [em_83]; exact pm_add _ _ (by omega) (by omega)
                refine Exists.intro _ (Exists.intro _ (And.intro (Or.inl (md_a_gaps D)) (And.intro (by omega) ?_)))
                refine hC.1 5 85 _ _ rfl _ _ _ _ _ ?_
                refine And.intro (fun c14 => ?_) (fun c14 => ?_)
                · skip
                  have dc14 := pm_neI c14
                  refine hC.1 6 94 _ _ rfl _ _ _ _ _ ?_
                  exact ⟨rfl, fun e9 => absurd e9 (by decide), rfl, z4_3, rfl, rfl, by first | trivial | omega | (dsimp only; omega)⟩
                · skip
                  have dc14 : ((f 17 (m10).toInt.toNat)).toInt = ((f 17 (m13).toInt.toNat) : Int32).toInt := congrArg Int32.toInt c14
                  have k1 : (1 : Int32).toInt = 1 := rfl
                  intro m15 em_88
                  try have e15 : m15.toInt = (z4_3).toInt + (1) := by rw [em_88]; exact pm_addc _ _ (1) rfl (by omega) (by omega)
                  exact ih2 m15 (by omega) (by omega)
              · skip
                refine hC.1 5 85 _ _ rfl _ _ _ _ _ ?_
                refine And.intro (fun c16 => ?_) (fun c16 => ?_)
                · skip
                  have dc16 := pm_neI c16
                  refine hC.1 6 94 _ _ rfl _ _ _ _ _ ?_
                  exact ⟨rfl, fun e9 => absurd e9 (by decide), rfl, z4_3, rfl, rfl, by first | trivial | omega | (dsimp only; omega)⟩
                · skip
                  have dc16 : ((f 17 (m10).toInt.toNat)).toInt = ((0 : Int32) : Int32).toInt := congrArg Int32.toInt c16
                  have k1 : (1 : Int32).toInt = 1 := rfl
                  intro m17 em_88
                  try have e17 : m17.toInt = (z4_3).toInt + (1) := by rw [em_88]; exact pm_addc _ _ (1) rfl (by omega) (by omega)
                  exact ih2 m17 (by omega) (by omega)
            · skip
              refine hC.1 3 58 _ _ rfl _ _ _ _ _ ?_
              refine Exists.intro _ (And.intro md_o ?_)
              intro m18 em_65
              try have e18 : m18.toInt = (x2).toInt + (z4_3).toInt := by rw [em_65]; exact pm_add _ _ (by omega) (by omega)
              refine Exists.intro _ (Exists.intro _ (And.intro (Or.inl (md_a_gaps D)) (And.intro (by omega) ?_)))
              refine And.intro (fun c19 => ?_) (fun c19 => ?_)
              · skip
                refine hC.1 4 76 _ _ rfl _ _ _ _ _ ?_
                refine Exists.intro _ (And.intro md_o ?_)
                intro m20 em_83
                try have e20 : m20.toInt = (x2).toInt + (z4_3).toInt := by rw [em_83]; exact pm_add _ _ (by omega) (by omega)
                refine Exists.intro _ (Exists.intro _ (And.intro (Or.inl (md_a_gaps D)) (And.intro (by omega) ?_)))
                refine hC.1 5 85 _ _ rfl _ _ _ _ _ ?_
                refine And.intro (fun c21 => ?_) (fun c21 => ?_)
                · skip
                  have dc21 := pm_neI c21
                  refine hC.1 6 94 _ _ rfl _ _ _ _ _ ?_
                  exact ⟨rfl, fun e9 => absurd e9 (by decide), rfl, z4_3, rfl, rfl, by first | trivial | omega | (dsimp only; omega)⟩
                · skip
                  have dc21 : ((0 : Int32)).toInt = ((f 17 (m20).toInt.toNat) : Int32).toInt := congrArg Int32.toInt c21
                  have k1 : (1 : Int32).toInt = 1 := rfl
                  intro m22 em_88
                  try have e22 : m22.toInt = (z4_3).toInt + (1) := by rw [em_88]; exact pm_addc _ _ (1) rfl (by omega) (by omega)
                  exact ih2 m22 (by omega) (by omega)
              · skip
                refine hC.1 5 85 _ _ rfl _ _ _ _ _ ?_
                refine And.intro (fun c9 => absurd c9 (by decide)) (fun _ => ?_)
                have k1 : (1 : Int32).toInt = 1 := rfl
                intro m23 em_88
                try have e23 : m23.toInt = (z4_3).toInt + (1) := by rw [em_88]; exact pm_addc _ _ (1) rfl (by omega) (by omega)
                exact ih2 m23 (by omega) (by omega)
  exact lp1 (200 - (0 : Int32).toInt).toNat.succ (0 : Int32) (by omega) (by omega)

set_option maxRecDepth 100000 in
set_option maxHeartbeats 2000000 in
theorem c_X11_match (D : md_D h q) (v : Nat → Int32) (f : Nat → Nat → Int32) (hv : md_V v) (hf : md_F f) (x1 : Int32) (x2 : Int32) (x3 : Int32)  : pm_Mt l g 267 2 0 0 [.ref h, .int x1, .int x2, .int x3] (md A0 g h q v f) (md_Qw A0 g h q f (fun r v2 f2 => (v2 0).toInt = (v 0).toInt ∧ (v2 1).toInt = (v 1).toInt ∧ (v2 2).toInt = (v 2).toInt ∧ (v2 3).toInt = (v 3).toInt ∧ (v2 4).toInt = (v 4).toInt ∧ (v2 6).toInt = (v 6).toInt)) := by
  refine mt_X11_match rfl (fun J hC => ?_)
  have hv9 := hv
  unfold md_V at hv9
  have rg_x1 := pm_rng x1
  have rg_x2 := pm_rng x2
  have rg_x3 := pm_rng x3
  refine hC.1 0 0 _ _ rfl _ _ _ _ _ ?_
  refine And.intro (Exists.intro _ md_o) (Exists.intro _ (Exists.intro _ (Exists.intro _ (Exists.intro _ (And.intro (c_X11_isSpan D v f hv hf x1 x2 ) (And.intro rfl (fun r9 A9 h9 => ?_)))))))
  rcases h9 with ⟨y1, rfl, rfl, ⟨rfl, by1⟩ | ⟨rfl, by1⟩⟩
  · skip
    have k1 : (1 : Int32).toInt = 1 := rfl
    refine And.intro (fun c9 => absurd c9 (by decide)) (fun _ => ?_)
    have km1 : (-1 : Int32).toInt = -1 := rfl
    refine And.intro (fun c2 => ?_) (fun c2 => ?_)
    · skip
      refine hC.1 2 16 _ _ rfl _ _ _ _ _ ?_
      refine And.intro (Exists.intro _ md_o) (Exists.intro _ (Exists.intro _ (Exists.intro _ (Exists.intro _ (And.intro (c_X11_layGaps D v f hv hf  ) (And.intro rfl (fun r9 A9 h9 => ?_)))))))
      obtain ⟨v4, f4, rfl, rfl, hv4, hf4, hx4, by3⟩ := h9
      have hw4 : f4 2 = f 2 := hx4.trans rfl
      have hu5 := hv4
      unfold md_V at hu5
      intro m6 em_22
      try have e6 : m6.toInt = (x2).toInt - (x1).toInt := by rw [em_22]; exact pm_sub _ _ (by omega) (by omega)
      intro m7 em_24
      try have e7 : m7.toInt = (m6).toInt + (1) := by rw [em_24]; exact pm_addc _ _ (1) rfl (by omega) (by omega)
      have k0 : (0 : Int32).toInt = 0 := rfl
      have lp8 : ∀ (n : Nat) (z5_33 : Int32) (z6_33 : Int32), (0 ≤ z6_33.toInt ∧ z6_33.toInt ≤ 161) → 200 - z6_33.toInt < (n : Int) → J 33 [some (.ref h), some (.int x1), some (.int x2), some (.int x3), some (.int m7), some (.int z5_33), some (.int z6_33)] [] (md A0 g h q v4 f4) 0 0 := by
        intro n
        induction n with
        | zero =>
          intro z5_33 z6_33 j0_33 j1_33
          omega
        | succ n ih9 =>
          intro z5_33 z6_33 j0_33 j1_33
          refine hC.1 3 33 _ _ rfl _ _ _ _ _ ?_
          intro m10 em_37
          try have e10 : m10.toInt = (z6_33).toInt + (m7).toInt := by rw [em_37]; exact pm_add _ _ (by omega) (by omega)
          refine Exists.intro _ (And.intro md_o ?_)
          refine And.intro (fun c11 => ?_) (fun c11 => ?_)
          · skip
            refine hC.1 7 80 _ _ rfl _ _ _ _ _ ?_
            refine And.intro (fun c12 => ?_) (fun c12 => ?_)
            · skip
              have dc12 := pm_neI c12
              refine hC.1 8 90 _ _ rfl _ _ _ _ _ ?_
              refine hC.1 9 91 _ _ rfl _ _ _ _ _ ?_
              exact ⟨rfl, fun e9 => absurd e9 (by decide), rfl, (-1 : Int32), v4, f4, rfl, rfl, hv4, hf4, hw4, by first | trivial | omega | (dsimp only; omega)⟩
            · skip
              have dc12 : (x3).toInt = ((-1 : Int32) : Int32).toInt := congrArg Int32.toInt c12
              refine hC.1 9 91 _ _ rfl _ _ _ _ _ ?_
              exact ⟨rfl, fun e9 => absurd e9 (by decide), rfl, z5_33, v4, f4, rfl, rfl, hv4, hf4, hw4, by first | trivial | omega | (dsimp only; omega)⟩
          · skip
            refine And.intro (Exists.intro _ md_o) (Exists.intro _ (Exists.intro _ (Exists.intro _ (Exists.intro _ (And.intro (c_X11_matched D v4 f4 hv4 hf4 x1 z6_33 m7 (by omega) (by omega) (by omega)) (And.intro rfl (fun r9 A9 h9 => ?_)))))))
            obtain ⟨y13, rfl, rfl, by13⟩ := h9
            refine And.intro (fun c14 => ?_) (fun c14 => ?_)
            · skip
              refine hC.1 4 62 _ _ rfl _ _ _ _ _ ?_
              refine And.intro (fun c15 => ?_) (fun c15 => ?_)
              · skip
                have dc15 := pm_neI c15
                refine hC.1 5 71 _ _ rfl _ _ _ _ _ ?_
                intro m16 em_71
                try have e16 : m16.toInt = (z5_33).toInt + (1) := by rw [em_71]; exact pm_addc _ _ (1) rfl (by omega) (by omega)
                refine hC.1 6 74 _ _ rfl _ _ _ _ _ ?_
                intro m17 em_74
                try have e17 : m17.toInt = (z6_33).toInt + (1) := by rw [em_74]; exact pm_addc _ _ (1) rfl (by omega) (by omega)
                exact ih9 m16 m17 (by omega) (by omega)
              · skip
                have dc15 : (z5_33).toInt = (x3 : Int32).toInt := congrArg Int32.toInt c15
                exact ⟨rfl, fun e9 => absurd e9 (by decide), rfl, z6_33, v4, f4, rfl, rfl, hv4, hf4, hw4, by first | trivial | omega | (dsimp only; omega)⟩
            · skip
              refine hC.1 6 74 _ _ rfl _ _ _ _ _ ?_
              intro m18 em_74
              try have e18 : m18.toInt = (z6_33).toInt + (1) := by rw [em_74]; exact pm_addc _ _ (1) rfl (by omega) (by omega)
              exact ih9 z5_33 m18 (by omega) (by omega)
      exact lp8 (200 - (0 : Int32).toInt).toNat.succ (0 : Int32) (0 : Int32) (by omega) (by omega)
    · skip
      refine hC.1 1 14 _ _ rfl _ _ _ _ _ ?_
      exact ⟨rfl, fun e9 => absurd e9 (by decide), rfl, (-1 : Int32), v, f, rfl, rfl, hv, hf, rfl, by first | trivial | omega | (dsimp only; omega)⟩
  · skip
    have k0 : (0 : Int32).toInt = 0 := rfl
    refine And.intro (fun _ => ?_) (fun c9 => absurd c9 (by decide))
    refine hC.1 1 14 _ _ rfl _ _ _ _ _ ?_
    have km1 : (-1 : Int32).toInt = -1 := rfl
    exact ⟨rfl, fun e9 => absurd e9 (by decide), rfl, (-1 : Int32), v, f, rfl, rfl, hv, hf, rfl, by first | trivial | omega | (dsimp only; omega)⟩

set_option maxRecDepth 100000 in
set_option maxHeartbeats 2000000 in
theorem c_X11_twin (D : md_D h q) (v : Nat → Int32) (f : Nat → Nat → Int32) (hv : md_V v) (hf : md_F f) (x1 : Int32)  : pm_Mt l g 270 2 0 0 [.ref h, .int x1] (md A0 g h q v f) (md_Qw A0 g h q f (fun r v2 f2 => (v2 0).toInt = (v 0).toInt ∧ (v2 1).toInt = (v 1).toInt ∧ (v2 2).toInt = (v 2).toInt ∧ (v2 3).toInt = (v 3).toInt ∧ (v2 4).toInt = (v 4).toInt ∧ (v2 6).toInt = (v 6).toInt)) := by
  refine mt_X11_twin rfl (fun J hC => ?_)
  have hv9 := hv
  unfold md_V at hv9
  have rg_x1 := pm_rng x1
  refine hC.1 0 0 _ _ rfl _ _ _ _ _ ?_
  have k0 : (0 : Int32).toInt = 0 := rfl
  have k1 : (1 : Int32).toInt = 1 := rfl
  refine Exists.intro _ (Exists.intro _ (Exists.intro _ (Exists.intro _ (And.intro (c_X11_isIn (md A0 g h q v f) x1 (0 : Int32) (1 : Int32) ) (And.intro rfl (fun r9 A9 h9 => ?_))))))
  rcases h9 with ⟨y1, rfl, rfl, ⟨rfl, by1⟩ | ⟨rfl, by1⟩⟩
  · skip
    refine And.intro (fun _ => ?_) (fun c9 => absurd c9 (by decide))
    refine hC.1 1 11 _ _ rfl _ _ _ _ _ ?_
    refine And.intro (Exists.intro _ md_o) (Exists.intro _ (Exists.intro _ (Exists.intro _ (Exists.intro _ (And.intro (c_X11_layGaps D v f hv hf  ) (And.intro rfl (fun r9 A9 h9 => ?_)))))))
    obtain ⟨v3, f3, rfl, rfl, hv3, hf3, hx3, by2⟩ := h9
    have hw3 : f3 2 = f 2 := hx3.trans rfl
    have hu4 := hv3
    unfold md_V at hu4
    have km1 : (-1 : Int32).toInt = -1 := rfl
    have lp5 : ∀ (n : Nat) (z2_22 : Int32) (z3_22 : Int32) (z4_22 : Int32), (0 ≤ z4_22.toInt ∧ z4_22.toInt ≤ (v 0).toInt) → 200 - z4_22.toInt < (n : Int) → J 22 [some (.ref h), some (.int x1), some (.int z2_22), some (.int z3_22), some (.int z4_22), none, none] [] (md A0 g h q v3 f3) 0 0 := by
      intro n
      induction n with
      | zero =>
        intro z2_22 z3_22 z4_22 j0_22 j1_22
        omega
      | succ n ih6 =>
        intro z2_22 z3_22 z4_22 j0_22 j1_22
        refine hC.1 2 22 _ _ rfl _ _ _ _ _ ?_
        refine Exists.intro _ (And.intro md_o ?_)
        refine And.intro (fun c7 => ?_) (fun c7 => ?_)
        · skip
          refine hC.1 7 86 _ _ rfl _ _ _ _ _ ?_
          refine And.intro (fun c8 => ?_) (fun c8 => ?_)
          · skip
            refine hC.1 8 94 _ _ rfl _ _ _ _ _ ?_
            refine hC.1 10 99 _ _ rfl _ _ _ _ _ ?_
            exact ⟨rfl, fun e9 => absurd e9 (by decide), rfl, z2_22, v3, f3, rfl, rfl, hv3, hf3, hw3, by first | trivial | omega | (dsimp only; omega)⟩
          · skip
            refine And.intro (fun c9 => ?_) (fun c9 => ?_)
            · skip
              have dc9 := pm_neI c9
              refine hC.1 9 98 _ _ rfl _ _ _ _ _ ?_
              refine hC.1 10 99 _ _ rfl _ _ _ _ _ ?_
              exact ⟨rfl, fun e9 => absurd e9 (by decide), rfl, z3_22, v3, f3, rfl, rfl, hv3, hf3, hw3, by first | trivial | omega | (dsimp only; omega)⟩
            · skip
              have dc9 : (x1).toInt = (0 : Int32).toInt := congrArg Int32.toInt c9
              refine hC.1 8 94 _ _ rfl _ _ _ _ _ ?_
              refine hC.1 10 99 _ _ rfl _ _ _ _ _ ?_
              exact ⟨rfl, fun e9 => absurd e9 (by decide), rfl, z2_22, v3, f3, rfl, rfl, hv3, hf3, hw3, by first | trivial | omega | (dsimp only; omega)⟩
        · skip
          intro m10 em_34
          try have e10 : m10.toInt = (z4_22).toInt + (1) := by rw [em_34]; exact pm_addc _ _ (1) rfl (by omega) (by omega)
          have lp11 : ∀ (n : Nat) (z2_37 : Int32) (z3_37 : Int32) (z5_37 : Int32), (0 ≤ z5_37.toInt ∧ z5_37.toInt ≤ 161) → 200 - z5_37.toInt < (n : Int) → J 37 [some (.ref h), some (.int x1), some (.int z2_37), some (.int z3_37), some (.int z4_22), some (.int z5_37), none] [] (md A0 g h q v3 f3) 0 0 := by
            intro n
            induction n with
            | zero =>
              intro z2_37 z3_37 z5_37 j0_37 j1_37
              omega
            | succ n ih12 =>
              intro z2_37 z3_37 z5_37 j0_37 j1_37
              refine hC.1 3 37 _ _ rfl _ _ _ _ _ ?_
              refine Exists.intro _ (And.intro md_o ?_)
              refine And.intro (fun c13 => ?_) (fun c13 => ?_)
              · skip
                refine hC.1 6 80 _ _ rfl _ _ _ _ _ ?_
                intro m14 em_80
                try have e14 : m14.toInt = (z4_22).toInt + (1) := by rw [em_80]; exact pm_addc _ _ (1) rfl (by omega) (by omega)
                exact hC.2 [false, false, false, false, false, true, false] _ _ _ _ _ _ (ih6 z2_37 z3_37 m14 (by omega) (by omega))
              · skip
                have k160 : (160 : Int32).toInt = 160 := rfl
                refine And.intro (Exists.intro _ md_o) (Exists.intro _ (Exists.intro _ (Exists.intro _ (Exists.intro _ (And.intro (c_X11_matched D v3 f3 hv3 hf3 z4_22 z5_37 (160 : Int32) (by omega) (by omega) (by omega)) (And.intro rfl (fun r9 A9 h9 => ?_)))))))
                obtain ⟨y15, rfl, rfl, by15⟩ := h9
                refine And.intro (fun c16 => ?_) (fun c16 => ?_)
                · skip
                  refine hC.1 4 68 _ _ rfl _ _ _ _ _ ?_
                  refine hC.1 5 74 _ _ rfl _ _ _ _ _ ?_
                  intro m17 em_74
                  try have e17 : m17.toInt = (z5_37).toInt + (1) := by rw [em_74]; exact pm_addc _ _ (1) rfl (by omega) (by omega)
                  exact hC.2 [false, false, false, false, false, false, true] _ _ _ _ _ _ (ih12 z4_22 y15 m17 (by omega) (by omega))
                · skip
                  refine hC.1 5 74 _ _ rfl _ _ _ _ _ ?_
                  intro m18 em_74
                  try have e18 : m18.toInt = (z5_37).toInt + (1) := by rw [em_74]; exact pm_addc _ _ (1) rfl (by omega) (by omega)
                  exact hC.2 [false, false, false, false, false, false, true] _ _ _ _ _ _ (ih12 z2_37 z3_37 m18 (by omega) (by omega))
          exact lp11 (200 - m10.toInt).toNat.succ z2_22 z3_22 m10 (by omega) (by omega)
    exact lp5 (200 - (0 : Int32).toInt).toNat.succ (-1 : Int32) (0 : Int32) (0 : Int32) (by omega) (by omega)
  · skip
    refine And.intro (fun c9 => absurd c9 (by decide)) (fun _ => ?_)
    have km1 : (-1 : Int32).toInt = -1 := rfl
    exact ⟨rfl, fun e9 => absurd e9 (by decide), rfl, (-1 : Int32), v, f, rfl, rfl, hv, hf, rfl, by first | trivial | omega | (dsimp only; omega)⟩

set_option maxRecDepth 100000 in
set_option maxHeartbeats 2000000 in
theorem c_X11_parts (D : md_D h q) (v : Nat → Int32) (f : Nat → Nat → Int32) (hv : md_V v) (hf : md_F f) (x1 : Int32) (x2 : Int32)  : pm_Mt l g 271 2 0 0 [.ref h, .int x1, .int x2] (md A0 g h q v f) (md_Qp (md A0 g h q v f) (fun r => True)) := by
  refine mt_X11_parts rfl (fun J hC => ?_)
  have hv9 := hv
  unfold md_V at hv9
  have rg_x1 := pm_rng x1
  have rg_x2 := pm_rng x2
  refine hC.1 0 0 _ _ rfl _ _ _ _ _ ?_
  have k1 : (1 : Int32).toInt = 1 := rfl
  refine And.intro (fun c1 => ?_) (fun c1 => ?_)
  · skip
    refine hC.1 1 10 _ _ rfl _ _ _ _ _ ?_
    have km1 : (-1 : Int32).toInt = -1 := rfl
    exact ⟨rfl, fun e9 => absurd e9 (by decide), rfl, (-1 : Int32), rfl, rfl, by first | trivial | omega | (dsimp only; omega)⟩
  · skip
    have km1 : (-1 : Int32).toInt = -1 := rfl
    refine And.intro (fun c2 => ?_) (fun c2 => ?_)
    · skip
      refine hC.1 2 12 _ _ rfl _ _ _ _ _ ?_
      have k0 : (0 : Int32).toInt = 0 := rfl
      have lp3 : ∀ (n : Nat) (z3_17 : Int32) (z4_17 : Int32), (0 ≤ z4_17.toInt ∧ z4_17.toInt ≤ (v 0).toInt) → 200 - z4_17.toInt < (n : Int) → J 17 [some (.ref h), some (.int x1), some (.int x2), some (.int z3_17), some (.int z4_17), none] [] (md A0 g h q v f) 0 0 := by
        intro n
        induction n with
        | zero =>
          intro z3_17 z4_17 j0_17 j1_17
          omega
        | succ n ih4 =>
          intro z3_17 z4_17 j0_17 j1_17
          refine hC.1 3 17 _ _ rfl _ _ _ _ _ ?_
          refine Exists.intro _ (And.intro md_o ?_)
          refine And.intro (fun c5 => ?_) (fun c5 => ?_)
          · skip
            refine hC.1 5 55 _ _ rfl _ _ _ _ _ ?_
            refine And.intro (fun c6 => ?_) (fun c6 => ?_)
            · skip
              have dc6 := pm_neI c6
              refine hC.1 6 64 _ _ rfl _ _ _ _ _ ?_
              refine hC.1 7 65 _ _ rfl _ _ _ _ _ ?_
              exact ⟨rfl, fun e9 => absurd e9 (by decide), rfl, (-1 : Int32), rfl, rfl, by first | trivial | omega | (dsimp only; omega)⟩
            · skip
              have dc6 : (x2).toInt = ((-1 : Int32) : Int32).toInt := congrArg Int32.toInt c6
              refine hC.1 7 65 _ _ rfl _ _ _ _ _ ?_
              exact ⟨rfl, fun e9 => absurd e9 (by decide), rfl, z3_17, rfl, rfl, by first | trivial | omega | (dsimp only; omega)⟩
          · skip
            refine And.intro (Exists.intro _ md_o) (Exists.intro _ (Exists.intro _ (Exists.intro _ (Exists.intro _ (And.intro (c_X11_farthest D v f hv hf z4_17 x1 (by omega)) (And.intro rfl (fun r9 A9 h9 => ?_)))))))
            obtain ⟨y7, rfl, rfl, by7⟩ := h9
            refine And.intro (fun c8 => ?_) (fun c8 => ?_)
            · skip
              have dc8 := pm_neI c8
              refine hC.1 4 43 _ _ rfl _ _ _ _ _ ?_
              intro m9 em_43
              try have e9 : m9.toInt = (z3_17).toInt + (1) := by rw [em_43]; exact pm_addc _ _ (1) rfl (by omega) (by omega)
              intro m10 em_49
              try have e10 : m10.toInt = (y7).toInt + (1) := by rw [em_49]; exact pm_addc _ _ (1) rfl (by omega) (by omega)
              exact hC.2 [false, false, false, false, false, true] _ _ _ _ _ _ (ih4 m9 m10 (by omega) (by omega))
            · skip
              have dc8 : (z3_17).toInt = (x2 : Int32).toInt := congrArg Int32.toInt c8
              exact ⟨rfl, fun e9 => absurd e9 (by decide), rfl, y7, rfl, rfl, by first | trivial | omega | (dsimp only; omega)⟩
      exact lp3 (200 - (0 : Int32).toInt).toNat.succ (0 : Int32) (0 : Int32) (by omega) (by omega)
    · skip
      refine hC.1 1 10 _ _ rfl _ _ _ _ _ ?_
      exact ⟨rfl, fun e9 => absurd e9 (by decide), rfl, (-1 : Int32), rfl, rfl, by first | trivial | omega | (dsimp only; omega)⟩

set_option maxRecDepth 100000 in
set_option maxHeartbeats 2000000 in
theorem c_X11_layPart (D : md_D h q) (v : Nat → Int32) (f : Nat → Nat → Int32) (hv : md_V v) (hf : md_F f) (x1 : Int32) (x2 : Int32) (x3 : Int32) (p0 : 1 ≤ x1.toInt ∧ x1.toInt ≤ 8) (p1 : 0 ≤ x2.toInt ∧ x2.toInt ≤ (v 0).toInt) (p2 : x3.toInt = 161) : pm_Mt l g 274 1 0 0 [.ref h, .int x1, .int x2, .int x3] (md A0 g h q v f) (md_Qv A0 g h q f (fun v2 f2 => (v2 0).toInt = (v 0).toInt ∧ (v2 1).toInt = (v 1).toInt ∧ (v2 2).toInt = (v 2).toInt ∧ (v2 3).toInt = (v 3).toInt ∧ (v2 4).toInt = (v 4).toInt ∧ (v2 6).toInt = (v 6).toInt)) := by
  refine mt_X11_layPart rfl (fun J hC => ?_)
  have hv9 := hv
  unfold md_V at hv9
  have rg_x1 := pm_rng x1
  have rg_x2 := pm_rng x2
  have rg_x3 := pm_rng x3
  refine hC.1 0 0 _ _ rfl _ _ _ _ _ ?_
  have k0 : (0 : Int32).toInt = 0 := rfl
  have lp2 : ∀ (n : Nat) (z4_6 : Int32) (z5_6 : Int32) (v1 : Nat → Int32) (f1 : Nat → Nat → Int32), md_V v1 → md_F f1 → f1 2 = f 2 → (0 ≤ z5_6.toInt ∧ z5_6.toInt ≤ (v 0).toInt) → (v1 0).toInt = (v 0).toInt → (v1 1).toInt = (v 1).toInt → (v1 2).toInt = (v 2).toInt → (v1 3).toInt = (v 3).toInt → (v1 4).toInt = (v 4).toInt → (v1 6).toInt = (v 6).toInt → 200 - z5_6.toInt < (n : Int) → J 6 [some (.ref h), some (.int x1), some (.int x2), some (.int x3), some (.int z4_6), some (.int z5_6), none] [] (md A0 g h q v1 f1) 0 0 := by
    intro n
    induction n with
    | zero =>
      intro z4_6 z5_6 v1 f1 hv1 hf1 hw1 j0_6 j1_6 j2_6 j3_6 j4_6 j5_6 j6_6 j7_6
      omega
    | succ n ih3 =>
      intro z4_6 z5_6 v1 f1 hv1 hf1 hw1 j0_6 j1_6 j2_6 j3_6 j4_6 j5_6 j6_6 j7_6
      refine hC.1 1 6 _ _ rfl _ _ _ _ _ ?_
      have hu4 := hv1
      unfold md_V at hu4
      refine Exists.intro _ (And.intro md_o ?_)
      refine And.intro (fun c5 => ?_) (fun c5 => ?_)
      · skip
        refine hC.1 4 105 _ _ rfl _ _ _ _ _ ?_
        exact ⟨rfl, rfl, v1, f1, rfl, rfl, hv1, hf1, hw1, by first | trivial | omega | (dsimp only; omega)⟩
      · skip
        have k1 : (1 : Int32).toInt = 1 := rfl
        refine Exists.intro _ (And.intro md_o ?_)
        refine Exists.intro _ (Exists.intro _ (And.intro (Or.inl (md_a_colours D)) (And.intro (by omega) ?_)))
        have w6 : (0 : Int) ≤ (f1 0 (z5_6).toInt.toNat).toInt ∧ (f1 0 (z5_6).toInt.toNat).toInt ≤ (23 : Int) := hf1 0 _
        refine Exists.intro _ (Exists.intro _ (Exists.intro _ (Exists.intro _ (And.intro (c_X11_bits (md A0 g h q v1 f1) (z4_6 ||| ((1 : Int32) <<< ((f1 0 (z5_6).toInt.toNat) &&& 31))) ) (And.intro rfl (fun r9 A9 h9 => ?_))))))
        obtain ⟨y7, rfl, rfl, by7⟩ := h9
        refine Exists.intro _ (And.intro md_o ?_)
        intro m8 em_41
        try have e8 : m8.toInt = (x1).toInt - (1) := by rw [em_41]; exact pm_subc _ _ (1) rfl (by omega) (by omega)
        intro m9 em_42
        try have e9 : m9.toInt = 161 * (m8).toInt := by rw [em_42]; exact pm_mulk _ _ 161 (by omega) (by omega) (by omega)
        intro m10 em_45
        try have e10 : m10.toInt = (m9).toInt + (z5_6).toInt := by rw [em_45]; exact pm_add _ _ (by omega) (by omega)
        intro m11 em_47
        try have e11 : m11.toInt = (m10).toInt + (1) := by rw [em_47]; exact pm_addc _ _ (1) rfl (by omega) (by omega)
        refine Exists.intro _ (Exists.intro _ (And.intro (Or.inl (md_a_worth D)) (And.intro (by omega) ?_)))
        intro m12 em_49
        try have e12 : m12.toInt = (y7).toInt + ((f1 18 (m11).toInt.toNat)).toInt := by rw [em_49]; exact pm_add _ _ (by omega) (by omega)
        refine Exists.intro _ (And.intro md_o ?_)
        intro m13 em_60
        try have e13 : m13.toInt = 161 * (x1).toInt := by rw [em_60]; exact pm_mulk _ _ 161 (by omega) (by omega) (by omega)
        intro m14 em_62
        try have e14 : m14.toInt = (m13).toInt + (x2).toInt := by rw [em_62]; exact pm_add _ _ (by omega) (by omega)
        refine Exists.intro _ (Exists.intro _ (And.intro (Or.inl (md_a_worth D)) (And.intro (by omega) ?_)))
        refine And.intro (fun c15 => ?_) (fun c15 => ?_)
        · skip
          refine hC.1 3 99 _ _ rfl _ _ _ _ _ ?_
          intro m16 em_99
          try have e16 : m16.toInt = (z5_6).toInt + (1) := by rw [em_99]; exact pm_addc _ _ (1) rfl (by omega) (by omega)
          exact hC.2 [false, false, false, false, false, false, true] _ _ _ _ _ _ (ih3 (z4_6 ||| ((1 : Int32) <<< ((f1 0 (z5_6).toInt.toNat) &&& 31))) m16 v1 f1 hv1 hf1 hw1 (by omega) (by omega) (by omega) (by omega) (by omega) (by omega) (by omega) (by omega))
        · skip
          refine And.intro (fun c17 => ?_) (fun c17 => ?_)
          · skip
            refine hC.1 2 75 _ _ rfl _ _ _ _ _ ?_
            refine Exists.intro _ (And.intro md_o ?_)
            intro m18 em_81
            try have e18 : m18.toInt = 161 * (x1).toInt := by rw [em_81]; exact pm_mulk _ _ 161 (by omega) (by omega) (by omega)
            intro m19 em_83
            try have e19 : m19.toInt = (m18).toInt + (x2).toInt := by rw [em_83]; exact pm_add _ _ (by omega) (by omega)
            refine Exists.intro _ (Exists.intro _ (And.intro (md_a_worth D) (And.intro (by omega) ?_)))
            rw [md_s_worth D]
            obtain ⟨f20, ef20⟩ : ∃ z9, z9 = va_up f1 18 (upd (f1 18) (m19).toInt.toNat m12) := ⟨_, rfl⟩
            rw [← ef20]
            have hf20 : md_F f20 := by rw [ef20]; exact md_F_st hf1 18 _ _ (md_rng _ _ (by decide))
            have hw20 : f20 2 = f 2 := (show f20 2 = f1 2 by rw [ef20]; rfl).trans hw1
            refine Exists.intro _ (And.intro md_o ?_)
            intro m21 em_93
            try have e21 : m21.toInt = 161 * (x1).toInt := by rw [em_93]; exact pm_mulk _ _ 161 (by omega) (by omega) (by omega)
            intro m22 em_95
            try have e22 : m22.toInt = (m21).toInt + (x2).toInt := by rw [em_95]; exact pm_add _ _ (by omega) (by omega)
            refine Exists.intro _ (Exists.intro _ (And.intro (md_a_ends0 D) (And.intro (by omega) ?_)))
            rw [md_s_ends0 D]
            obtain ⟨f23, ef23⟩ : ∃ z9, z9 = va_up f20 19 (upd (f20 19) (m22).toInt.toNat z5_6) := ⟨_, rfl⟩
            rw [← ef23]
            have hf23 : md_F f23 := by rw [ef23]; exact md_F_st hf20 19 _ _ (by show (0 : Int) ≤ _ ∧ _ ≤ (159 : Int); omega)
            have hw23 : f23 2 = f 2 := (show f23 2 = f20 2 by rw [ef23]; rfl).trans hw20
            refine hC.1 3 99 _ _ rfl _ _ _ _ _ ?_
            intro m24 em_99
            try have e24 : m24.toInt = (z5_6).toInt + (1) := by rw [em_99]; exact pm_addc _ _ (1) rfl (by omega) (by omega)
            exact hC.2 [false, false, false, false, false, false, true] _ _ _ _ _ _ (ih3 (z4_6 ||| ((1 : Int32) <<< ((f1 0 (z5_6).toInt.toNat) &&& 31))) m24 v1 f23 hv1 hf23 hw23 (by omega) (by omega) (by omega) (by omega) (by omega) (by omega) (by omega) (by omega))
          · skip
            refine hC.1 3 99 _ _ rfl _ _ _ _ _ ?_
            intro m25 em_99
            try have e25 : m25.toInt = (z5_6).toInt + (1) := by rw [em_99]; exact pm_addc _ _ (1) rfl (by omega) (by omega)
            exact hC.2 [false, false, false, false, false, false, true] _ _ _ _ _ _ (ih3 (z4_6 ||| ((1 : Int32) <<< ((f1 0 (z5_6).toInt.toNat) &&& 31))) m25 v1 f1 hv1 hf1 hw1 (by omega) (by omega) (by omega) (by omega) (by omega) (by omega) (by omega) (by omega))
  exact lp2 (200 - x2.toInt).toNat.succ (0 : Int32) x2 v f hv hf rfl (by omega) (by omega) (by omega) (by omega) (by omega) (by omega) (by omega) (by omega)

set_option maxRecDepth 100000 in
set_option maxHeartbeats 2000000 in
theorem c_X11_layBest (D : md_D h q) (v : Nat → Int32) (f : Nat → Nat → Int32) (hv : md_V v) (hf : md_F f) (x1 : Int32) (p0 : 0 ≤ x1.toInt ∧ x1.toInt ≤ 8) : pm_Mt l g 273 2 0 0 [.ref h, .int x1] (md A0 g h q v f) (md_Qv A0 g h q f (fun v2 f2 => (v2 0).toInt = (v 0).toInt ∧ (v2 1).toInt = (v 1).toInt ∧ (v2 2).toInt = (v 2).toInt ∧ (v2 3).toInt = (v 3).toInt ∧ (v2 4).toInt = (v 4).toInt ∧ (v2 6).toInt = (v 6).toInt)) := by
  refine mt_X11_layBest rfl (fun J hC => ?_)
  have hv9 := hv
  unfold md_V at hv9
  have rg_x1 := pm_rng x1
  refine hC.1 0 0 _ _ rfl _ _ _ _ _ ?_
  have k161 : (161 : Int32).toInt = 161 := rfl
  have k0 : (0 : Int32).toInt = 0 := rfl
  have lp2 : ∀ (n : Nat) (z3_6 : Int32) (v1 : Nat → Int32) (f1 : Nat → Nat → Int32), md_V v1 → md_F f1 → f1 2 = f 2 → (0 ≤ z3_6.toInt ∧ z3_6.toInt ≤ 9) → (v1 0).toInt = (v 0).toInt → (v1 1).toInt = (v 1).toInt → (v1 2).toInt = (v 2).toInt → (v1 3).toInt = (v 3).toInt → (v1 4).toInt = (v 4).toInt → (v1 6).toInt = (v 6).toInt → 200 - z3_6.toInt < (n : Int) → J 6 [some (.ref h), some (.int x1), some (.int (161 : Int32)), some (.int z3_6), none] [] (md A0 g h q v1 f1) 0 0 := by
    intro n
    induction n with
    | zero =>
      intro z3_6 v1 f1 hv1 hf1 hw1 j0_6 j1_6 j2_6 j3_6 j4_6 j5_6 j6_6 j7_6
      omega
    | succ n ih3 =>
      intro z3_6 v1 f1 hv1 hf1 hw1 j0_6 j1_6 j2_6 j3_6 j4_6 j5_6 j6_6 j7_6
      refine hC.1 1 6 _ _ rfl _ _ _ _ _ ?_
      have hu4 := hv1
      unfold md_V at hu4
      refine And.intro (fun c5 => ?_) (fun c5 => ?_)
      · skip
        refine hC.1 7 85 _ _ rfl _ _ _ _ _ ?_
        exact ⟨rfl, rfl, v1, f1, rfl, rfl, hv1, hf1, hw1, by first | trivial | omega | (dsimp only; omega)⟩
      · skip
        refine Exists.intro _ (And.intro md_o ?_)
        have lp7 : ∀ (n : Nat) (z4_17 : Int32) (v6 : Nat → Int32) (f6 : Nat → Nat → Int32), md_V v6 → md_F f6 → f6 2 = f 2 → (-1 ≤ z4_17.toInt ∧ z4_17.toInt ≤ (v 0).toInt) → (v6 0).toInt = (v 0).toInt → (v6 1).toInt = (v 1).toInt → (v6 2).toInt = (v 2).toInt → (v6 3).toInt = (v 3).toInt → (v6 4).toInt = (v 4).toInt → (v6 6).toInt = (v 6).toInt → z4_17.toInt + 1 < (n : Int) → J 17 [some (.ref h), some (.int x1), some (.int (161 : Int32)), some (.int z3_6), some (.int z4_17)] [] (md A0 g h q v6 f6) 0 0 := by
          intro n
          induction n with
          | zero =>
            intro z4_17 v6 f6 hv6 hf6 hw6 j0_17 j1_17 j2_17 j3_17 j4_17 j5_17 j6_17 j7_17
            omega
          | succ n ih8 =>
            intro z4_17 v6 f6 hv6 hf6 hw6 j0_17 j1_17 j2_17 j3_17 j4_17 j5_17 j6_17 j7_17
            refine hC.1 2 17 _ _ rfl _ _ _ _ _ ?_
            have hu9 := hv6
            unfold md_V at hu9
            refine And.intro (fun c10 => ?_) (fun c10 => ?_)
            · skip
              refine hC.1 6 79 _ _ rfl _ _ _ _ _ ?_
              have k1 : (1 : Int32).toInt = 1 := rfl
              intro m11 em_79
              try have e11 : m11.toInt = (z3_6).toInt + (1) := by rw [em_79]; exact pm_addc _ _ (1) rfl (by omega) (by omega)
              exact hC.2 [false, false, false, false, true] _ _ _ _ _ _ (ih3 m11 v6 f6 hv6 hf6 hw6 (by omega) (by omega) (by omega) (by omega) (by omega) (by omega) (by omega) (by omega))
            · skip
              refine Exists.intro _ (And.intro md_o ?_)
              intro m12 em_28
              try have e12 : m12.toInt = 161 * (z3_6).toInt := by rw [em_28]; exact pm_mulk _ _ 161 rfl (by omega) (by omega)
              intro m13 em_31
              try have e13 : m13.toInt = (m12).toInt + (z4_17).toInt := by rw [em_31]; exact pm_add _ _ (by omega) (by omega)
              refine And.intro (fun c14 => ?_) (fun c14 => ?_)
              · skip
                have dc14 := pm_neI c14
                refine hC.1 3 49 _ _ rfl _ _ _ _ _ ?_
                have km268435456 : (-268435456 : Int32).toInt = -268435456 := rfl
                refine hC.1 4 51 _ _ rfl _ _ _ _ _ ?_
                refine Exists.intro _ (Exists.intro _ (And.intro (md_a_worth D) (And.intro (by omega) ?_)))
                rw [md_s_worth D]
                obtain ⟨f15, ef15⟩ : ∃ z9, z9 = va_up f6 18 (upd (f6 18) (m13).toInt.toNat (-268435456 : Int32)) := ⟨_, rfl⟩
                rw [← ef15]
                have hf15 : md_F f15 := by rw [ef15]; exact md_F_st hf6 18 _ _ (md_rng _ _ (by decide))
                have hw15 : f15 2 = f 2 := (show f15 2 = f6 2 by rw [ef15]; rfl).trans hw6
                refine And.intro (fun c16 => ?_) (fun c16 => ?_)
                · skip
                  refine hC.1 5 73 _ _ rfl _ _ _ _ _ ?_
                  have km1 : (-1 : Int32).toInt = -1 := rfl
                  intro m17 em_73
                  try have e17 : m17.toInt = (z4_17).toInt + (-1) := by rw [em_73]; exact pm_addc _ _ (-1) rfl (by omega) (by omega)
                  exact ih8 m17 v6 f15 hv6 hf15 hw15 (by omega) (by omega) (by omega) (by omega) (by omega) (by omega) (by omega) (by omega)
                · skip
                  refine Exists.intro _ (And.intro md_o ?_)
                  refine And.intro (fun c18 => ?_) (fun c18 => ?_)
                  · skip
                    refine hC.1 5 73 _ _ rfl _ _ _ _ _ ?_
                    have km1 : (-1 : Int32).toInt = -1 := rfl
                    intro m19 em_73
                    try have e19 : m19.toInt = (z4_17).toInt + (-1) := by rw [em_73]; exact pm_addc _ _ (-1) rfl (by omega) (by omega)
                    exact ih8 m19 v6 f15 hv6 hf15 hw15 (by omega) (by omega) (by omega) (by omega) (by omega) (by omega) (by omega) (by omega)
                  · skip
                    refine And.intro (Exists.intro _ md_o) (Exists.intro _ (Exists.intro _ (Exists.intro _ (Exists.intro _ (And.intro (c_X11_layPart D v6 f15 hv6 hf15 z3_6 z4_17 (161 : Int32) (by omega) (by omega) (by omega)) (And.intro rfl (fun r9 A9 h9 => ?_)))))))
                    obtain ⟨v21, f21, rfl, rfl, hv21, hf21, hx21, by20⟩ := h9
                    have hw21 : f21 2 = f 2 := hx21.trans hw15
                    have hu22 := hv21
                    unfold md_V at hu22
                    refine hC.1 5 73 _ _ rfl _ _ _ _ _ ?_
                    have km1 : (-1 : Int32).toInt = -1 := rfl
                    intro m23 em_73
                    try have e23 : m23.toInt = (z4_17).toInt + (-1) := by rw [em_73]; exact pm_addc _ _ (-1) rfl (by omega) (by omega)
                    exact ih8 m23 v21 f21 hv21 hf21 hw21 (by omega) (by omega) (by omega) (by omega) (by omega) (by omega) (by omega) (by omega)
              · skip
                have dc14 : (z3_6).toInt = (0 : Int32).toInt := congrArg Int32.toInt c14
                refine Exists.intro _ (And.intro md_o ?_)
                refine And.intro (fun c24 => ?_) (fun c24 => ?_)
                · skip
                  have dc24 := pm_neI c24
                  refine hC.1 3 49 _ _ rfl _ _ _ _ _ ?_
                  have km268435456 : (-268435456 : Int32).toInt = -268435456 := rfl
                  refine hC.1 4 51 _ _ rfl _ _ _ _ _ ?_
                  refine Exists.intro _ (Exists.intro _ (And.intro (md_a_worth D) (And.intro (by omega) ?_)))
                  rw [md_s_worth D]
                  obtain ⟨f25, ef25⟩ : ∃ z9, z9 = va_up f6 18 (upd (f6 18) (m13).toInt.toNat (-268435456 : Int32)) := ⟨_, rfl⟩
                  rw [← ef25]
                  have hf25 : md_F f25 := by rw [ef25]; exact md_F_st hf6 18 _ _ (md_rng _ _ (by decide))
                  have hw25 : f25 2 = f 2 := (show f25 2 = f6 2 by rw [ef25]; rfl).trans hw6
                  refine And.intro (fun c26 => ?_) (fun c26 => ?_)
                  · skip
                    refine hC.1 5 73 _ _ rfl _ _ _ _ _ ?_
                    have km1 : (-1 : Int32).toInt = -1 := rfl
                    intro m27 em_73
                    try have e27 : m27.toInt = (z4_17).toInt + (-1) := by rw [em_73]; exact pm_addc _ _ (-1) rfl (by omega) (by omega)
                    exact ih8 m27 v6 f25 hv6 hf25 hw25 (by omega) (by omega) (by omega) (by omega) (by omega) (by omega) (by omega) (by omega)
                  · skip
                    refine Exists.intro _ (And.intro md_o ?_)
                    refine And.intro (fun c28 => ?_) (fun c28 => ?_)
                    · skip
                      refine hC.1 5 73 _ _ rfl _ _ _ _ _ ?_
                      have km1 : (-1 : Int32).toInt = -1 := rfl
                      intro m29 em_73
                      try have e29 : m29.toInt = (z4_17).toInt + (-1) := by rw [em_73]; exact pm_addc _ _ (-1) rfl (by omega) (by omega)
                      exact ih8 m29 v6 f25 hv6 hf25 hw25 (by omega) (by omega) (by omega) (by omega) (by omega) (by omega) (by omega) (by omega)
                    · skip
                      refine And.intro (Exists.intro _ md_o) (Exists.intro _ (Exists.intro _ (Exists.intro _ (Exists.intro _ (And.intro (c_X11_layPart D v6 f25 hv6 hf25 z3_6 z4_17 (161 : Int32) (by omega) (by omega) (by omega)) (And.intro rfl (fun r9 A9 h9 => ?_)))))))
                      obtain ⟨v31, f31, rfl, rfl, hv31, hf31, hx31, by30⟩ := h9
                      have hw31 : f31 2 = f 2 := hx31.trans hw25
                      have hu32 := hv31
                      unfold md_V at hu32
                      refine hC.1 5 73 _ _ rfl _ _ _ _ _ ?_
                      have km1 : (-1 : Int32).toInt = -1 := rfl
                      intro m33 em_73
                      try have e33 : m33.toInt = (z4_17).toInt + (-1) := by rw [em_73]; exact pm_addc _ _ (-1) rfl (by omega) (by omega)
                      exact ih8 m33 v31 f31 hv31 hf31 hw31 (by omega) (by omega) (by omega) (by omega) (by omega) (by omega) (by omega) (by omega)
                · skip
                  have dc24 : (z4_17).toInt = ((v6 0) : Int32).toInt := congrArg Int32.toInt c24
                  refine hC.1 4 51 _ _ rfl _ _ _ _ _ ?_
                  refine Exists.intro _ (Exists.intro _ (And.intro (md_a_worth D) (And.intro (by omega) ?_)))
                  rw [md_s_worth D]
                  obtain ⟨f34, ef34⟩ : ∃ z9, z9 = va_up f6 18 (upd (f6 18) (m13).toInt.toNat (0 : Int32)) := ⟨_, rfl⟩
                  rw [← ef34]
                  have hf34 : md_F f34 := by rw [ef34]; exact md_F_st hf6 18 _ _ (md_rng _ _ (by decide))
                  have hw34 : f34 2 = f 2 := (show f34 2 = f6 2 by rw [ef34]; rfl).trans hw6
                  refine And.intro (fun c35 => ?_) (fun c35 => ?_)
                  · skip
                    refine hC.1 5 73 _ _ rfl _ _ _ _ _ ?_
                    have km1 : (-1 : Int32).toInt = -1 := rfl
                    intro m36 em_73
                    try have e36 : m36.toInt = (z4_17).toInt + (-1) := by rw [em_73]; exact pm_addc _ _ (-1) rfl (by omega) (by omega)
                    exact ih8 m36 v6 f34 hv6 hf34 hw34 (by omega) (by omega) (by omega) (by omega) (by omega) (by omega) (by omega) (by omega)
                  · skip
                    refine Exists.intro _ (And.intro md_o ?_)
                    refine And.intro (fun c37 => ?_) (fun c37 => ?_)
                    · skip
                      refine hC.1 5 73 _ _ rfl _ _ _ _ _ ?_
                      have km1 : (-1 : Int32).toInt = -1 := rfl
                      intro m38 em_73
                      try have e38 : m38.toInt = (z4_17).toInt + (-1) := by rw [em_73]; exact pm_addc _ _ (-1) rfl (by omega) (by omega)
                      exact ih8 m38 v6 f34 hv6 hf34 hw34 (by omega) (by omega) (by omega) (by omega) (by omega) (by omega) (by omega) (by omega)
                    · skip
                      refine And.intro (Exists.intro _ md_o) (Exists.intro _ (Exists.intro _ (Exists.intro _ (Exists.intro _ (And.intro (c_X11_layPart D v6 f34 hv6 hf34 z3_6 z4_17 (161 : Int32) (by omega) (by omega) (by omega)) (And.intro rfl (fun r9 A9 h9 => ?_)))))))
                      obtain ⟨v40, f40, rfl, rfl, hv40, hf40, hx40, by39⟩ := h9
                      have hw40 : f40 2 = f 2 := hx40.trans hw34
                      have hu41 := hv40
                      unfold md_V at hu41
                      refine hC.1 5 73 _ _ rfl _ _ _ _ _ ?_
                      have km1 : (-1 : Int32).toInt = -1 := rfl
                      intro m42 em_73
                      try have e42 : m42.toInt = (z4_17).toInt + (-1) := by rw [em_73]; exact pm_addc _ _ (-1) rfl (by omega) (by omega)
                      exact ih8 m42 v40 f40 hv40 hf40 hw40 (by omega) (by omega) (by omega) (by omega) (by omega) (by omega) (by omega) (by omega)
        exact lp7 ((v1 0).toInt + 1).toNat.succ (v1 0) v1 f1 hv1 hf1 hw1 (by omega) (by omega) (by omega) (by omega) (by omega) (by omega) (by omega) (by omega)
  exact lp2 (200 - (0 : Int32).toInt).toNat.succ (0 : Int32) v f hv hf rfl (by omega) (by omega) (by omega) (by omega) (by omega) (by omega) (by omega) (by omega)

end
