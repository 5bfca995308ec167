section
variable {l : Launch} {g : pm_G} {A0 : pm_H} {h : Nat} {q : Nat → Nat}
set_option maxRecDepth 100000 in
set_option maxHeartbeats 2000000 in
theorem c_X11_matched (D : md_D h q) (v : Nat → Int32) (f : Nat → Nat → Int32) (hv : md_V v) (hf : md_F f) (x1 : Int32) (x2 : Int32) (x3 : Int32) (p0 : 0 ≤ x1.toInt ∧ x1.toInt ≤ 160) (p1 : 0 ≤ x2.toInt ∧ x2.toInt ≤ 160) (p2 : x3.toInt ≤ 160) : pm_Mt l g 269 0 0 0 [.ref h, .int x1, .int x2, .int x3] (md A0 g h q v f) (md_Qp (md A0 g h q v f) (fun r => True)) := by
  refine mt_X11_matched rfl (fun J hC => ?_)
  have hv9 := hv
  unfold md_V at hv9
  have rg_x1 := pm_rng x1
  have rg_x2 := pm_rng x2
  have rg_x3 := pm_rng x3
  refine hC.1 0 0 _ _ rfl _ _ _ _ _ ?_
  have k0 : (0 : Int32).toInt = 0 := rfl
  have lp1 : ∀ (n : Nat) (z4_3 : Int32), (0 ≤ z4_3.toInt ∧ z4_3.toInt ≤ 160) → 200 - z4_3.toInt < (n : Int) → J 3 [some (.ref h), some (.int x1), some (.int x2), some (.int x3), some (.int z4_3)] [] (md A0 g h q v f) 0 0 := by
    intro n
    induction n with
    | zero =>
      intro z4_3 j0_3 j1_3
      omega
    | succ n ih2 =>
      intro z4_3 j0_3 j1_3
      refine hC.1 1 3 _ _ rfl _ _ _ _ _ ?_
      refine And.intro (fun c3 => ?_) (fun c3 => ?_)
      · skip
        refine hC.1 6 94 _ _ rfl _ _ _ _ _ ?_
        exact ⟨rfl, fun e9 => absurd e9 (by decide), rfl, z4_3, rfl, rfl, by exact True.intro⟩
      · skip
        intro m4 em_12
        try have e4 : m4.toInt = (x1).toInt + (z4_3).toInt := by rw [em_12]; exact pm_add _ _ (by omega) (by omega)
        refine Exists.intro _ (And.intro md_o ?_)
        refine And.intro (fun c5 => ?_) (fun c5 => ?_)
        · skip
          refine hC.1 6 94 _ _ rfl _ _ _ _ _ ?_
          exact ⟨rfl, fun e9 => absurd e9 (by decide), rfl, z4_3, rfl, rfl, by exact True.intro⟩
        · skip
          intro m6 em_23
          try have e6 : m6.toInt = (x2).toInt + (z4_3).toInt := by rw [em_23]; exact pm_add _ _ (by omega) (by omega)
          refine Exists.intro _ (And.intro md_o ?_)
          refine And.intro (fun c7 => ?_) (fun c7 => ?_)
          · skip
            refine hC.1 6 94 _ _ rfl _ _ _ _ _ ?_
            exact ⟨rfl, fun e9 => absurd e9 (by decide), rfl, z4_3, rfl, rfl, by exact True.intro⟩
          · skip
            refine Exists.intro _ (And.intro md_o ?_)
            intro m8 em_38
            try have e8 : m8.toInt = (x1).toInt + (z4_3).toInt := by rw [em_38]; exact pm_add _ _ (by omega) (by omega)
            refine Exists.intro _ (Exists.intro _ (And.intro (Or.inl (md_a_gaps D)) (And.intro (by omega) ?_)))
            refine And.intro (fun c9 => ?_) (fun c9 => ?_)
            · skip
              refine hC.1 2 49 _ _ rfl _ _ _ _ _ ?_
              refine Exists.intro _ (And.intro md_o ?_)
              intro m10 em_56
              try have e10 : m10.toInt = (x1).toInt + (z4_3).toInt := by rw [em_56]; exact pm_add _ _ (by omega) (by omega)
              refine Exists.intro _ (Exists.intro _ (And.intro (Or.inl (md_a_gaps D)) (And.intro (by omega) ?_)))
              refine hC.1 3 58 _ _ rfl _ _ _ _ _ ?_
              refine Exists.intro _ (And.intro md_o ?_)
              intro m11 em_65
              try have e11 : m11.toInt = (x2).toInt + (z4_3).toInt := by rw [em_65]; exact pm_add _ _ (by omega) (by omega)
              refine Exists.intro _ (Exists.intro _ (And.intro (Or.inl (md_a_gaps D)) (And.intro (by omega) ?_)))
              refine And.intro (fun c12 => ?_) (fun c12 => ?_)
              · skip
                refine hC.1 4 76 _ _ rfl _ _ _ _ _ ?_
                refine Exists.intro _ (And.intro md_o ?_)
                intro m13 em_83
                try have e13 : m13.toInt = (x2).toInt + (z4_3).toInt := by rw [em_83]; exact pm_add _ _ (by omega) (by omega)
                refine Exists.intro _ (Exists.intro _ (And.intro (Or.inl (md_a_gaps D)) (And.intro (by omega) ?_)))
                refine hC.1 5 85 _ _ rfl _ _ _ _ _ ?_
                refine And.intro (fun c14 => ?_) (fun c14 => ?_)
                · skip
                  have dc14 := pm_neI c14
                  refine hC.1 6 94 _ _ rfl _ _ _ _ _ ?_
                  exact ⟨rfl, fun e9 => absurd e9 (by decide), rfl, z4_3, rfl, rfl, by exact True.intro⟩
                · skip
                  have dc14 : ((f 17 (m10).toInt.toNat)).toInt = ((f 17 (m13).toInt.toNat) : Int32).toInt := congrArg Int32.toInt c14
                  have k1 : (1 : Int32).toInt = 1 := rfl
                  intro m15 em_88
                  try have e15 : m15.toInt = (z4_3).toInt + (1) := by rw [em_88]; exact pm_addc _ _ (1) rfl (by omega) (by omega)
                  exact ih2 m15 (by omega) (by omega)
              · skip
                refine hC.1 5 85 _ _ rfl _ _ _ _ _ ?_
                refine And.intro (fun c16 => ?_) (fun c16 => ?_)
                · skip
                  have dc16 := pm_neI c16
                  refine hC.1 6 94 _ _ rfl _ _ _ _ _ ?_
                  exact ⟨rfl, fun e9 => absurd e9 (by decide), rfl, z4_3, rfl, rfl, by exact True.intro⟩
                · skip
                  have dc16 : ((f 17 (m10).toInt.toNat)).toInt = ((0 : Int32) : Int32).toInt := congrArg Int32.toInt c16
                  have k1 : (1 : Int32).toInt = 1 := rfl
                  intro m17 em_88
                  try have e17 : m17.toInt = (z4_3).toInt + (1) := by rw [em_88]; exact pm_addc _ _ (1) rfl (by omega) (by omega)
                  exact ih2 m17 (by omega) (by omega)
            · skip
              refine hC.1 3 58 _ _ rfl _ _ _ _ _ ?_
              refine Exists.intro _ (And.intro md_o ?_)
              intro m18 em_65
              try have e18 : m18.toInt = (x2).toInt + (z4_3).toInt := by rw [em_65]; exact pm_add _ _ (by omega) (by omega)
              refine Exists.intro _ (Exists.intro _ (And.intro (Or.inl (md_a_gaps D)) (And.intro (by omega) ?_)))
              refine And.intro (fun c19 => ?_) (fun c19 => ?_)
              · skip
                refine hC.1 4 76 _ _ rfl _ _ _ _ _ ?_
                refine Exists.intro _ (And.intro md_o ?_)
                intro m20 em_83
                try have e20 : m20.toInt = (x2).toInt + (z4_3).toInt := by rw [em_83]; exact pm_add _ _ (by omega) (by omega)
                refine Exists.intro _ (Exists.intro _ (And.intro (Or.inl (md_a_gaps D)) (And.intro (by omega) ?_)))
                refine hC.1 5 85 _ _ rfl _ _ _ _ _ ?_
                refine And.intro (fun c21 => ?_) (fun c21 => ?_)
                · skip
                  have dc21 := pm_neI c21
                  refine hC.1 6 94 _ _ rfl _ _ _ _ _ ?_
                  exact ⟨rfl, fun e9 => absurd e9 (by decide), rfl, z4_3, rfl, rfl, by exact True.intro⟩
                · skip
                  have dc21 : ((0 : Int32)).toInt = ((f 17 (m20).toInt.toNat) : Int32).toInt := congrArg Int32.toInt c21
                  have k1 : (1 : Int32).toInt = 1 := rfl
                  intro m22 em_88
                  try have e22 : m22.toInt = (z4_3).toInt + (1) := by rw [em_88]; exact pm_addc _ _ (1) rfl (by omega) (by omega)
                  exact ih2 m22 (by omega) (by omega)
              · skip
                refine hC.1 5 85 _ _ rfl _ _ _ _ _ ?_
                refine And.intro (fun c9 => absurd c9 (by decide)) (fun _ => ?_)
                have k1 : (1 : Int32).toInt = 1 := rfl
                intro m23 em_88
                try have e23 : m23.toInt = (z4_3).toInt + (1) := by rw [em_88]; exact pm_addc _ _ (1) rfl (by omega) (by omega)
                exact ih2 m23 (by omega) (by omega)
  exact lp1 (200 - (0 : Int32).toInt).toNat.succ (0 : Int32) (by omega) (by omega)

end
