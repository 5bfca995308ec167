section
variable {l : Launch} {g : pm_G} {A0 : pm_H} {h : Nat} {q : Nat → Nat}
set_option maxRecDepth 100000 in
set_option maxHeartbeats 2000000 in
theorem c_X11_reported (D : md_D h q) (v : Nat → Int32) (f : Nat → Nat → Int32) (hv : md_V v) (hf : md_F f) (x1 : Int32) (x2 : Int32) (x3 : Int32) (p0 : 0 ≤ x1.toInt ∧ x1.toInt ≤ x2.toInt ∧ x2.toInt < (v 0).toInt) (p1 : 0 ≤ x3.toInt ∧ x3.toInt ≤ 24) : pm_Mt l g 218 2 0 0 [.ref h, .int x1, .int x2, .int x3] (md A0 g h q v f) (md_Qp (md A0 g h q v f) (fun r => -1 ≤ r.toInt ∧ r.toInt < (v 0).toInt)) := by
  refine mt_X11_reported rfl (fun J hC => ?_)
  have hv9 := hv
  unfold md_V at hv9
  have rg_x1 := pm_rng x1
  have rg_x2 := pm_rng x2
  have rg_x3 := pm_rng x3
  refine hC.1 0 0 _ _ rfl _ _ _ _ _ ?_
  have km268435456 : (-268435456 : Int32).toInt = -268435456 := rfl
  have km1 : (-1 : Int32).toInt = -1 := rfl
  have k0 : (0 : Int32).toInt = 0 := rfl
  have lp1 : ∀ (n : Nat) (z4_10 : Int32) (z5_10 : Int32) (z6_10 : Int32), (0 ≤ z6_10.toInt ∧ z6_10.toInt ≤ 26) → (-1 ≤ z5_10.toInt ∧ z5_10.toInt < (v 0).toInt) → 100 - z6_10.toInt < (n : Int) → J 10 [some (.ref h), some (.int x1), some (.int x2), some (.int x3), some (.int z4_10), some (.int z5_10), some (.int z6_10), none, none] [] (md A0 g h q v f) 0 0 := by
    intro n
    induction n with
    | zero =>
      intro z4_10 z5_10 z6_10 j0_10 j1_10 j2_10
      omega
    | succ n ih2 =>
      intro z4_10 z5_10 z6_10 j0_10 j1_10 j2_10
      refine hC.1 1 10 _ _ rfl _ _ _ _ _ ?_
      refine And.intro (fun c3 => ?_) (fun c3 => ?_)
      · skip
        refine hC.1 7 104 _ _ rfl _ _ _ _ _ ?_
        exact ⟨rfl, fun e9 => absurd e9 (by decide), rfl, z5_10, rfl, rfl, by first | omega | (dsimp only; omega) | trivial⟩
      · skip
        have lp4 : ∀ (n : Nat) (z7_22 : Int32) (z8_22 : Int32), (x1.toInt ≤ z8_22.toInt ∧ z8_22.toInt ≤ x2.toInt + 1) → (-1 ≤ z7_22.toInt ∧ z7_22.toInt ≤ x2.toInt) → 200 - z8_22.toInt < (n : Int) → J 22 [some (.ref h), some (.int x1), some (.int x2), some (.int x3), some (.int z4_10), some (.int z5_10), some (.int z6_10), some (.int z7_22), some (.int z8_22)] [] (md A0 g h q v f) 0 0 := by
          intro n
          induction n with
          | zero =>
            intro z7_22 z8_22 j0_22 j1_22 j2_22
            omega
          | succ n ih5 =>
            intro z7_22 z8_22 j0_22 j1_22 j2_22
            refine hC.1 2 22 _ _ rfl _ _ _ _ _ ?_
            refine And.intro (fun c6 => ?_) (fun c6 => ?_)
            · skip
              refine hC.1 5 79 _ _ rfl _ _ _ _ _ ?_
              refine And.intro (fun c7 => ?_) (fun c7 => ?_)
              · skip
                refine hC.1 6 86 _ _ rfl _ _ _ _ _ ?_
                refine And.intro (Exists.intro _ md_o) (Exists.intro _ (Exists.intro _ (Exists.intro _ (Exists.intro _ (And.intro (c_X11_reportKey D v f hv hf z7_22 (by omega)) (And.intro rfl (fun r9 A9 h9 => ?_)))))))
                obtain ⟨y8, rfl, rfl, by8⟩ := h9
                have k1 : (1 : Int32).toInt = 1 := rfl
                intro m9 em_98
                try have e9 : m9.toInt = (z6_10).toInt + (1) := by rw [em_98]; exact pm_addc _ _ (1) rfl (by omega) (by omega)
                exact hC.2 [false, false, false, false, false, false, false, true, true] _ _ _ _ _ _ (ih2 y8 z7_22 m9 (by omega) (by omega) (by omega))
              · skip
                exact ⟨rfl, fun e9 => absurd e9 (by decide), rfl, (-1 : Int32), rfl, rfl, by first | omega | (dsimp only; omega) | trivial⟩
            · skip
              refine And.intro (Exists.intro _ md_o) (Exists.intro _ (Exists.intro _ (Exists.intro _ (Exists.intro _ (And.intro (c_X11_ahead D v f hv hf z8_22 (by omega)) (And.intro rfl (fun r9 A9 h9 => ?_)))))))
              obtain ⟨y10, rfl, rfl, by10⟩ := h9
              refine And.intro (fun c11 => ?_) (fun c11 => ?_)
              · skip
                refine hC.1 4 73 _ _ rfl _ _ _ _ _ ?_
                have k1 : (1 : Int32).toInt = 1 := rfl
                intro m12 em_73
                try have e12 : m12.toInt = (z8_22).toInt + (1) := by rw [em_73]; exact pm_addc _ _ (1) rfl (by omega) (by omega)
                exact ih5 z7_22 m12 (by omega) (by omega) (by omega)
              · skip
                refine And.intro (Exists.intro _ md_o) (Exists.intro _ (Exists.intro _ (Exists.intro _ (Exists.intro _ (And.intro (c_X11_reportKey D v f hv hf z8_22 (by omega)) (And.intro rfl (fun r9 A9 h9 => ?_)))))))
                obtain ⟨y13, rfl, rfl, by13⟩ := h9
                refine And.intro (fun c14 => ?_) (fun c14 => ?_)
                · skip
                  refine hC.1 4 73 _ _ rfl _ _ _ _ _ ?_
                  have k1 : (1 : Int32).toInt = 1 := rfl
                  intro m15 em_73
                  try have e15 : m15.toInt = (z8_22).toInt + (1) := by rw [em_73]; exact pm_addc _ _ (1) rfl (by omega) (by omega)
                  exact ih5 z7_22 m15 (by omega) (by omega) (by omega)
                · skip
                  refine And.intro (fun c16 => ?_) (fun c16 => ?_)
                  · skip
                    refine hC.1 3 69 _ _ rfl _ _ _ _ _ ?_
                    refine hC.1 4 73 _ _ rfl _ _ _ _ _ ?_
                    have k1 : (1 : Int32).toInt = 1 := rfl
                    intro m17 em_73
                    try have e17 : m17.toInt = (z8_22).toInt + (1) := by rw [em_73]; exact pm_addc _ _ (1) rfl (by omega) (by omega)
                    exact ih5 z8_22 m17 (by omega) (by omega) (by omega)
                  · skip
                    refine And.intro (Exists.intro _ md_o) (Exists.intro _ (Exists.intro _ (Exists.intro _ (Exists.intro _ (And.intro (c_X11_reportKey D v f hv hf z8_22 (by omega)) (And.intro rfl (fun r9 A9 h9 => ?_)))))))
                    obtain ⟨y18, rfl, rfl, by18⟩ := h9
                    refine And.intro (Exists.intro _ md_o) (Exists.intro _ (Exists.intro _ (Exists.intro _ (Exists.intro _ (And.intro (c_X11_reportKey D v f hv hf z7_22 (by omega)) (And.intro rfl (fun r9 A9 h9 => ?_)))))))
                    obtain ⟨y19, rfl, rfl, by19⟩ := h9
                    refine And.intro (fun c20 => ?_) (fun c20 => ?_)
                    · skip
                      refine hC.1 4 73 _ _ rfl _ _ _ _ _ ?_
                      have k1 : (1 : Int32).toInt = 1 := rfl
                      intro m21 em_73
                      try have e21 : m21.toInt = (z8_22).toInt + (1) := by rw [em_73]; exact pm_addc _ _ (1) rfl (by omega) (by omega)
                      exact ih5 z7_22 m21 (by omega) (by omega) (by omega)
                    · skip
                      refine hC.1 3 69 _ _ rfl _ _ _ _ _ ?_
                      refine hC.1 4 73 _ _ rfl _ _ _ _ _ ?_
                      have k1 : (1 : Int32).toInt = 1 := rfl
                      intro m22 em_73
                      try have e22 : m22.toInt = (z8_22).toInt + (1) := by rw [em_73]; exact pm_addc _ _ (1) rfl (by omega) (by omega)
                      exact ih5 z8_22 m22 (by omega) (by omega) (by omega)
        exact lp4 (200 - x1.toInt).toNat.succ (-1 : Int32) x1 (by omega) (by omega) (by omega)
  exact lp1 (100 - (0 : Int32).toInt).toNat.succ (-268435456 : Int32) (-1 : Int32) (0 : Int32) (by omega) (by omega) (by omega)

end
