section
variable {l : Launch} {g : pm_G} {A0 : pm_H} {h : Nat} {q : Nat → Nat}
set_option maxRecDepth 100000 in
set_option maxHeartbeats 2000000 in
theorem F_X11_twin (D : md_D h q) (v : Nat → Int32) (f : Nat → Nat → Int32) (hv : md_V v) (hf : md_F f) (x1 : Int32)  : pm_Mt l g 270 2 0 0 [.ref h, .int x1] (md A0 g h q v f) (md_Qw A0 g h q f (fun r v2 f2 => f2 0 = f 0 ∧ f2 1 = f 1 ∧ (v2 0).toInt = (v 0).toInt ∧ (v2 1).toInt = (v 1).toInt ∧ (v2 2).toInt = (v 2).toInt ∧ (v2 3).toInt = (v 3).toInt ∧ (v2 4).toInt = (v 4).toInt ∧ (v2 6).toInt = (v 6).toInt)) := by
  refine mt_X11_twin rfl (fun J hC => ?_)
  have hv9 := hv
  unfold md_V at hv9
  have rg_x1 := pm_rng x1
  refine hC.1 0 0 _ _ rfl _ _ _ _ _ ?_
  have k0 : (0 : Int32).toInt = 0 := rfl
  have k1 : (1 : Int32).toInt = 1 := rfl
  refine Exists.intro _ (Exists.intro _ (Exists.intro _ (Exists.intro _ (And.intro (c_X11_isIn (md A0 g h q v f) x1 (0 : Int32) (1 : Int32) ) (And.intro rfl (fun r9 A9 h9 => ?_))))))
  rcases h9 with ⟨y1, rfl, rfl, ⟨rfl, by1⟩ | ⟨rfl, by1⟩⟩
  · skip
    refine And.intro (fun _ => ?_) (fun c9 => absurd c9 (by decide))
    refine hC.1 1 11 _ _ rfl _ _ _ _ _ ?_
    refine And.intro (Exists.intro _ md_o) (Exists.intro _ (Exists.intro _ (Exists.intro _ (Exists.intro _ (And.intro (F_X11_layGaps D v f hv hf  ) (And.intro rfl (fun r9 A9 h9 => ?_)))))))
    obtain ⟨v3, f3, rfl, rfl, hv3, hf3, hx3, hg3_0, hg3_1, by2⟩ := h9
    have hw3 : f3 2 = f 2 := hx3.trans rfl
    have hr3_0 : f3 0 = f 0 := hg3_0.trans rfl
    have hr3_1 : f3 1 = f 1 := hg3_1.trans rfl
    have hu4 := hv3
    unfold md_V at hu4
    have km1 : (-1 : Int32).toInt = -1 := rfl
    have lp5 : ∀ (n : Nat) (z2_22 : Int32) (z3_22 : Int32) (z4_22 : Int32), (0 ≤ z4_22.toInt ∧ z4_22.toInt ≤ (v 0).toInt) → 200 - z4_22.toInt < (n : Int) → J 22 [some (.ref h), some (.int x1), some (.int z2_22), some (.int z3_22), some (.int z4_22), none, none] [] (md A0 g h q v3 f3) 0 0 := by
      intro n
      induction n with
      | zero =>
        intro z2_22 z3_22 z4_22 j0_22 j1_22
        omega
      | succ n ih6 =>
        intro z2_22 z3_22 z4_22 j0_22 j1_22
        refine hC.1 2 22 _ _ rfl _ _ _ _ _ ?_
        refine Exists.intro _ (And.intro md_o ?_)
        refine And.intro (fun c7 => ?_) (fun c7 => ?_)
        · skip
          refine hC.1 7 86 _ _ rfl _ _ _ _ _ ?_
          refine And.intro (fun c8 => ?_) (fun c8 => ?_)
          · skip
            refine hC.1 8 94 _ _ rfl _ _ _ _ _ ?_
            refine hC.1 10 99 _ _ rfl _ _ _ _ _ ?_
            exact ⟨rfl, fun e9 => absurd e9 (by decide), rfl, z2_22, v3, f3, rfl, rfl, hv3, hf3, hw3, hr3_0, hr3_1, by first | omega | (dsimp only; omega) | trivial⟩
          · skip
            refine And.intro (fun c9 => ?_) (fun c9 => ?_)
            · skip
              have dc9 := pm_neI c9
              refine hC.1 9 98 _ _ rfl _ _ _ _ _ ?_
              refine hC.1 10 99 _ _ rfl _ _ _ _ _ ?_
              exact ⟨rfl, fun e9 => absurd e9 (by decide), rfl, z3_22, v3, f3, rfl, rfl, hv3, hf3, hw3, hr3_0, hr3_1, by first | omega | (dsimp only; omega) | trivial⟩
            · skip
              have dc9 : (x1).toInt = (0 : Int32).toInt := congrArg Int32.toInt c9
              refine hC.1 8 94 _ _ rfl _ _ _ _ _ ?_
              refine hC.1 10 99 _ _ rfl _ _ _ _ _ ?_
              exact ⟨rfl, fun e9 => absurd e9 (by decide), rfl, z2_22, v3, f3, rfl, rfl, hv3, hf3, hw3, hr3_0, hr3_1, by first | omega | (dsimp only; omega) | trivial⟩
        · skip
          intro m10 em_34
          try have e10 : m10.toInt = (z4_22).toInt + (1) := by rw [em_34]; exact pm_addc _ _ (1) rfl (by omega) (by omega)
          have lp11 : ∀ (n : Nat) (z2_37 : Int32) (z3_37 : Int32) (z5_37 : Int32), (0 ≤ z5_37.toInt ∧ z5_37.toInt ≤ 161) → 200 - z5_37.toInt < (n : Int) → J 37 [some (.ref h), some (.int x1), some (.int z2_37), some (.int z3_37), some (.int z4_22), some (.int z5_37), none] [] (md A0 g h q v3 f3) 0 0 := by
            intro n
            induction n with
            | zero =>
              intro z2_37 z3_37 z5_37 j0_37 j1_37
              omega
            | succ n ih12 =>
              intro z2_37 z3_37 z5_37 j0_37 j1_37
              refine hC.1 3 37 _ _ rfl _ _ _ _ _ ?_
              refine Exists.intro _ (And.intro md_o ?_)
              refine And.intro (fun c13 => ?_) (fun c13 => ?_)
              · skip
                refine hC.1 6 80 _ _ rfl _ _ _ _ _ ?_
                intro m14 em_80
                try have e14 : m14.toInt = (z4_22).toInt + (1) := by rw [em_80]; exact pm_addc _ _ (1) rfl (by omega) (by omega)
                exact hC.2 [false, false, false, false, false, true, false] _ _ _ _ _ _ (ih6 z2_37 z3_37 m14 (by omega) (by omega))
              · skip
                have k160 : (160 : Int32).toInt = 160 := rfl
                refine And.intro (Exists.intro _ md_o) (Exists.intro _ (Exists.intro _ (Exists.intro _ (Exists.intro _ (And.intro (c_X11_matched D v3 f3 hv3 hf3 z4_22 z5_37 (160 : Int32) (by omega) (by omega) (by omega)) (And.intro rfl (fun r9 A9 h9 => ?_)))))))
                obtain ⟨y15, rfl, rfl, by15⟩ := h9
                refine And.intro (fun c16 => ?_) (fun c16 => ?_)
                · skip
                  refine hC.1 4 68 _ _ rfl _ _ _ _ _ ?_
                  refine hC.1 5 74 _ _ rfl _ _ _ _ _ ?_
                  intro m17 em_74
                  try have e17 : m17.toInt = (z5_37).toInt + (1) := by rw [em_74]; exact pm_addc _ _ (1) rfl (by omega) (by omega)
                  exact hC.2 [false, false, false, false, false, false, true] _ _ _ _ _ _ (ih12 z4_22 y15 m17 (by omega) (by omega))
                · skip
                  refine hC.1 5 74 _ _ rfl _ _ _ _ _ ?_
                  intro m18 em_74
                  try have e18 : m18.toInt = (z5_37).toInt + (1) := by rw [em_74]; exact pm_addc _ _ (1) rfl (by omega) (by omega)
                  exact hC.2 [false, false, false, false, false, false, true] _ _ _ _ _ _ (ih12 z2_37 z3_37 m18 (by omega) (by omega))
          exact lp11 (200 - m10.toInt).toNat.succ z2_22 z3_22 m10 (by omega) (by omega)
    exact lp5 (200 - (0 : Int32).toInt).toNat.succ (-1 : Int32) (0 : Int32) (0 : Int32) (by omega) (by omega)
  · skip
    refine And.intro (fun c9 => absurd c9 (by decide)) (fun _ => ?_)
    have km1 : (-1 : Int32).toInt = -1 := rfl
    exact ⟨rfl, fun e9 => absurd e9 (by decide), rfl, (-1 : Int32), v, f, rfl, rfl, hv, hf, rfl, rfl, rfl, by first | omega | (dsimp only; omega) | trivial⟩

end
