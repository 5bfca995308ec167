section
variable {l : Launch} {g : pm_G} {A0 : pm_H} {h : Nat} {q : Nat → Nat}
set_option maxRecDepth 100000 in
set_option maxHeartbeats 2000000 in
theorem F_X11_suffices (D : md_D h q) (v : Nat → Int32) (f : Nat → Nat → Int32) (hv : md_V v) (hf : md_F f) (x1 : Int32) (x2 : Int32)  : pm_Mt l g 263 3 0 0 [.ref h, .int x1, .int x2] (md A0 g h q v f) (md_Qw A0 g h q f (fun r v2 f2 => f2 0 = f 0 ∧ f2 1 = f 1 ∧ (v2 0).toInt = (v 0).toInt ∧ (v2 1).toInt = (v 1).toInt ∧ (v2 2).toInt = (v 2).toInt ∧ (v2 3).toInt = (v 3).toInt ∧ (v2 4).toInt = (v 4).toInt ∧ (v2 6).toInt = (v 6).toInt)) := by
  refine mt_X11_suffices rfl (fun J hC => ?_)
  have hv9 := hv
  unfold md_V at hv9
  have rg_x1 := pm_rng x1
  have rg_x2 := pm_rng x2
  refine hC.1 0 0 _ _ rfl _ _ _ _ _ ?_
  refine And.intro (fun c1 => ?_) (fun c1 => ?_)
  · skip
    refine hC.1 1 13 _ _ rfl _ _ _ _ _ ?_
    have km1 : (-1 : Int32).toInt = -1 := rfl
    exact ⟨rfl, fun e9 => absurd e9 (by decide), rfl, (-1 : Int32), v, f, rfl, rfl, hv, hf, rfl, rfl, rfl, by first | omega | (dsimp only; omega) | trivial⟩
  · skip
    have k0 : (0 : Int32).toInt = 0 := rfl
    have k1 : (1 : Int32).toInt = 1 := rfl
    refine Exists.intro _ (Exists.intro _ (Exists.intro _ (Exists.intro _ (And.intro (c_X11_isIn (md A0 g h q v f) x2 (0 : Int32) (1 : Int32) ) (And.intro rfl (fun r9 A9 h9 => ?_))))))
    rcases h9 with ⟨y2, rfl, rfl, ⟨rfl, by2⟩ | ⟨rfl, by2⟩⟩
    · skip
      refine And.intro (fun _ => ?_) (fun c9 => absurd c9 (by decide))
      refine hC.1 2 15 _ _ rfl _ _ _ _ _ ?_
      have lp4 : ∀ (n : Nat) (z3_17 : Int32) (v3 : Nat → Int32) (f3 : Nat → Nat → Int32), md_V v3 → md_F f3 → f3 2 = f 2 → f3 0 = f 0 → f3 1 = f 1 → (1 ≤ z3_17.toInt ∧ z3_17.toInt ≤ 25) → (v3 0).toInt = (v 0).toInt → (v3 1).toInt = (v 1).toInt → (v3 2).toInt = (v 2).toInt → (v3 3).toInt = (v 3).toInt → (v3 4).toInt = (v 4).toInt → (v3 6).toInt = (v 6).toInt → 200 - z3_17.toInt < (n : Int) → J 17 [some (.ref h), some (.int x1), some (.int x2), some (.int z3_17)] [] (md A0 g h q v3 f3) 0 0 := by
        intro n
        induction n with
        | zero =>
          intro z3_17 v3 f3 hv3 hf3 hw3 hr3_0 hr3_1 j0_17 j1_17 j2_17 j3_17 j4_17 j5_17 j6_17 j7_17
          omega
        | succ n ih5 =>
          intro z3_17 v3 f3 hv3 hf3 hw3 hr3_0 hr3_1 j0_17 j1_17 j2_17 j3_17 j4_17 j5_17 j6_17 j7_17
          refine hC.1 3 17 _ _ rfl _ _ _ _ _ ?_
          have hu6 := hv3
          unfold md_V at hu6
          have k24 : (24 : Int32).toInt = 24 := rfl
          refine And.intro (fun c7 => ?_) (fun c7 => ?_)
          · skip
            refine hC.1 5 47 _ _ rfl _ _ _ _ _ ?_
            have km1 : (-1 : Int32).toInt = -1 := rfl
            exact ⟨rfl, fun e9 => absurd e9 (by decide), rfl, (-1 : Int32), v3, f3, rfl, rfl, hv3, hf3, hw3, hr3_0, hr3_1, by first | omega | (dsimp only; omega) | trivial⟩
          · skip
            refine Exists.intro _ (And.intro md_o ?_)
            intro m8 em_29
            try have e8 : m8.toInt = ((v3 0)).toInt - (1) := by rw [em_29]; exact pm_subc _ _ (1) rfl (by omega) (by omega)
            refine And.intro (Exists.intro _ md_o) (Exists.intro _ (Exists.intro _ (Exists.intro _ (Exists.intro _ (And.intro (F_X11_goOver D v3 f3 hv3 hf3 m8 z3_17 x2 (by omega)) (And.intro rfl (fun r9 A9 h9 => ?_)))))))
            obtain ⟨y9, v10, f10, rfl, rfl, hv10, hf10, hx10, hg10_0, hg10_1, by9⟩ := h9
            have hw10 : f10 2 = f 2 := hx10.trans hw3
            have hr10_0 : f10 0 = f 0 := hg10_0.trans hr3_0
            have hr10_1 : f10 1 = f 1 := hg10_1.trans hr3_1
            have hu11 := hv10
            unfold md_V at hu11
            refine And.intro (fun c12 => ?_) (fun c12 => ?_)
            · skip
              refine hC.1 4 41 _ _ rfl _ _ _ _ _ ?_
              intro m13 em_41
              try have e13 : m13.toInt = (z3_17).toInt + (1) := by rw [em_41]; exact pm_addc _ _ (1) rfl (by omega) (by omega)
              exact ih5 m13 v10 f10 hv10 hf10 hw10 hr10_0 hr10_1 (by omega) (by omega) (by omega) (by omega) (by omega) (by omega) (by omega) (by omega)
            · skip
              exact ⟨rfl, fun e9 => absurd e9 (by decide), rfl, z3_17, v10, f10, rfl, rfl, hv10, hf10, hw10, hr10_0, hr10_1, by first | omega | (dsimp only; omega) | trivial⟩
      exact lp4 (200 - (1 : Int32).toInt).toNat.succ (1 : Int32) v f hv hf rfl rfl rfl (by omega) (by omega) (by omega) (by omega) (by omega) (by omega) (by omega) (by omega)
    · skip
      refine And.intro (fun c9 => absurd c9 (by decide)) (fun _ => ?_)
      refine hC.1 1 13 _ _ rfl _ _ _ _ _ ?_
      have km1 : (-1 : Int32).toInt = -1 := rfl
      exact ⟨rfl, fun e9 => absurd e9 (by decide), rfl, (-1 : Int32), v, f, rfl, rfl, hv, hf, rfl, rfl, rfl, by first | omega | (dsimp only; omega) | trivial⟩

end
