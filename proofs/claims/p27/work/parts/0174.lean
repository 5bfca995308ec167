section
variable {l : Launch} {g : pm_G} {A0 : pm_H} {h : Nat} {q : Nat → Nat}
set_option maxRecDepth 100000 in
set_option maxHeartbeats 2000000 in
theorem c_X11_goner (D : md_D h q) (v : Nat → Int32) (f : Nat → Nat → Int32) (hv : md_V v) (hf : md_F f) (x1 : Int32) (x2 : Int32) (p0 : 0 ≤ x1.toInt ∧ x1.toInt ≤ 160) (p1 : goB (v 7) (f 0) x1.toInt) : pm_Mt l g 260 1 0 0 [.ref h, .int x1, .int x2] (md A0 g h q v f) (md_Qp (md A0 g h q v f) (fun r => True)) := by
  refine mt_X11_goner rfl (fun J hC => ?_)
  have hv9 := hv
  unfold md_V at hv9
  have rg_x1 := pm_rng x1
  have rg_x2 := pm_rng x2
  refine hC.1 0 0 _ _ rfl _ _ _ _ _ ?_
  have km1 : (-1 : Int32).toInt = -1 := rfl
  have k0 : (0 : Int32).toInt = 0 := rfl
  have lp1 : ∀ (n : Nat) (z3_8 : Int32) (z4_8 : Int32) (z5_8 : Int32), (0 ≤ z5_8.toInt ∧ z5_8.toInt ≤ 24) → 200 - z5_8.toInt < (n : Int) → J 8 [some (.ref h), some (.int x1), some (.int x2), some (.int z3_8), some (.int z4_8), some (.int z5_8), none] [] (md A0 g h q v f) 0 0 := by
    intro n
    induction n with
    | zero =>
      intro z3_8 z4_8 z5_8 j0_8 j1_8
      omega
    | succ n ih2 =>
      intro z3_8 z4_8 z5_8 j0_8 j1_8
      refine hC.1 1 8 _ _ rfl _ _ _ _ _ ?_
      have k24 : (24 : Int32).toInt = 24 := rfl
      refine And.intro (fun c3 => ?_) (fun c3 => ?_)
      · skip
        refine hC.1 7 78 _ _ rfl _ _ _ _ _ ?_
        exact ⟨rfl, fun e9 => absurd e9 (by decide), rfl, z3_8, rfl, rfl, by exact True.intro⟩
      · skip
        refine Exists.intro _ (And.intro md_o ?_)
        have k1 : (1 : Int32).toInt = 1 := rfl
        refine And.intro (fun c4 => ?_) (fun c4 => ?_)
        · skip
          have dc4 := pm_neI c4
          refine hC.1 2 30 _ _ rfl _ _ _ _ _ ?_
          refine And.intro (fun c5 => ?_) (fun c5 => ?_)
          · skip
            have dc5 := pm_neI c5
            refine hC.1 3 46 _ _ rfl _ _ _ _ _ ?_
            refine And.intro (Exists.intro _ md_o) (Exists.intro _ (Exists.intro _ (Exists.intro _ (Exists.intro _ (And.intro (c_X11_nextBehind D v f hv hf z5_8 x1 (by omega)) (And.intro rfl (fun r9 A9 h9 => ?_)))))))
            obtain ⟨y6, rfl, rfl, by6⟩ := h9
            refine hC.1 4 53 _ _ rfl _ _ _ _ _ ?_
            refine And.intro (fun c7 => ?_) (fun c7 => ?_)
            · skip
              refine hC.1 5 65 _ _ rfl _ _ _ _ _ ?_
              refine hC.1 6 72 _ _ rfl _ _ _ _ _ ?_
              intro m8 em_72
              try have e8 : m8.toInt = (z5_8).toInt + (1) := by rw [em_72]; exact pm_addc _ _ (1) rfl (by omega) (by omega)
              exact hC.2 [false, false, false, false, false, false, true] _ _ _ _ _ _ (ih2 z5_8 y6 m8 (by omega) (by omega))
            · skip
              refine hC.1 6 72 _ _ rfl _ _ _ _ _ ?_
              intro m9 em_72
              try have e9 : m9.toInt = (z5_8).toInt + (1) := by rw [em_72]; exact pm_addc _ _ (1) rfl (by omega) (by omega)
              exact hC.2 [false, false, false, false, false, false, true] _ _ _ _ _ _ (ih2 z3_8 z4_8 m9 (by omega) (by omega))
          · skip
            have dc5 : (x2).toInt = (0 : Int32).toInt := congrArg Int32.toInt c5
            refine And.intro (Exists.intro _ md_o) (Exists.intro _ (Exists.intro _ (Exists.intro _ (Exists.intro _ (And.intro (c_X11_lastAhead D v f hv hf z5_8 x1 (by exact p1 _ (by omega) (by assumption)) (by omega)) (And.intro rfl (fun r9 A9 h9 => ?_)))))))
            obtain ⟨y10, rfl, rfl, by10⟩ := h9
            intro m11 em_42
            try have e11 : m11.toInt = (x1).toInt - (y10).toInt := by rw [em_42]; exact pm_sub _ _ (by omega) (by omega)
            refine hC.1 4 53 _ _ rfl _ _ _ _ _ ?_
            refine And.intro (fun c12 => ?_) (fun c12 => ?_)
            · skip
              refine hC.1 5 65 _ _ rfl _ _ _ _ _ ?_
              refine hC.1 6 72 _ _ rfl _ _ _ _ _ ?_
              intro m13 em_72
              try have e13 : m13.toInt = (z5_8).toInt + (1) := by rw [em_72]; exact pm_addc _ _ (1) rfl (by omega) (by omega)
              exact hC.2 [false, false, false, false, false, false, true] _ _ _ _ _ _ (ih2 z5_8 m11 m13 (by omega) (by omega))
            · skip
              refine hC.1 6 72 _ _ rfl _ _ _ _ _ ?_
              intro m14 em_72
              try have e14 : m14.toInt = (z5_8).toInt + (1) := by rw [em_72]; exact pm_addc _ _ (1) rfl (by omega) (by omega)
              exact hC.2 [false, false, false, false, false, false, true] _ _ _ _ _ _ (ih2 z3_8 z4_8 m14 (by omega) (by omega))
        · skip
          have dc4 : ((((v 7) >>> (z5_8 &&& 31)) &&& (1 : Int32))).toInt = (0 : Int32).toInt := congrArg Int32.toInt c4
          refine hC.1 6 72 _ _ rfl _ _ _ _ _ ?_
          intro m15 em_72
          try have e15 : m15.toInt = (z5_8).toInt + (1) := by rw [em_72]; exact pm_addc _ _ (1) rfl (by omega) (by omega)
          exact ih2 z3_8 z4_8 m15 (by omega) (by omega)
  exact lp1 (200 - (0 : Int32).toInt).toNat.succ (-1 : Int32) (-1 : Int32) (0 : Int32) (by omega) (by omega)

end
