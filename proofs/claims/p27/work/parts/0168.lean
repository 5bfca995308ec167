section
variable {l : Launch} {g : pm_G} {A0 : pm_H} {h : Nat} {q : Nat → Nat}
set_option maxRecDepth 100000 in
set_option maxHeartbeats 2000000 in
theorem c_X11_longest (D : md_D h q) (v : Nat → Int32) (f : Nat → Nat → Int32) (hv : md_V v) (hf : md_F f) (x1 : Int32) (x2 : Int32)  : pm_Mt l g 252 2 0 0 [.ref h, .int x1, .int x2] (md A0 g h q v f) (md_Qp (md A0 g h q v f) (fun r => True)) := by
  refine mt_X11_longest rfl (fun J hC => ?_)
  have hv9 := hv
  unfold md_V at hv9
  have rg_x1 := pm_rng x1
  have rg_x2 := pm_rng x2
  refine hC.1 0 0 _ _ rfl _ _ _ _ _ ?_
  have k1 : (1 : Int32).toInt = 1 := rfl
  refine And.intro (fun c1 => ?_) (fun c1 => ?_)
  · skip
    refine hC.1 1 21 _ _ rfl _ _ _ _ _ ?_
    have km1 : (-1 : Int32).toInt = -1 := rfl
    exact ⟨rfl, fun e9 => absurd e9 (by decide), rfl, (-1 : Int32), rfl, rfl, by exact True.intro⟩
  · skip
    refine Exists.intro _ (And.intro md_o ?_)
    refine And.intro (fun c2 => ?_) (fun c2 => ?_)
    · skip
      have dc2 : ((v 0)).toInt = (0 : Int32).toInt := congrArg Int32.toInt c2
      have k0 : (0 : Int32).toInt = 0 := rfl
      refine hC.1 1 21 _ _ rfl _ _ _ _ _ ?_
      have km1 : (-1 : Int32).toInt = -1 := rfl
      exact ⟨rfl, fun e9 => absurd e9 (by decide), rfl, (-1 : Int32), rfl, rfl, by exact True.intro⟩
    · skip
      have dc2 := pm_neI c2
      have k0 : (0 : Int32).toInt = 0 := rfl
      refine Exists.intro _ (Exists.intro _ (Exists.intro _ (Exists.intro _ (And.intro (c_X11_isIn (md A0 g h q v f) x2 (0 : Int32) (1 : Int32) ) (And.intro rfl (fun r9 A9 h9 => ?_))))))
      rcases h9 with ⟨y3, rfl, rfl, ⟨rfl, by3⟩ | ⟨rfl, by3⟩⟩
      · skip
        refine And.intro (fun _ => ?_) (fun c9 => absurd c9 (by decide))
        refine hC.1 2 23 _ _ rfl _ _ _ _ _ ?_
        have km1 : (-1 : Int32).toInt = -1 := rfl
        have lp4 : ∀ (n : Nat) (z3_31 : Int32) (z4_31 : Int32) (z5_31 : Int32), (0 ≤ z5_31.toInt ∧ z5_31.toInt ≤ (v 0).toInt) → 200 - z5_31.toInt < (n : Int) → J 31 [some (.ref h), some (.int x1), some (.int x2), some (.int z3_31), some (.int z4_31), some (.int z5_31), none] [] (md A0 g h q v f) 0 0 := by
          intro n
          induction n with
          | zero =>
            intro z3_31 z4_31 z5_31 j0_31 j1_31
            omega
          | succ n ih5 =>
            intro z3_31 z4_31 z5_31 j0_31 j1_31
            refine hC.1 3 31 _ _ rfl _ _ _ _ _ ?_
            refine Exists.intro _ (And.intro md_o ?_)
            refine And.intro (fun c6 => ?_) (fun c6 => ?_)
            · skip
              refine hC.1 6 77 _ _ rfl _ _ _ _ _ ?_
              refine And.intro (fun c7 => ?_) (fun c7 => ?_)
              · skip
                have dc7 := pm_neI c7
                refine hC.1 7 85 _ _ rfl _ _ _ _ _ ?_
                refine hC.1 8 87 _ _ rfl _ _ _ _ _ ?_
                exact ⟨rfl, fun e9 => absurd e9 (by decide), rfl, z4_31, rfl, rfl, by exact True.intro⟩
              · skip
                have dc7 : (x2).toInt = (0 : Int32).toInt := congrArg Int32.toInt c7
                refine hC.1 8 87 _ _ rfl _ _ _ _ _ ?_
                exact ⟨rfl, fun e9 => absurd e9 (by decide), rfl, z3_31, rfl, rfl, by exact True.intro⟩
            · skip
              refine And.intro (Exists.intro _ md_o) (Exists.intro _ (Exists.intro _ (Exists.intro _ (Exists.intro _ (And.intro (c_X11_farthest D v f hv hf z5_31 x1 (by omega)) (And.intro rfl (fun r9 A9 h9 => ?_)))))))
              obtain ⟨y8, rfl, rfl, by8⟩ := h9
              intro m9 em_53
              try have e9 : m9.toInt = (y8).toInt - (z5_31).toInt := by rw [em_53]; exact pm_sub _ _ (by omega) (by omega)
              intro m10 em_57
              try have e10 : m10.toInt = (z4_31).toInt - (z3_31).toInt := by rw [em_57]; exact pm_sub _ _ (by omega) (by omega)
              refine And.intro (fun c11 => ?_) (fun c11 => ?_)
              · skip
                refine hC.1 4 64 _ _ rfl _ _ _ _ _ ?_
                refine hC.1 5 71 _ _ rfl _ _ _ _ _ ?_
                intro m12 em_71
                try have e12 : m12.toInt = (z5_31).toInt + (1) := by rw [em_71]; exact pm_addc _ _ (1) rfl (by omega) (by omega)
                exact hC.2 [false, false, false, false, false, false, true] _ _ _ _ _ _ (ih5 z5_31 y8 m12 (by omega) (by omega))
              · skip
                refine hC.1 5 71 _ _ rfl _ _ _ _ _ ?_
                intro m13 em_71
                try have e13 : m13.toInt = (z5_31).toInt + (1) := by rw [em_71]; exact pm_addc _ _ (1) rfl (by omega) (by omega)
                exact hC.2 [false, false, false, false, false, false, true] _ _ _ _ _ _ (ih5 z3_31 z4_31 m13 (by omega) (by omega))
        exact lp4 (200 - (0 : Int32).toInt).toNat.succ (0 : Int32) (-1 : Int32) (0 : Int32) (by omega) (by omega)
      · skip
        refine And.intro (fun c9 => absurd c9 (by decide)) (fun _ => ?_)
        refine hC.1 1 21 _ _ rfl _ _ _ _ _ ?_
        have km1 : (-1 : Int32).toInt = -1 := rfl
        exact ⟨rfl, fun e9 => absurd e9 (by decide), rfl, (-1 : Int32), rfl, rfl, by exact True.intro⟩

end
