section
variable {l : Launch} {g : pm_G} {A0 : pm_H} {h : Nat} {q : Nat → Nat}
set_option maxRecDepth 100000 in
set_option maxHeartbeats 2000000 in
theorem c_X11_just (D : md_D h q) (v : Nat → Int32) (f : Nat → Nat → Int32) (hv : md_V v) (hf : md_F f) (x1 : Int32)  : pm_Mt l g 264 1 0 0 [.ref h, .int x1] (md A0 g h q v f) (md_Qp (md A0 g h q v f) (fun r => True)) := by
  refine mt_X11_just rfl (fun J hC => ?_)
  have hv9 := hv
  unfold md_V at hv9
  have rg_x1 := pm_rng x1
  refine hC.1 0 0 _ _ rfl _ _ _ _ _ ?_
  have k0 : (0 : Int32).toInt = 0 := rfl
  have lp1 : ∀ (n : Nat) (z2_4 : Int32) (z3_4 : Int32), (0 ≤ z3_4.toInt ∧ z3_4.toInt ≤ (v 0).toInt) → 200 - z3_4.toInt < (n : Int) → J 4 [some (.ref h), some (.int x1), some (.int z2_4), some (.int z3_4), none, none] [] (md A0 g h q v f) 0 0 := by
    intro n
    induction n with
    | zero =>
      intro z2_4 z3_4 j0_4 j1_4
      omega
    | succ n ih2 =>
      intro z2_4 z3_4 j0_4 j1_4
      refine hC.1 1 4 _ _ rfl _ _ _ _ _ ?_
      refine Exists.intro _ (And.intro md_o ?_)
      refine And.intro (fun c3 => ?_) (fun c3 => ?_)
      · skip
        refine hC.1 6 70 _ _ rfl _ _ _ _ _ ?_
        exact ⟨rfl, fun e9 => absurd e9 (by decide), rfl, z2_4, rfl, rfl, by exact True.intro⟩
      · skip
        have lp4 : ∀ (n : Nat) (z2_18 : Int32) (z4_18 : Int32) (z5_18 : Int32), (0 ≤ z5_18.toInt ∧ z5_18.toInt ≤ (v 0).toInt) → 200 - z5_18.toInt < (n : Int) → J 18 [some (.ref h), some (.int x1), some (.int z2_18), some (.int z3_4), some (.int z4_18), some (.int z5_18)] [] (md A0 g h q v f) 0 0 := by
          intro n
          induction n with
          | zero =>
            intro z2_18 z4_18 z5_18 j0_18 j1_18
            omega
          | succ n ih5 =>
            intro z2_18 z4_18 z5_18 j0_18 j1_18
            refine hC.1 2 18 _ _ rfl _ _ _ _ _ ?_
            refine Exists.intro _ (And.intro md_o ?_)
            refine And.intro (fun c6 => ?_) (fun c6 => ?_)
            · skip
              refine hC.1 5 64 _ _ rfl _ _ _ _ _ ?_
              have k1 : (1 : Int32).toInt = 1 := rfl
              intro m7 em_64
              try have e7 : m7.toInt = (z3_4).toInt + (1) := by rw [em_64]; exact pm_addc _ _ (1) rfl (by omega) (by omega)
              exact hC.2 [false, false, false, false, true, true] _ _ _ _ _ _ (ih2 z2_18 m7 (by omega) (by omega))
            · skip
              have k1 : (1 : Int32).toInt = 1 := rfl
              refine Exists.intro _ (And.intro md_o ?_)
              refine Exists.intro _ (Exists.intro _ (And.intro (Or.inl (md_a_colours D)) (And.intro (by omega) ?_)))
              have w8 : (0 : Int) ≤ (f 0 (z5_18).toInt.toNat).toInt ∧ (f 0 (z5_18).toInt.toNat).toInt ≤ (23 : Int) := hf 0 _
              refine Exists.intro _ (Exists.intro _ (Exists.intro _ (Exists.intro _ (And.intro (c_X11_bits (md A0 g h q v f) (z4_18 ||| ((1 : Int32) <<< ((f 0 (z5_18).toInt.toNat) &&& 31))) ) (And.intro rfl (fun r9 A9 h9 => ?_))))))
              obtain ⟨y9, rfl, rfl, by9⟩ := h9
              refine And.intro (fun c10 => ?_) (fun c10 => ?_)
              · skip
                have dc10 := pm_neI c10
                refine hC.1 3 55 _ _ rfl _ _ _ _ _ ?_
                refine hC.1 4 56 _ _ rfl _ _ _ _ _ ?_
                intro m11 em_56
                try have e11 : m11.toInt = (z2_18).toInt + (0) := by rw [em_56]; exact pm_addc _ _ (0) rfl (by omega) (by omega)
                intro m12 em_58
                try have e12 : m12.toInt = (z5_18).toInt + (1) := by rw [em_58]; exact pm_addc _ _ (1) rfl (by omega) (by omega)
                exact ih5 m11 (z4_18 ||| ((1 : Int32) <<< ((f 0 (z5_18).toInt.toNat) &&& 31))) m12 (by omega) (by omega)
              · skip
                have dc10 : (y9).toInt = (x1 : Int32).toInt := congrArg Int32.toInt c10
                refine hC.1 4 56 _ _ rfl _ _ _ _ _ ?_
                intro m13 em_56
                try have e13 : m13.toInt = (z2_18).toInt + (1) := by rw [em_56]; exact pm_addc _ _ (1) rfl (by omega) (by omega)
                intro m14 em_58
                try have e14 : m14.toInt = (z5_18).toInt + (1) := by rw [em_58]; exact pm_addc _ _ (1) rfl (by omega) (by omega)
                exact ih5 m13 (z4_18 ||| ((1 : Int32) <<< ((f 0 (z5_18).toInt.toNat) &&& 31))) m14 (by omega) (by omega)
        exact lp4 (200 - z3_4.toInt).toNat.succ z2_4 (0 : Int32) z3_4 (by omega) (by omega)
  exact lp1 (200 - (0 : Int32).toInt).toNat.succ (0 : Int32) (0 : Int32) (by omega) (by omega)

end
