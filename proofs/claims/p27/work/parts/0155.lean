section
variable {l : Launch} {g : pm_G} {A0 : pm_H} {h : Nat} {q : Nat → Nat}
set_option maxRecDepth 100000 in
set_option maxHeartbeats 2000000 in
theorem c_X11_sides (D : md_D h q) (v : Nat → Int32) (f : Nat → Nat → Int32) (hv : md_V v) (hf : md_F f) (x1 : Int32) (x2 : Int32)  : pm_Mt l g 238 1 0 0 [.ref h, .int x1, .int x2] (md A0 g h q v f) (md_Qp (md A0 g h q v f) (fun r => True)) := by
  refine mt_X11_sides rfl (fun J hC => ?_)
  have hv9 := hv
  unfold md_V at hv9
  have rg_x1 := pm_rng x1
  have rg_x2 := pm_rng x2
  refine hC.1 0 0 _ _ rfl _ _ _ _ _ ?_
  refine And.intro (Exists.intro _ md_o) (Exists.intro _ (Exists.intro _ (Exists.intro _ (Exists.intro _ (And.intro (c_X11_isSpan D v f hv hf x1 x2 ) (And.intro rfl (fun r9 A9 h9 => ?_)))))))
  rcases h9 with ⟨y1, rfl, rfl, ⟨rfl, by1⟩ | ⟨rfl, by1⟩⟩
  · skip
    have k1 : (1 : Int32).toInt = 1 := rfl
    refine And.intro (fun _ => ?_) (fun c9 => absurd c9 (by decide))
    refine hC.1 1 11 _ _ rfl _ _ _ _ _ ?_
    have k0 : (0 : Int32).toInt = 0 := rfl
    intro m2 em_15
    try have e2 : m2.toInt = (x1).toInt + (1) := by rw [em_15]; exact pm_addc _ _ (1) rfl (by omega) (by omega)
    have lp3 : ∀ (n : Nat) (z3_18 : Int32) (z4_18 : Int32), (x1.toInt + 1 ≤ z4_18.toInt ∧ z4_18.toInt ≤ x2.toInt + 1) → 200 - z4_18.toInt < (n : Int) → J 18 [some (.ref h), some (.int x1), some (.int x2), some (.int z3_18), some (.int z4_18)] [] (md A0 g h q v f) 0 0 := by
      intro n
      induction n with
      | zero =>
        intro z3_18 z4_18 j0_18 j1_18
        omega
      | succ n ih4 =>
        intro z3_18 z4_18 j0_18 j1_18
        refine hC.1 2 18 _ _ rfl _ _ _ _ _ ?_
        refine And.intro (fun c5 => ?_) (fun c5 => ?_)
        · skip
          refine hC.1 4 62 _ _ rfl _ _ _ _ _ ?_
          exact ⟨rfl, fun e9 => absurd e9 (by decide), rfl, z3_18, rfl, rfl, by exact True.intro⟩
        · skip
          refine Exists.intro _ (And.intro md_o ?_)
          refine Exists.intro _ (Exists.intro _ (And.intro (Or.inl (md_a_colours D)) (And.intro (by omega) ?_)))
          have w6 : (0 : Int) ≤ (f 0 (z4_18).toInt.toNat).toInt ∧ (f 0 (z4_18).toInt.toNat).toInt ≤ (23 : Int) := hf 0 _
          refine Exists.intro _ (And.intro md_o ?_)
          intro m7 em_38
          try have e7 : m7.toInt = (z4_18).toInt - (1) := by rw [em_38]; exact pm_subc _ _ (1) rfl (by omega) (by omega)
          refine Exists.intro _ (Exists.intro _ (And.intro (Or.inl (md_a_colours D)) (And.intro (by omega) ?_)))
          have w8 : (0 : Int) ≤ (f 0 (m7).toInt.toNat).toInt ∧ (f 0 (m7).toInt.toNat).toInt ≤ (23 : Int) := hf 0 _
          refine And.intro (fun c9 => ?_) (fun c9 => ?_)
          · skip
            have dc9 : ((f 0 (z4_18).toInt.toNat)).toInt = ((f 0 (m7).toInt.toNat) : Int32).toInt := congrArg Int32.toInt c9
            refine hC.1 3 56 _ _ rfl _ _ _ _ _ ?_
            intro m10 em_56
            try have e10 : m10.toInt = (z4_18).toInt + (1) := by rw [em_56]; exact pm_addc _ _ (1) rfl (by omega) (by omega)
            exact ih4 z3_18 m10 (by omega) (by omega)
          · skip
            have dc9 := pm_neI c9
            refine And.intro (Exists.intro _ md_o) (Exists.intro _ (Exists.intro _ (Exists.intro _ (Exists.intro _ (And.intro (c_X11_isNewSide D v f hv hf x1 z4_18 (by omega)) (And.intro rfl (fun r9 A9 h9 => ?_)))))))
            rcases h9 with ⟨y11, rfl, rfl, ⟨rfl, by11⟩ | ⟨rfl, by11⟩⟩
            · skip
              refine And.intro (fun c9 => absurd c9 (by decide)) (fun _ => ?_)
              intro m12 em_53
              try have e12 : m12.toInt = (z3_18).toInt + (1) := by rw [em_53]; exact pm_addc _ _ (1) rfl (by omega) (by omega)
              refine hC.1 3 56 _ _ rfl _ _ _ _ _ ?_
              intro m13 em_56
              try have e13 : m13.toInt = (z4_18).toInt + (1) := by rw [em_56]; exact pm_addc _ _ (1) rfl (by omega) (by omega)
              exact ih4 m12 m13 (by omega) (by omega)
            · skip
              refine And.intro (fun _ => ?_) (fun c9 => absurd c9 (by decide))
              refine hC.1 3 56 _ _ rfl _ _ _ _ _ ?_
              intro m14 em_56
              try have e14 : m14.toInt = (z4_18).toInt + (1) := by rw [em_56]; exact pm_addc _ _ (1) rfl (by omega) (by omega)
              exact ih4 z3_18 m14 (by omega) (by omega)
    exact lp3 (200 - m2.toInt).toNat.succ (0 : Int32) m2 (by omega) (by omega)
  · skip
    have k0 : (0 : Int32).toInt = 0 := rfl
    refine And.intro (fun c9 => absurd c9 (by decide)) (fun _ => ?_)
    have km1 : (-1 : Int32).toInt = -1 := rfl
    exact ⟨rfl, fun e9 => absurd e9 (by decide), rfl, (-1 : Int32), rfl, rfl, by exact True.intro⟩

end
