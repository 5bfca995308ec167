section
variable {l : Launch} {g : pm_G} {A0 : pm_H} {h : Nat} {q : Nat → Nat}
set_option maxRecDepth 100000 in
set_option maxHeartbeats 2000000 in
theorem c_X11_lastAhead (D : md_D h q) (v : Nat → Int32) (f : Nat → Nat → Int32) (hv : md_V v) (hf : md_F f) (x1 : Int32) (x2 : Int32) (p0 : ∃ k9 : Nat, (k9 : Int) < x2.toInt ∧ f 0 k9 = x1) (p1 : x2.toInt ≤ 160) : pm_Mt l g 261 0 0 0 [.ref h, .int x1, .int x2] (md A0 g h q v f) (md_Qp (md A0 g h q v f) (fun r => True)) := by
  refine mt_X11_lastAhead rfl (fun J hC => ?_)
  have hv9 := hv
  unfold md_V at hv9
  have rg_x1 := pm_rng x1
  have rg_x2 := pm_rng x2
  obtain ⟨k8, hk8, he8⟩ := p0
  refine hC.1 0 0 _ _ rfl _ _ _ _ _ ?_
  have k1 : (1 : Int32).toInt = 1 := rfl
  intro m1 em_2
  try have e1 : m1.toInt = (x2).toInt - (1) := by rw [em_2]; exact pm_subc _ _ (1) rfl (by omega) (by omega)
  have lp2 : ∀ (n : Nat) (z3_4 : Int32), (z3_4.toInt < x2.toInt) → (∃ k9 : Nat, (k9 : Int) ≤ z3_4.toInt ∧ f 0 k9 = x1) → z3_4.toInt + 1 < (n : Int) → J 4 [some (.ref h), some (.int x1), some (.int x2), some (.int z3_4)] [] (md A0 g h q v f) 0 0 := by
    intro n
    induction n with
    | zero =>
      intro z3_4 j0_4 j1_4 j2_4
      obtain ⟨k7, hk7, he7⟩ := j1_4; omega
    | succ n ih3 =>
      intro z3_4 j0_4 j1_4 j2_4
      obtain ⟨k7, hk7, he7⟩ := j1_4
      refine hC.1 1 4 _ _ rfl _ _ _ _ _ ?_
      refine Exists.intro _ (And.intro md_o ?_)
      refine Exists.intro _ (Exists.intro _ (And.intro (Or.inl (md_a_colours D)) (And.intro (by omega) ?_)))
      have w4 : (0 : Int) ≤ (f 0 (z3_4).toInt.toNat).toInt ∧ (f 0 (z3_4).toInt.toNat).toInt ≤ (23 : Int) := hf 0 _
      refine And.intro (fun c5 => ?_) (fun c5 => ?_)
      · skip
        have dc5 : ((f 0 (z3_4).toInt.toNat)).toInt = (x1 : Int32).toInt := congrArg Int32.toInt c5
        refine hC.1 2 20 _ _ rfl _ _ _ _ _ ?_
        exact ⟨rfl, fun e9 => absurd e9 (by decide), rfl, z3_4, rfl, rfl, by exact True.intro⟩
      · skip
        have dc5 := pm_neI c5
        have km1 : (-1 : Int32).toInt = -1 := rfl
        intro m6 em_14
        try have e6 : m6.toInt = (z3_4).toInt + (-1) := by rw [em_14]; exact pm_addc _ _ (-1) rfl (by omega) (by omega)
        exact ih3 m6 (by omega) (by have h9 : k7 ≠ z3_4.toInt.toNat := fun e9 => absurd he7 (by rw [e9]; assumption); exact ⟨k7, by omega, he7⟩) (by omega)
  exact lp2 (m1.toInt + 1).toNat.succ m1 (by omega) (by exact ⟨k8, by omega, he8⟩) (by omega)

end
