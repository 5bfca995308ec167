section
variable {l : Launch} {g : pm_G} {A0 : pm_H} {h : Nat} {q : Nat → Nat}
set_option maxRecDepth 100000 in
set_option maxHeartbeats 2000000 in
theorem c_X11_wasPlace (D : md_D h q) (v : Nat → Int32) (f : Nat → Nat → Int32) (hv : md_V v) (hf : md_F f) (x1 : Int32) (x2 : Int32) (p0 : 0 ≤ x1.toInt) : pm_Mt l g 236 1 0 0 [.ref h, .int x1, .int x2] (md A0 g h q v f) (md_Qp (md A0 g h q v f) (fun r => -1 ≤ r.toInt ∧ r.toInt < 160)) := by
  refine mt_X11_wasPlace rfl (fun J hC => ?_)
  have hv9 := hv
  unfold md_V at hv9
  have rg_x1 := pm_rng x1
  have rg_x2 := pm_rng x2
  refine hC.1 0 0 _ _ rfl _ _ _ _ _ ?_
  have k0 : (0 : Int32).toInt = 0 := rfl
  have lp1 : ∀ (n : Nat) (z3_2 : Int32), (0 ≤ z3_2.toInt ∧ z3_2.toInt ≤ 160) → 200 - z3_2.toInt < (n : Int) → J 2 [some (.ref h), some (.int x1), some (.int x2), some (.int z3_2)] [] (md A0 g h q v f) 0 0 := by
    intro n
    induction n with
    | zero =>
      intro z3_2 j0_2 j1_2
      omega
    | succ n ih2 =>
      intro z3_2 j0_2 j1_2
      refine hC.1 1 2 _ _ rfl _ _ _ _ _ ?_
      refine Exists.intro _ (And.intro md_o ?_)
      have k40 : (40 : Int32).toInt = 40 := rfl
      refine And.intro (by decide) ?_
      intro m3 em_10
      try have e3 := pm_rem x1 (40 : Int32) (by omega) (by omega)
      try rw [← em_10] at e3
      refine Exists.intro _ (Exists.intro _ (And.intro (Or.inl (md_a_wasMany D)) (And.intro (by omega) ?_)))
      have w4 : (0 : Int) ≤ (f 14 (m3).toInt.toNat).toInt ∧ (f 14 (m3).toInt.toNat).toInt ≤ (160 : Int) := hf 14 _
      refine And.intro (fun c5 => ?_) (fun c5 => ?_)
      · skip
        refine hC.1 3 33 _ _ rfl _ _ _ _ _ ?_
        have km1 : (-1 : Int32).toInt = -1 := rfl
        exact ⟨rfl, fun e9 => absurd e9 (by decide), rfl, (-1 : Int32), rfl, rfl, by first | omega | (dsimp only; omega) | trivial⟩
      · skip
        refine And.intro (Exists.intro _ md_o) (Exists.intro _ (Exists.intro _ (Exists.intro _ (Exists.intro _ (And.intro (c_X11_wasName D v f hv hf x1 z3_2 (by omega) (by omega)) (And.intro rfl (fun r9 A9 h9 => ?_)))))))
        obtain ⟨y6, rfl, rfl, by6⟩ := h9
        refine And.intro (fun c7 => ?_) (fun c7 => ?_)
        · skip
          have dc7 := pm_neI c7
          refine hC.1 2 27 _ _ rfl _ _ _ _ _ ?_
          have k1 : (1 : Int32).toInt = 1 := rfl
          intro m8 em_27
          try have e8 : m8.toInt = (z3_2).toInt + (1) := by rw [em_27]; exact pm_addc _ _ (1) rfl (by omega) (by omega)
          exact ih2 m8 (by omega) (by omega)
        · skip
          have dc7 : (y6).toInt = (x2 : Int32).toInt := congrArg Int32.toInt c7
          exact ⟨rfl, fun e9 => absurd e9 (by decide), rfl, z3_2, rfl, rfl, by first | omega | (dsimp only; omega) | trivial⟩
  exact lp1 (200 - (0 : Int32).toInt).toNat.succ (0 : Int32) (by omega) (by omega)

end
