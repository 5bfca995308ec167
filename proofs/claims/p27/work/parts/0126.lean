section
variable {l : Launch} {g : pm_G} {A0 : pm_H} {h : Nat} {q : Nat → Nat}
set_option maxRecDepth 100000 in
set_option maxHeartbeats 2000000 in
theorem c_X11_place (D : md_D h q) (v : Nat → Int32) (f : Nat → Nat → Int32) (hv : md_V v) (hf : md_F f) (x1 : Int32)  : pm_Mt l g 197 1 0 0 [.ref h, .int x1] (md A0 g h q v f) (md_Qp (md A0 g h q v f) (fun r => -1 ≤ r.toInt ∧ r.toInt < (v 0).toInt)) := by
  refine mt_X11_place rfl (fun J hC => ?_)
  have hv9 := hv
  unfold md_V at hv9
  have rg_x1 := pm_rng x1
  refine hC.1 0 0 _ _ rfl _ _ _ _ _ ?_
  refine And.intro (fun c1 => ?_) (fun c1 => ?_)
  · skip
    refine hC.1 1 8 _ _ rfl _ _ _ _ _ ?_
    refine And.intro (Exists.intro _ md_o) (Exists.intro _ (Exists.intro _ (Exists.intro _ (Exists.intro _ (And.intro (c_X11_placeOf D v f hv hf x1 ) (And.intro rfl (fun r9 A9 h9 => ?_)))))))
    obtain ⟨y2, rfl, rfl, by2⟩ := h9
    refine hC.1 2 13 _ _ rfl _ _ _ _ _ ?_
    exact ⟨rfl, fun e9 => absurd e9 (by decide), rfl, y2, rfl, rfl, by first | omega | (dsimp only; omega) | trivial⟩
  · skip
    have km1 : (-1 : Int32).toInt = -1 := rfl
    refine hC.1 2 13 _ _ rfl _ _ _ _ _ ?_
    exact ⟨rfl, fun e9 => absurd e9 (by decide), rfl, (-1 : Int32), rfl, rfl, by first | omega | (dsimp only; omega) | trivial⟩

set_option maxRecDepth 100000 in
set_option maxHeartbeats 2000000 in
theorem c_X11_first (D : md_D h q) (v : Nat → Int32) (f : Nat → Nat → Int32) (hv : md_V v) (hf : md_F f) (x1 : Int32)  : pm_Mt l g 201 0 0 0 [.ref h, .int x1] (md A0 g h q v f) (md_Qp (md A0 g h q v f) (fun r => True)) := by
  refine mt_X11_first rfl (fun J hC => ?_)
  have hv9 := hv
  unfold md_V at hv9
  have rg_x1 := pm_rng x1
  refine hC.1 0 0 _ _ rfl _ _ _ _ _ ?_
  have k0 : (0 : Int32).toInt = 0 := rfl
  have lp1 : ∀ (n : Nat) (z2_2 : Int32), (0 ≤ z2_2.toInt ∧ z2_2.toInt ≤ (v 0).toInt) → 200 - z2_2.toInt < (n : Int) → J 2 [some (.ref h), some (.int x1), some (.int z2_2)] [] (md A0 g h q v f) 0 0 := by
    intro n
    induction n with
    | zero =>
      intro z2_2 j0_2 j1_2
      omega
    | succ n ih2 =>
      intro z2_2 j0_2 j1_2
      refine hC.1 1 2 _ _ rfl _ _ _ _ _ ?_
      refine Exists.intro _ (And.intro md_o ?_)
      refine And.intro (fun c3 => ?_) (fun c3 => ?_)
      · skip
        refine hC.1 3 28 _ _ rfl _ _ _ _ _ ?_
        have km1 : (-1 : Int32).toInt = -1 := rfl
        exact ⟨rfl, fun e9 => absurd e9 (by decide), rfl, (-1 : Int32), rfl, rfl, by exact True.intro⟩
      · skip
        refine Exists.intro _ (And.intro md_o ?_)
        refine Exists.intro _ (Exists.intro _ (And.intro (Or.inl (md_a_colours D)) (And.intro (by omega) ?_)))
        have w4 : (0 : Int) ≤ (f 0 (z2_2).toInt.toNat).toInt ∧ (f 0 (z2_2).toInt.toNat).toInt ≤ (23 : Int) := hf 0 _
        refine And.intro (fun c5 => ?_) (fun c5 => ?_)
        · skip
          have dc5 := pm_neI c5
          refine hC.1 2 22 _ _ rfl _ _ _ _ _ ?_
          have k1 : (1 : Int32).toInt = 1 := rfl
          intro m6 em_22
          try have e6 : m6.toInt = (z2_2).toInt + (1) := by rw [em_22]; exact pm_addc _ _ (1) rfl (by omega) (by omega)
          exact ih2 m6 (by omega) (by omega)
        · skip
          have dc5 : ((f 0 (z2_2).toInt.toNat)).toInt = (x1 : Int32).toInt := congrArg Int32.toInt c5
          exact ⟨rfl, fun e9 => absurd e9 (by decide), rfl, z2_2, rfl, rfl, by exact True.intro⟩
  exact lp1 (200 - (0 : Int32).toInt).toNat.succ (0 : Int32) (by omega) (by omega)

set_option maxRecDepth 100000 in
set_option maxHeartbeats 2000000 in
theorem c_X11_last (D : md_D h q) (v : Nat → Int32) (f : Nat → Nat → Int32) (hv : md_V v) (hf : md_F f) (x1 : Int32)  : pm_Mt l g 202 0 0 0 [.ref h, .int x1] (md A0 g h q v f) (md_Qp (md A0 g h q v f) (fun r => True)) := by
  refine mt_X11_last rfl (fun J hC => ?_)
  have hv9 := hv
  unfold md_V at hv9
  have rg_x1 := pm_rng x1
  refine hC.1 0 0 _ _ rfl _ _ _ _ _ ?_
  refine Exists.intro _ (And.intro md_o ?_)
  have k1 : (1 : Int32).toInt = 1 := rfl
  intro m1 em_5
  try have e1 : m1.toInt = ((v 0)).toInt - (1) := by rw [em_5]; exact pm_subc _ _ (1) rfl (by omega) (by omega)
  have lp2 : ∀ (n : Nat) (z2_7 : Int32), (-1 ≤ z2_7.toInt ∧ z2_7.toInt < (v 0).toInt) → z2_7.toInt + 1 < (n : Int) → J 7 [some (.ref h), some (.int x1), some (.int z2_7)] [] (md A0 g h q v f) 0 0 := by
    intro n
    induction n with
    | zero =>
      intro z2_7 j0_7 j1_7
      omega
    | succ n ih3 =>
      intro z2_7 j0_7 j1_7
      refine hC.1 1 7 _ _ rfl _ _ _ _ _ ?_
      refine And.intro (fun c4 => ?_) (fun c4 => ?_)
      · skip
        refine hC.1 3 29 _ _ rfl _ _ _ _ _ ?_
        have km1 : (-1 : Int32).toInt = -1 := rfl
        exact ⟨rfl, fun e9 => absurd e9 (by decide), rfl, (-1 : Int32), rfl, rfl, by exact True.intro⟩
      · skip
        refine Exists.intro _ (And.intro md_o ?_)
        refine Exists.intro _ (Exists.intro _ (And.intro (Or.inl (md_a_colours D)) (And.intro (by omega) ?_)))
        have w5 : (0 : Int) ≤ (f 0 (z2_7).toInt.toNat).toInt ∧ (f 0 (z2_7).toInt.toNat).toInt ≤ (23 : Int) := hf 0 _
        refine And.intro (fun c6 => ?_) (fun c6 => ?_)
        · skip
          have dc6 := pm_neI c6
          refine hC.1 2 23 _ _ rfl _ _ _ _ _ ?_
          have km1 : (-1 : Int32).toInt = -1 := rfl
          intro m7 em_23
          try have e7 : m7.toInt = (z2_7).toInt + (-1) := by rw [em_23]; exact pm_addc _ _ (-1) rfl (by omega) (by omega)
          exact ih3 m7 (by omega) (by omega)
        · skip
          have dc6 : ((f 0 (z2_7).toInt.toNat)).toInt = (x1 : Int32).toInt := congrArg Int32.toInt c6
          exact ⟨rfl, fun e9 => absurd e9 (by decide), rfl, z2_7, rfl, rfl, by exact True.intro⟩
  exact lp2 (m1.toInt + 1).toNat.succ m1 (by omega) (by omega)

end
