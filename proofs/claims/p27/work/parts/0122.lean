section
variable {l : Launch} {g : pm_G} {A0 : pm_H} {h : Nat} {q : Nat → Nat}
set_option maxRecDepth 100000 in
set_option maxHeartbeats 2000000 in
theorem c_X11_ahead (D : md_D h q) (v : Nat → Int32) (f : Nat → Nat → Int32) (hv : md_V v) (hf : md_F f) (x1 : Int32) (p0 : 0 ≤ x1.toInt ∧ x1.toInt < 160) : pm_Mt l g 174 0 0 0 [.ref h, .int x1] (md A0 g h q v f) (md_Qp (md A0 g h q v f) (fun r => r.toInt = lastEq (f 0) (f 0 x1.toInt.toNat) x1.toInt.toNat)) := by
  refine mt_X11_ahead rfl (fun J hC => ?_)
  have hv9 := hv
  unfold md_V at hv9
  have rg_x1 := pm_rng x1
  refine hC.1 0 0 _ _ rfl _ _ _ _ _ ?_
  have k1 : (1 : Int32).toInt = 1 := rfl
  intro m1 em_2
  try have e1 : m1.toInt = (x1).toInt - (1) := by rw [em_2]; exact pm_subc _ _ (1) rfl (by omega) (by omega)
  have lp2 : ∀ (n : Nat) (z2_4 : Int32), (-1 ≤ z2_4.toInt ∧ z2_4.toInt < x1.toInt) → (lastEq (f 0) (f 0 x1.toInt.toNat) x1.toInt.toNat = lastEq (f 0) (f 0 x1.toInt.toNat) (z2_4.toInt + 1).toNat) → z2_4.toInt + 1 < (n : Int) → J 4 [some (.ref h), some (.int x1), some (.int z2_4)] [] (md A0 g h q v f) 0 0 := by
    intro n
    induction n with
    | zero =>
      intro z2_4 j0_4 j1_4 j2_4
      omega
    | succ n ih3 =>
      intro z2_4 j0_4 j1_4 j2_4
      refine hC.1 1 4 _ _ rfl _ _ _ _ _ ?_
      refine And.intro (fun c4 => ?_) (fun c4 => ?_)
      · skip
        refine hC.1 3 31 _ _ rfl _ _ _ _ _ ?_
        have km1 : (-1 : Int32).toInt = -1 := rfl
        exact ⟨rfl, fun e9 => absurd e9 (by decide), rfl, (-1 : Int32), rfl, rfl, by rw [j1_4, show (z2_4.toInt + 1).toNat = 0 by omega]; rfl⟩
      · skip
        refine Exists.intro _ (And.intro md_o ?_)
        refine Exists.intro _ (Exists.intro _ (And.intro (Or.inl (md_a_colours D)) (And.intro (by omega) ?_)))
        have w5 : (0 : Int) ≤ (f 0 (z2_4).toInt.toNat).toInt ∧ (f 0 (z2_4).toInt.toNat).toInt ≤ (23 : Int) := hf 0 _
        refine Exists.intro _ (And.intro md_o ?_)
        refine Exists.intro _ (Exists.intro _ (And.intro (Or.inl (md_a_colours D)) (And.intro (by omega) ?_)))
        have w6 : (0 : Int) ≤ (f 0 (x1).toInt.toNat).toInt ∧ (f 0 (x1).toInt.toNat).toInt ≤ (23 : Int) := hf 0 _
        refine And.intro (fun c7 => ?_) (fun c7 => ?_)
        · skip
          have dc7 := pm_neI c7
          refine hC.1 2 25 _ _ rfl _ _ _ _ _ ?_
          have km1 : (-1 : Int32).toInt = -1 := rfl
          intro m8 em_25
          try have e8 : m8.toInt = (z2_4).toInt + (-1) := by rw [em_25]; exact pm_addc _ _ (-1) rfl (by omega) (by omega)
          exact ih3 m8 (by omega) (by rw [j1_4, lastEq_s (by omega), if_neg (by assumption), show (m8.toInt + 1).toNat = z2_4.toInt.toNat by omega]) (by omega)
        · skip
          have dc7 : ((f 0 (z2_4).toInt.toNat)).toInt = ((f 0 (x1).toInt.toNat) : Int32).toInt := congrArg Int32.toInt c7
          exact ⟨rfl, fun e9 => absurd e9 (by decide), rfl, z2_4, rfl, rfl, by rw [j1_4, lastEq_s (by omega), if_pos (by assumption)]⟩
  exact lp2 (m1.toInt + 1).toNat.succ m1 (by omega) (by rw [show (m1.toInt + 1).toNat = x1.toInt.toNat by omega]) (by omega)

end
