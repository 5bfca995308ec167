section
variable {l : Launch} {g : pm_G} {A0 : pm_H} {h : Nat} {q : Nat → Nat}
set_option maxRecDepth 100000 in
set_option maxHeartbeats 2000000 in
theorem c_X11_all (D : md_D h q) (v : Nat → Int32) (f : Nat → Nat → Int32) (hv : md_V v) (hf : md_F f)  : pm_Mt l g 265 1 0 0 [.ref h] (md A0 g h q v f) (md_Qj (md A0 g h q v f) (fun r => True)) := by
  refine mt_X11_all rfl (fun J hC => ?_)
  have hv9 := hv
  unfold md_V at hv9
  refine hC.1 0 0 _ _ rfl _ _ _ _ _ ?_
  have k0 : (0 : Int32).toInt = 0 := rfl
  have lp1 : ∀ (n : Nat) (z1_4 : Int64) (z3_4 : Int32), (0 ≤ z3_4.toInt ∧ z3_4.toInt ≤ (v 0).toInt) → 200 - z3_4.toInt < (n : Int) → J 4 [some (.ref h), some (.long z1_4), none, some (.int z3_4), none, none] [] (md A0 g h q v f) 0 0 := by
    intro n
    induction n with
    | zero =>
      intro z1_4 z3_4 j0_4 j1_4
      omega
    | succ n ih2 =>
      intro z1_4 z3_4 j0_4 j1_4
      refine hC.1 1 4 _ _ rfl _ _ _ _ _ ?_
      refine Exists.intro _ (And.intro md_o ?_)
      refine And.intro (fun c3 => ?_) (fun c3 => ?_)
      · skip
        refine hC.1 4 62 _ _ rfl _ _ _ _ _ ?_
        exact ⟨rfl, rfl, z1_4, rfl, rfl, by exact True.intro⟩
      · skip
        have lp4 : ∀ (n : Nat) (z1_18 : Int64) (z4_18 : Int32) (z5_18 : Int32), (0 ≤ z5_18.toInt ∧ z5_18.toInt ≤ (v 0).toInt) → 200 - z5_18.toInt < (n : Int) → J 18 [some (.ref h), some (.long z1_18), none, some (.int z3_4), some (.int z4_18), some (.int z5_18)] [] (md A0 g h q v f) 0 0 := by
          intro n
          induction n with
          | zero =>
            intro z1_18 z4_18 z5_18 j0_18 j1_18
            omega
          | succ n ih5 =>
            intro z1_18 z4_18 z5_18 j0_18 j1_18
            refine hC.1 2 18 _ _ rfl _ _ _ _ _ ?_
            refine Exists.intro _ (And.intro md_o ?_)
            refine And.intro (fun c6 => ?_) (fun c6 => ?_)
            · skip
              refine hC.1 3 56 _ _ rfl _ _ _ _ _ ?_
              have k1 : (1 : Int32).toInt = 1 := rfl
              intro m7 em_56
              try have e7 : m7.toInt = (z3_4).toInt + (1) := by rw [em_56]; exact pm_addc _ _ (1) rfl (by omega) (by omega)
              exact hC.2 [false, false, false, false, true, true] _ _ _ _ _ _ (ih2 z1_18 m7 (by omega) (by omega))
            · skip
              have k1 : (1 : Int32).toInt = 1 := rfl
              refine Exists.intro _ (And.intro md_o ?_)
              refine Exists.intro _ (Exists.intro _ (And.intro (Or.inl (md_a_colours D)) (And.intro (by omega) ?_)))
              have w8 : (0 : Int) ≤ (f 0 (z5_18).toInt.toNat).toInt ∧ (f 0 (z5_18).toInt.toNat).toInt ≤ (23 : Int) := hf 0 _
              refine Exists.intro _ (Exists.intro _ (Exists.intro _ (Exists.intro _ (And.intro (c_X11_bits (md A0 g h q v f) (z4_18 ||| ((1 : Int32) <<< ((f 0 (z5_18).toInt.toNat) &&& 31))) ) (And.intro rfl (fun r9 A9 h9 => ?_))))))
              obtain ⟨y9, rfl, rfl, by9⟩ := h9
              intro m10 em_50
              try have e10 : m10.toInt = (z5_18).toInt + (1) := by rw [em_50]; exact pm_addc _ _ (1) rfl (by omega) (by omega)
              exact ih5 (z1_18 + (y9).toInt64) (z4_18 ||| ((1 : Int32) <<< ((f 0 (z5_18).toInt.toNat) &&& 31))) m10 (by omega) (by omega)
        exact lp4 (200 - z3_4.toInt).toNat.succ z1_4 (0 : Int32) z3_4 (by omega) (by omega)
  exact lp1 (200 - (0 : Int32).toInt).toNat.succ (Int64.ofNat 0) (0 : Int32) (by omega) (by omega)

end
