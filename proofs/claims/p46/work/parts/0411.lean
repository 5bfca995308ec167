section
variable {l : Launch} {g : pm_G} {A0 : pm_H} {h : Nat} {q : Nat → Nat}
set_option maxRecDepth 100000 in
set_option maxHeartbeats 2000000 in
theorem F_X11_bits (A : pm_H) (x0 : Int32)  : pm_Mt l g 207 0 0 0 [.int x0] A (md_Qp A (fun r => r.toInt = (cntB x0 32 : Int))) := by
  refine mt_X11_bits rfl (fun J hC => ?_)
  have rg_x0 := pm_rng x0
  have cl9 := cntB_le x0 32
  refine hC.1 0 0 _ _ rfl _ _ _ _ _ ?_
  have k0 : (0 : Int32).toInt = 0 := rfl
  have lp1 : ∀ (n : Nat) (z1_4 : Int32) (z2_4 : Int32), (0 ≤ z1_4.toInt) → (z1_4.toInt + (cntB z2_4 32 : Int) = (cntB x0 32 : Int)) → (z2_4.toBitVec.toNat : Int) < (n : Int) → J 4 [some (.int x0), some (.int z1_4), some (.int z2_4)] [] A 0 0 := by
    intro n
    induction n with
    | zero =>
      intro z1_4 z2_4 j0_4 j1_4 j2_4
      omega
    | succ n ih2 =>
      intro z1_4 z2_4 j0_4 j1_4 j2_4
      refine hC.1 1 4 _ _ rfl _ _ _ _ _ ?_
      refine And.intro (fun c3 => ?_) (fun c3 => ?_)
      · skip
        have dc3 : (z2_4).toInt = (0 : Int32).toInt := congrArg Int32.toInt c3
        refine hC.1 2 20 _ _ rfl _ _ _ _ _ ?_
        exact ⟨rfl, fun e9 => absurd e9 (by decide), rfl, z1_4, rfl, rfl, by have h8 : cntB z2_4 32 = 0 := (by rw [show z2_4 = 0 by assumption]; exact cntB_z 32); omega⟩
      · skip
        have dc3 := pm_neI c3
        have k1 : (1 : Int32).toInt = 1 := rfl
        intro m4 em_8
        try have e4 : m4.toInt = (z1_4).toInt + (1) := by rw [em_8]; exact pm_addc _ _ (1) rfl (by omega) (by omega)
        intro m5 em_14
        exact ih2 m4 (z2_4 &&& m5) (by omega) (by have h8 := pcB (x := z2_4) (by assumption); rw [← em_14] at h8; omega) (by have h1 := pm_bits_lt (x := z2_4) (by assumption); rw [em_14]; omega)
  exact lp1 ((x0.toBitVec.toNat : Int)).toNat.succ (0 : Int32) x0 (by omega) (by omega) (by omega)

end
