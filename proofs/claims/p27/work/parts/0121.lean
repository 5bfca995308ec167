section
variable {l : Launch} {g : pm_G} {A0 : pm_H} {h : Nat} {q : Nat → Nat}
set_option maxRecDepth 100000 in
set_option maxHeartbeats 2000000 in
theorem c_X11_bits (A : pm_H) (x0 : Int32)  : pm_Mt l g 207 0 0 0 [.int x0] A (md_Qp A (fun r => (¬ x0 = 0 ∧ x0 &&& (x0 - 1) = 0) → r = 1)) := by
  refine mt_X11_bits rfl (fun J hC => ?_)
  have rg_x0 := pm_rng x0
  refine hC.1 0 0 _ _ rfl _ _ _ _ _ ?_
  have k0 : (0 : Int32).toInt = 0 := rfl
  have lp1 : ∀ (n : Nat) (z1_4 : Int32) (z2_4 : Int32), (((z1_4 = 0 ∧ z2_4 = x0) ∨ (¬ x0 = 0 ∧ (x0 &&& (x0 - 1) = 0 → z1_4 = 1 ∧ z2_4 = 0)))) → (z2_4.toBitVec.toNat : Int) < (n : Int) → J 4 [some (.int x0), some (.int z1_4), some (.int z2_4)] [] A 0 0 := by
    intro n
    induction n with
    | zero =>
      intro z1_4 z2_4 j0_4 j1_4
      omega
    | succ n ih2 =>
      intro z1_4 z2_4 j0_4 j1_4
      refine hC.1 1 4 _ _ rfl _ _ _ _ _ ?_
      refine And.intro (fun c3 => ?_) (fun c3 => ?_)
      · skip
        have dc3 : (z2_4).toInt = (0 : Int32).toInt := congrArg Int32.toInt c3
        refine hC.1 2 20 _ _ rfl _ _ _ _ _ ?_
        exact ⟨rfl, fun e9 => absurd e9 (by decide), rfl, z1_4, rfl, rfl, by exact fun h9 => j0_4.elim (fun h1 => absurd (h1.2.symm.trans (by assumption)) h9.1) (fun h1 => (h1.2 h9.2).1)⟩
      · skip
        have dc3 := pm_neI c3
        have k1 : (1 : Int32).toInt = 1 := rfl
        intro m4 em_8
        intro m5 em_14
        exact ih2 m4 (z2_4 &&& m5) (by exact j0_4.elim (fun h1 => Or.inr ⟨by rw [← h1.2]; assumption, fun e9 => ⟨by rw [em_8, h1.1]; rfl, by rw [em_14, h1.2]; exact e9⟩⟩) (fun h1 => Or.inr ⟨h1.1, fun e9 => absurd (h1.2 e9).2 (by assumption)⟩)) (by have h1 := pm_bits_lt (x := z2_4) (by assumption); rw [em_14]; omega)
  exact lp1 ((x0.toBitVec.toNat : Int)).toNat.succ (0 : Int32) x0 (by exact Or.inl ⟨rfl, rfl⟩) (by omega)

end
