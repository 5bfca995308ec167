section
variable {l : Launch} {g : pm_G} {A0 : pm_H} {h : Nat} {q : Nat → Nat}
set_option maxRecDepth 100000 in
set_option maxHeartbeats 2000000 in
theorem c_X11_haveAll (D : md_D h q) (v : Nat → Int32) (f : Nat → Nat → Int32) (hv : md_V v) (hf : md_F f) (x1 : Int32) (x2 : Int32) (x3 : Int32) (x4 : Int32) (p0 : 0 ≤ x1.toInt ∧ x2.toInt < 160 ∧ x1.toInt ≤ 160 ∧ -1 ≤ x2.toInt) (p1 : 1 ≤ x3.toInt ∧ x3.toInt ≤ 160) : pm_Mt l g 241 1 0 0 [.ref h, .int x1, .int x2, .int x3, .int x4] (md A0 g h q v f) (md_Qp (md A0 g h q v f) (fun r => (r = 1 ∧ (True)) ∨ (r = 0 ∧ (∃ p9 : Int, x1.toInt ≤ p9 ∧ p9 + x3.toInt - 1 ≤ x2.toInt ∧ ¬ setF (f 0) p9.toNat x3.toInt.toNat = x4)))) := by
  refine mt_X11_haveAll rfl (fun J hC => ?_)
  have hv9 := hv
  unfold md_V at hv9
  have rg_x1 := pm_rng x1
  have rg_x2 := pm_rng x2
  have rg_x3 := pm_rng x3
  have rg_x4 := pm_rng x4
  refine hC.1 0 0 _ _ rfl _ _ _ _ _ ?_
  have lp1 : ∀ (n : Nat) (z5_3 : Int32), (x1.toInt ≤ z5_3.toInt ∧ z5_3.toInt ≤ 161) → 200 - z5_3.toInt < (n : Int) → J 3 [some (.ref h), some (.int x1), some (.int x2), some (.int x3), some (.int x4), some (.int z5_3)] [] (md A0 g h q v f) 0 0 := by
    intro n
    induction n with
    | zero =>
      intro z5_3 j0_3 j1_3
      omega
    | succ n ih2 =>
      intro z5_3 j0_3 j1_3
      refine hC.1 1 3 _ _ rfl _ _ _ _ _ ?_
      intro m3 em_6
      try have e3 : m3.toInt = (z5_3).toInt + (x3).toInt := by rw [em_6]; exact pm_add _ _ (by omega) (by omega)
      have k1 : (1 : Int32).toInt = 1 := rfl
      intro m4 em_8
      try have e4 : m4.toInt = (m3).toInt - (1) := by rw [em_8]; exact pm_subc _ _ (1) rfl (by omega) (by omega)
      refine And.intro (fun c5 => ?_) (fun c5 => ?_)
      · skip
        refine hC.1 3 38 _ _ rfl _ _ _ _ _ ?_
        exact ⟨rfl, fun _ => (by decide), rfl, (1 : Int32), rfl, rfl, Or.inl ⟨rfl, by trivial⟩⟩
      · skip
        intro m6 em_19
        try have e6 : m6.toInt = (z5_3).toInt + (x3).toInt := by rw [em_19]; exact pm_add _ _ (by omega) (by omega)
        intro m7 em_21
        try have e7 : m7.toInt = (m6).toInt - (1) := by rw [em_21]; exact pm_subc _ _ (1) rfl (by omega) (by omega)
        refine And.intro (Exists.intro _ md_o) (Exists.intro _ (Exists.intro _ (Exists.intro _ (Exists.intro _ (And.intro (c_X11_setOf D v f hv hf z5_3 m7 (by omega) (by omega)) (And.intro rfl (fun r9 A9 h9 => ?_)))))))
        obtain ⟨y8, rfl, rfl, by8⟩ := h9
        have hs9 : y8 = setF (f 0) z5_3.toInt.toNat x3.toInt.toNat := by8.trans (congrArg _ (by omega))
        refine And.intro (fun c9 => ?_) (fun c9 => ?_)
        · skip
          have dc9 : (y8).toInt = (x4 : Int32).toInt := congrArg Int32.toInt c9
          refine hC.1 2 32 _ _ rfl _ _ _ _ _ ?_
          intro m10 em_32
          try have e10 : m10.toInt = (z5_3).toInt + (1) := by rw [em_32]; exact pm_addc _ _ (1) rfl (by omega) (by omega)
          exact ih2 m10 (by omega) (by omega)
        · skip
          have dc9 := pm_neI c9
          have k0 : (0 : Int32).toInt = 0 := rfl
          exact ⟨rfl, fun _ => (by decide), rfl, (0 : Int32), rfl, rfl, Or.inr ⟨rfl, by exact ⟨z5_3.toInt, by omega, by omega, fun e9 => absurd (hs9.trans e9) (by assumption)⟩⟩⟩
  exact lp1 (200 - x1.toInt).toNat.succ x1 (by omega) (by omega)

end
