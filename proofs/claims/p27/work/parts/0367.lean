section
variable {l : Launch} {g : pm_G} {A0 : pm_H} {h : Nat} {q : Nat → Nat}
set_option maxRecDepth 100000 in
set_option maxHeartbeats 2000000 in
theorem F_X11_nth (D : md_D h q) (v : Nat → Int32) (f : Nat → Nat → Int32) (hv : md_V v) (hf : md_F f) (x1 : Int32) (x2 : Int32)  : pm_Mt l g 204 0 0 0 [.ref h, .int x1, .int x2] (md A0 g h q v f) (md_Qp (md A0 g h q v f) (fun r => NTH (f 0) (v 0).toInt x1 x2.toInt r.toInt)) := by
  refine mt_X11_nth rfl (fun J hC => ?_)
  have hv9 := hv
  unfold md_V at hv9
  have rg_x1 := pm_rng x1
  have rg_x2 := pm_rng x2
  refine hC.1 0 0 _ _ rfl _ _ _ _ _ ?_
  have k0 : (0 : Int32).toInt = 0 := rfl
  have lp1 : ∀ (n : Nat) (z3_5 : Int32) (z4_5 : Int32), (0 ≤ z4_5.toInt ∧ z4_5.toInt ≤ (v 0).toInt) → ((0 ≤ x2.toInt → 0 ≤ z3_5.toInt) ∧ z3_5.toInt = x2.toInt - (cn (f 0) x1 z4_5.toInt.toNat : Int)) → (∀ i9 : Nat, (i9 : Int) < z4_5.toInt → ¬ (f 0 i9 = x1 ∧ (cn (f 0) x1 i9 : Int) = x2.toInt)) → 200 - z4_5.toInt < (n : Int) → J 5 [some (.ref h), some (.int x1), some (.int x2), some (.int z3_5), some (.int z4_5)] [] (md A0 g h q v f) 0 0 := by
    intro n
    induction n with
    | zero =>
      intro z3_5 z4_5 j0_5 j1_5 j2_5 j3_5
      omega
    | succ n ih2 =>
      intro z3_5 z4_5 j0_5 j1_5 j2_5 j3_5
      have cl9 := cn_le (f 0) x1 z4_5.toInt.toNat
      refine hC.1 1 5 _ _ rfl _ _ _ _ _ ?_
      refine Exists.intro _ (And.intro md_o ?_)
      refine And.intro (fun c3 => ?_) (fun c3 => ?_)
      · skip
        refine hC.1 5 48 _ _ rfl _ _ _ _ _ ?_
        have km1 : (-1 : Int32).toInt = -1 := rfl
        exact ⟨rfl, fun e9 => absurd e9 (by decide), rfl, (-1 : Int32), rfl, rfl, by first | (exact Or.inr ⟨by omega, by omega, by assumption, by omega⟩) | (exact Or.inl ⟨rfl, fun i9 h9 => j2_5 i9 (by omega)⟩) | (exact Or.inl ⟨rfl, fun i9 h9 h8 => (by omega)⟩)⟩
      · skip
        refine And.intro (fun c4 => ?_) (fun c4 => ?_)
        · skip
          refine hC.1 5 48 _ _ rfl _ _ _ _ _ ?_
          have km1 : (-1 : Int32).toInt = -1 := rfl
          exact ⟨rfl, fun e9 => absurd e9 (by decide), rfl, (-1 : Int32), rfl, rfl, by first | (exact Or.inr ⟨by omega, by omega, by assumption, by omega⟩) | (exact Or.inl ⟨rfl, fun i9 h9 => j2_5 i9 (by omega)⟩) | (exact Or.inl ⟨rfl, fun i9 h9 h8 => (by omega)⟩)⟩
        · skip
          refine Exists.intro _ (And.intro md_o ?_)
          refine Exists.intro _ (Exists.intro _ (And.intro (Or.inl (md_a_colours D)) (And.intro (by omega) ?_)))
          have w5 : (0 : Int) ≤ (f 0 (z4_5).toInt.toNat).toInt ∧ (f 0 (z4_5).toInt.toNat).toInt ≤ (23 : Int) := hf 0 _
          refine And.intro (fun c6 => ?_) (fun c6 => ?_)
          · skip
            have dc6 : ((f 0 (z4_5).toInt.toNat)).toInt = (x1 : Int32).toInt := congrArg Int32.toInt c6
            refine hC.1 2 32 _ _ rfl _ _ _ _ _ ?_
            refine And.intro (fun c7 => ?_) (fun c7 => ?_)
            · skip
              have dc7 := pm_neI c7
              refine hC.1 3 39 _ _ rfl _ _ _ _ _ ?_
              have km1 : (-1 : Int32).toInt = -1 := rfl
              intro m8 em_39
              try have e8 : m8.toInt = (z3_5).toInt + (-1) := by rw [em_39]; exact pm_addc _ _ (-1) rfl (by omega) (by omega)
              refine hC.1 4 42 _ _ rfl _ _ _ _ _ ?_
              have k1 : (1 : Int32).toInt = 1 := rfl
              intro m9 em_42
              try have e9 : m9.toInt = (z4_5).toInt + (1) := by rw [em_42]; exact pm_addc _ _ (1) rfl (by omega) (by omega)
              exact ih2 m8 m9 (by omega) (by first | (rw [show m9.toInt.toNat = z4_5.toInt.toNat + 1 by omega, cn_n (by assumption)]; omega) | (rw [show m9.toInt.toNat = z4_5.toInt.toNat + 1 by omega, cn_y (by assumption)]; omega)) (by intro i9 h9; by_cases h8 : i9 = z4_5.toInt.toNat; (subst h8; intro h7; first | exact absurd h7.1 (by assumption) | omega); (exact j2_5 i9 (by omega))) (by omega)
            · skip
              have dc7 : (z3_5).toInt = (0 : Int32).toInt := congrArg Int32.toInt c7
              exact ⟨rfl, fun e9 => absurd e9 (by decide), rfl, z4_5, rfl, rfl, by first | (exact Or.inr ⟨by omega, by omega, by assumption, by omega⟩) | (exact Or.inl ⟨rfl, fun i9 h9 => j2_5 i9 (by omega)⟩) | (exact Or.inl ⟨rfl, fun i9 h9 h8 => (by omega)⟩)⟩
          · skip
            have dc6 := pm_neI c6
            refine hC.1 4 42 _ _ rfl _ _ _ _ _ ?_
            have k1 : (1 : Int32).toInt = 1 := rfl
            intro m10 em_42
            try have e10 : m10.toInt = (z4_5).toInt + (1) := by rw [em_42]; exact pm_addc _ _ (1) rfl (by omega) (by omega)
            exact ih2 z3_5 m10 (by omega) (by first | (rw [show m10.toInt.toNat = z4_5.toInt.toNat + 1 by omega, cn_n (by assumption)]; omega) | (rw [show m10.toInt.toNat = z4_5.toInt.toNat + 1 by omega, cn_y (by assumption)]; omega)) (by intro i9 h9; by_cases h8 : i9 = z4_5.toInt.toNat; (subst h8; intro h7; first | exact absurd h7.1 (by assumption) | omega); (exact j2_5 i9 (by omega))) (by omega)
  exact lp1 (200 - (0 : Int32).toInt).toNat.succ x2 (0 : Int32) (by omega) (by exact ⟨fun h => h, by show x2.toInt = x2.toInt - ((0 : Nat) : Int); omega⟩) (by intro i9 h9; omega) (by omega)

end
