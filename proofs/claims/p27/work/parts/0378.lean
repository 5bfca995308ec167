section
variable {l : Launch} {g : pm_G} {A0 : pm_H} {K nn dn : Nat} {q : Nat → Nat} {w : Nat → Int32} {e : Nat → Nat → Int32} {v : Nat → Int32} {f : Nat → Nat → Int32}
set_option maxRecDepth 100000 in
set_option maxHeartbeats 2000000 in
theorem F_X7_placeOfNth (hI : cw_I K nn dn q w e) (hs : cw_S v f) {o0 : Nat} (ho0 : cw_ro K o0) (x1 : Int32) (x2 : Int32)  : pm_Mt l g 49 0 0 0 [.ref (q o0), .int x1, .int x2] (cw A0 g K nn dn q w e v f) (md_Qp (cw A0 g K nn dn q w e v f) (fun r => NTH (e (o0 + 1)) (w o0).toInt x1 x2.toInt r.toInt)) := by
  refine mt_X7_placeOfNth rfl (fun J hC => ?_)
  have ro_nn : cw_ro K nn := hI.2.1.2.1
  have ro_dn : cw_ro K dn := hI.2.1.2.2.1
  have hu1 := hI.2.1
  unfold cw_W at hu1
  have rg_x1 := pm_rng x1
  have rg_x2 := pm_rng x2
  have zz0 := cw_sz hI ho0
  refine hC.1 0 0 _ _ rfl _ _ _ _ _ ?_
  have k0 : (0 : Int32).toInt = 0 := rfl
  have lp3 : ∀ (n : Nat) (z3_5 : Int32) (z4_5 : Int32), (0 ≤ z4_5.toInt ∧ z4_5.toInt ≤ (w o0).toInt) → (z3_5.toInt = (cn (e (o0 + 1)) x1 z4_5.toInt.toNat : Int)) → (∀ i9 : Nat, (i9 : Int) < z4_5.toInt → ¬ (e (o0 + 1) i9 = x1 ∧ (cn (e (o0 + 1)) x1 i9 : Int) = x2.toInt)) → 200 - z4_5.toInt < (n : Int) → J 5 [some (.ref (q o0)), some (.int x1), some (.int x2), some (.int z3_5), some (.int z4_5)] [] (cw A0 g K nn dn q w e v f) 0 0 := by
    intro n
    induction n with
    | zero =>
      intro z3_5 z4_5 j0_5 j1_5 j2_5 j3_5
      omega
    | succ n ih4 =>
      intro z3_5 z4_5 j0_5 j1_5 j2_5 j3_5
      have cl9 := cn_le (e (o0 + 1)) x1 z4_5.toInt.toNat
      refine hC.1 1 5 _ _ rfl _ _ _ _ _ ?_
      refine Exists.intro _ (And.intro (cw_ro_o hI.1 ho0) ?_)
      have z5 := cw_sz hI ho0
      refine And.intro (fun c6 => ?_) (fun c6 => ?_)
      · skip
        refine hC.1 4 42 _ _ rfl _ _ _ _ _ ?_
        have km1 : (-1 : Int32).toInt = -1 := rfl
        exact ⟨rfl, fun e9 => absurd e9 (by decide), rfl, (-1 : Int32), rfl, rfl, by first | (exact Or.inr ⟨by omega, by omega, by assumption, by omega⟩) | (exact Or.inl ⟨rfl, fun i9 h9 => j2_5 i9 (by omega)⟩)⟩
      · skip
        refine Exists.intro _ (And.intro (cw_ro_o hI.1 ho0) ?_)
        refine Exists.intro _ (Exists.intro _ (And.intro (Or.inl (cw_ro_1 hI.1 ho0)) (And.intro (by omega) ?_)))
        have w7 := cw_col hI ho0 (z4_5).toInt.toNat
        refine And.intro (fun c8 => ?_) (fun c8 => ?_)
        · skip
          have dc8 := pm_neI c8
          refine hC.1 3 36 _ _ rfl _ _ _ _ _ ?_
          have k1 : (1 : Int32).toInt = 1 := rfl
          intro m9 em_36
          try have e9 : m9.toInt = (z4_5).toInt + (1) := by rw [em_36]; exact pm_addc _ _ (1) rfl (by omega) (by omega)
          exact ih4 z3_5 m9 (by omega) (by first | (rw [show m9.toInt.toNat = z4_5.toInt.toNat + 1 by omega, cn_n (by assumption)]; omega) | (rw [show m9.toInt.toNat = z4_5.toInt.toNat + 1 by omega, cn_y (by assumption)]; omega)) (by intro i9 h9; by_cases h8 : i9 = z4_5.toInt.toNat; (subst h8; intro h7; first | exact absurd h7.1 (by assumption) | omega); (exact j2_5 i9 (by omega))) (by omega)
        · skip
          have dc8 : ((e (o0 + 1) (z4_5).toInt.toNat)).toInt = (x1 : Int32).toInt := congrArg Int32.toInt c8
          refine And.intro (fun c10 => ?_) (fun c10 => ?_)
          · skip
            have dc10 := pm_neI c10
            refine hC.1 2 33 _ _ rfl _ _ _ _ _ ?_
            have k1 : (1 : Int32).toInt = 1 := rfl
            intro m11 em_33
            try have e11 : m11.toInt = (z3_5).toInt + (1) := by rw [em_33]; exact pm_addc _ _ (1) rfl (by omega) (by omega)
            refine hC.1 3 36 _ _ rfl _ _ _ _ _ ?_
            intro m12 em_36
            try have e12 : m12.toInt = (z4_5).toInt + (1) := by rw [em_36]; exact pm_addc _ _ (1) rfl (by omega) (by omega)
            exact ih4 m11 m12 (by omega) (by first | (rw [show m12.toInt.toNat = z4_5.toInt.toNat + 1 by omega, cn_n (by assumption)]; omega) | (rw [show m12.toInt.toNat = z4_5.toInt.toNat + 1 by omega, cn_y (by assumption)]; omega)) (by intro i9 h9; by_cases h8 : i9 = z4_5.toInt.toNat; (subst h8; intro h7; first | exact absurd h7.1 (by assumption) | omega); (exact j2_5 i9 (by omega))) (by omega)
          · skip
            have dc10 : (z3_5).toInt = (x2 : Int32).toInt := congrArg Int32.toInt c10
            exact ⟨rfl, fun e9 => absurd e9 (by decide), rfl, z4_5, rfl, rfl, by first | (exact Or.inr ⟨by omega, by omega, by assumption, by omega⟩) | (exact Or.inl ⟨rfl, fun i9 h9 => j2_5 i9 (by omega)⟩)⟩
  exact lp3 (200 - (0 : Int32).toInt).toNat.succ (0 : Int32) (0 : Int32) (by omega) (by rfl) (by intro i9 h9; omega) (by omega)

end
