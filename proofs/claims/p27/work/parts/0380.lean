section
variable {l : Launch} {g : pm_G} {A0 : pm_H} {K nn dn : Nat} {q : Nat → Nat} {w : Nat → Int32} {e : Nat → Nat → Int32} {v : Nat → Int32} {f : Nat → Nat → Int32}
set_option maxRecDepth 100000 in
set_option maxHeartbeats 2000000 in
theorem F_X7_placeOf (hI : cw_I K nn dn q w e) (hs : cw_S v f) {o0 : Nat} (ho0 : cw_ro K o0) (x1 : Int32)  : pm_Mt l g 46 0 0 0 [.ref (q o0), .int x1] (cw A0 g K nn dn q w e v f) (md_Qp (cw A0 g K nn dn q w e v f) (fun r => (-1 ≤ r.toInt ∧ r.toInt < (w o0).toInt) ∧ FST (e (o0 + 2)) (w o0).toInt x1 r.toInt)) := by
  refine mt_X7_placeOf rfl (fun J hC => ?_)
  have ro_nn : cw_ro K nn := hI.2.1.2.1
  have ro_dn : cw_ro K dn := hI.2.1.2.2.1
  have hu1 := hI.2.1
  unfold cw_W at hu1
  have rg_x1 := pm_rng x1
  have zz0 := cw_sz hI ho0
  refine hC.1 0 0 _ _ rfl _ _ _ _ _ ?_
  have k0 : (0 : Int32).toInt = 0 := rfl
  have lp3 : ∀ (n : Nat) (z2_2 : Int32), (0 ≤ z2_2.toInt ∧ z2_2.toInt ≤ (w o0).toInt) → (∀ i9 : Nat, (i9 : Int) < z2_2.toInt → ¬ e (o0 + 2) i9 = x1) → 200 - z2_2.toInt < (n : Int) → J 2 [some (.ref (q o0)), some (.int x1), some (.int z2_2)] [] (cw A0 g K nn dn q w e v f) 0 0 := by
    intro n
    induction n with
    | zero =>
      intro z2_2 j0_2 j1_2 j2_2
      omega
    | succ n ih4 =>
      intro z2_2 j0_2 j1_2 j2_2
      refine hC.1 1 2 _ _ rfl _ _ _ _ _ ?_
      refine Exists.intro _ (And.intro (cw_ro_o hI.1 ho0) ?_)
      have z5 := cw_sz hI ho0
      refine And.intro (fun c6 => ?_) (fun c6 => ?_)
      · skip
        refine hC.1 3 28 _ _ rfl _ _ _ _ _ ?_
        have km1 : (-1 : Int32).toInt = -1 := rfl
        exact ⟨rfl, fun e9 => absurd e9 (by decide), rfl, (-1 : Int32), rfl, rfl, by first | (exact ⟨by omega, Or.inr ⟨by omega, by omega, by assumption, fun i9 h9 => j1_2 i9 (by omega)⟩⟩) | (exact ⟨by omega, Or.inl ⟨rfl, fun i9 h9 => j1_2 i9 (by omega)⟩⟩)⟩
      · skip
        refine Exists.intro _ (And.intro (cw_ro_o hI.1 ho0) ?_)
        refine Exists.intro _ (Exists.intro _ (And.intro (Or.inl (cw_ro_2 hI.1 ho0)) (And.intro (by omega) ?_)))
        refine And.intro (fun c7 => ?_) (fun c7 => ?_)
        · skip
          have dc7 := pm_neI c7
          refine hC.1 2 22 _ _ rfl _ _ _ _ _ ?_
          have k1 : (1 : Int32).toInt = 1 := rfl
          intro m8 em_22
          try have e8 : m8.toInt = (z2_2).toInt + (1) := by rw [em_22]; exact pm_addc _ _ (1) rfl (by omega) (by omega)
          exact ih4 m8 (by omega) (by intro i9 h9; by_cases h8 : i9 = z2_2.toInt.toNat; (subst h8; assumption); (exact j1_2 i9 (by omega))) (by omega)
        · skip
          have dc7 : ((e (o0 + 2) (z2_2).toInt.toNat)).toInt = (x1 : Int32).toInt := congrArg Int32.toInt c7
          exact ⟨rfl, fun e9 => absurd e9 (by decide), rfl, z2_2, rfl, rfl, by first | (exact ⟨by omega, Or.inr ⟨by omega, by omega, by assumption, fun i9 h9 => j1_2 i9 (by omega)⟩⟩) | (exact ⟨by omega, Or.inl ⟨rfl, fun i9 h9 => j1_2 i9 (by omega)⟩⟩)⟩
  exact lp3 (200 - (0 : Int32).toInt).toNat.succ (0 : Int32) (by omega) (by intro i9 h9; omega) (by omega)

end
