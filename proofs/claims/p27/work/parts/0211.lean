section
variable {l : Launch} {g : pm_G} {A0 : pm_H} {K nn dn : Nat} {q : Nat → Nat} {w : Nat → Int32} {e : Nat → Nat → Int32} {v : Nat → Int32} {f : Nat → Nat → Int32}
set_option maxRecDepth 100000 in
set_option maxHeartbeats 2000000 in
theorem c_X2_largestBeside (hI : cw_I K nn dn q w e) (hs : cw_S v f) (x1 : Int32)  : pm_Mt l g 92 0 0 0 [.ref (q 2), .int x1] (cw A0 g K nn dn q w e v f) (md_Qp (cw A0 g K nn dn q w e v f) (fun r => -1 ≤ r.toInt ∧ r.toInt ≤ 23)) := by
  refine mt_X2_largestBeside rfl (fun J hC => ?_)
  have ro_nn : cw_ro K nn := hI.2.1.2.1
  have ro_dn : cw_ro K dn := hI.2.1.2.2.1
  have hu1 := hI.2.1
  unfold cw_W at hu1
  have rg_x1 := pm_rng x1
  refine hC.1 0 0 _ _ rfl _ _ _ _ _ ?_
  have km1 : (-1 : Int32).toInt = -1 := rfl
  have k0 : (0 : Int32).toInt = 0 := rfl
  have lp3 : ∀ (n : Nat) (z2_4 : Int32) (z3_4 : Int32), (0 ≤ z3_4.toInt ∧ z3_4.toInt ≤ 24) → (-1 ≤ z2_4.toInt ∧ z2_4.toInt ≤ 23) → 200 - z3_4.toInt < (n : Int) → J 4 [some (.ref (q 2)), some (.int x1), some (.int z2_4), some (.int z3_4), none] [] (cw A0 g K nn dn q w e v f) 0 0 := by
    intro n
    induction n with
    | zero =>
      intro z2_4 z3_4 j0_4 j1_4 j2_4
      omega
    | succ n ih4 =>
      intro z2_4 z3_4 j0_4 j1_4 j2_4
      refine hC.1 1 4 _ _ rfl _ _ _ _ _ ?_
      have k24 : (24 : Int32).toInt = 24 := rfl
      refine And.intro (fun c5 => ?_) (fun c5 => ?_)
      · skip
        refine hC.1 6 58 _ _ rfl _ _ _ _ _ ?_
        exact ⟨rfl, fun e9 => absurd e9 (by decide), rfl, z2_4, rfl, rfl, by first | omega | (dsimp only; omega) | trivial⟩
      · skip
        have k1 : (1 : Int32).toInt = 1 := rfl
        refine And.intro (fun c6 => ?_) (fun c6 => ?_)
        · skip
          have dc6 := pm_neI c6
          refine hC.1 2 22 _ _ rfl _ _ _ _ _ ?_
          refine hC.1 3 23 _ _ rfl _ _ _ _ _ ?_
          refine And.intro (fun _ => ?_) (fun c9 => absurd c9 (by decide))
          refine hC.1 5 52 _ _ rfl _ _ _ _ _ ?_
          intro m7 em_52
          try have e7 : m7.toInt = (z3_4).toInt + (1) := by rw [em_52]; exact pm_addc _ _ (1) rfl (by omega) (by omega)
          exact hC.2 [false, false, false, false, true] _ _ _ _ _ _ (ih4 z2_4 m7 (by omega) (by omega) (by omega))
        · skip
          have dc6 : ((x1 &&& ((1 : Int32) <<< (z3_4 &&& 31)))).toInt = (0 : Int32).toInt := congrArg Int32.toInt c6
          refine hC.1 3 23 _ _ rfl _ _ _ _ _ ?_
          refine And.intro (fun c9 => absurd c9 (by decide)) (fun _ => ?_)
          refine And.intro (fun c8 => ?_) (fun c8 => ?_)
          · skip
            have dc8 : (z2_4).toInt = ((-1 : Int32) : Int32).toInt := congrArg Int32.toInt c8
            refine hC.1 4 50 _ _ rfl _ _ _ _ _ ?_
            refine hC.1 5 52 _ _ rfl _ _ _ _ _ ?_
            intro m9 em_52
            try have e9 : m9.toInt = (z3_4).toInt + (1) := by rw [em_52]; exact pm_addc _ _ (1) rfl (by omega) (by omega)
            exact hC.2 [false, false, false, false, true] _ _ _ _ _ _ (ih4 z3_4 m9 (by omega) (by omega) (by omega))
          · skip
            have dc8 := pm_neI c8
            refine Exists.intro _ (And.intro (cw_o2 hI.1) ?_)
            refine Exists.intro _ (Exists.intro _ (And.intro (Or.inl (cw_a14 hI.1)) (And.intro (by omega) ?_)))
            refine Exists.intro _ (And.intro (cw_o2 hI.1) ?_)
            refine Exists.intro _ (Exists.intro _ (And.intro (Or.inl (cw_a14 hI.1)) (And.intro (by omega) ?_)))
            refine And.intro (fun c10 => ?_) (fun c10 => ?_)
            · skip
              refine hC.1 5 52 _ _ rfl _ _ _ _ _ ?_
              intro m11 em_52
              try have e11 : m11.toInt = (z3_4).toInt + (1) := by rw [em_52]; exact pm_addc _ _ (1) rfl (by omega) (by omega)
              exact hC.2 [false, false, false, false, true] _ _ _ _ _ _ (ih4 z2_4 m11 (by omega) (by omega) (by omega))
            · skip
              refine hC.1 4 50 _ _ rfl _ _ _ _ _ ?_
              refine hC.1 5 52 _ _ rfl _ _ _ _ _ ?_
              intro m12 em_52
              try have e12 : m12.toInt = (z3_4).toInt + (1) := by rw [em_52]; exact pm_addc _ _ (1) rfl (by omega) (by omega)
              exact hC.2 [false, false, false, false, true] _ _ _ _ _ _ (ih4 z3_4 m12 (by omega) (by omega) (by omega))
  exact lp3 (200 - (0 : Int32).toInt).toNat.succ (-1 : Int32) (0 : Int32) (by omega) (by omega) (by omega)

end
