section
variable {l : Launch} {g : pm_G} {A0 : pm_H} {K nn dn : Nat} {q : Nat → Nat} {w : Nat → Int32} {e : Nat → Nat → Int32} {v : Nat → Int32} {f : Nat → Nat → Int32}
set_option maxRecDepth 100000 in
set_option maxHeartbeats 2000000 in
theorem c_X2_placesOfLargest (hI : cw_I K nn dn q w e) (hs : cw_S v f) (x1 : Int32)  : pm_Mt l g 91 1 0 0 [.ref (q 2), .int x1] (cw A0 g K nn dn q w e v f) (md_Qp (cw A0 g K nn dn q w e v f) (fun r => True)) := by
  refine mt_X2_placesOfLargest rfl (fun J hC => ?_)
  have ro_nn : cw_ro K nn := hI.2.1.2.1
  have ro_dn : cw_ro K dn := hI.2.1.2.2.1
  have hu1 := hI.2.1
  unfold cw_W at hu1
  have rg_x1 := pm_rng x1
  refine hC.1 0 0 _ _ rfl _ _ _ _ _ ?_
  have k0 : (0 : Int32).toInt = 0 := rfl
  have lp3 : ∀ (n : Nat) (z2_7 : Int32) (z3_7 : Int32) (z4_7 : Int32), (0 ≤ z4_7.toInt ∧ z4_7.toInt ≤ 24) → 200 - z4_7.toInt < (n : Int) → J 7 [some (.ref (q 2)), some (.int x1), some (.int z2_7), some (.int z3_7), some (.int z4_7), none] [] (cw A0 g K nn dn q w e v f) 0 0 := by
    intro n
    induction n with
    | zero =>
      intro z2_7 z3_7 z4_7 j0_7 j1_7
      omega
    | succ n ih4 =>
      intro z2_7 z3_7 z4_7 j0_7 j1_7
      refine hC.1 1 7 _ _ rfl _ _ _ _ _ ?_
      refine And.intro (fun c5 => ?_) (fun c5 => ?_)
      · skip
        refine hC.1 3 58 _ _ rfl _ _ _ _ _ ?_
        exact ⟨rfl, fun e9 => absurd e9 (by decide), rfl, z3_7, rfl, rfl, by exact True.intro⟩
      · skip
        have k24 : (24 : Int32).toInt = 24 := rfl
        refine And.intro (fun c6 => ?_) (fun c6 => ?_)
        · skip
          refine hC.1 3 58 _ _ rfl _ _ _ _ _ ?_
          exact ⟨rfl, fun e9 => absurd e9 (by decide), rfl, z3_7, rfl, rfl, by exact True.intro⟩
        · skip
          refine And.intro (Exists.intro _ (cw_o2 hI.1)) (Exists.intro _ (Exists.intro _ (Exists.intro _ (Exists.intro _ (And.intro (c_X2_largestBeside hI hs z2_7 ) (And.intro rfl (fun r9 A9 h9 => ?_)))))))
          obtain ⟨y7, rfl, rfl, by7⟩ := h9
          have km1 : (-1 : Int32).toInt = -1 := rfl
          refine And.intro (fun c9 => ?_) (fun c9 => ?_)
          · skip
            have dc9 := pm_neI c9
            refine hC.1 2 35 _ _ rfl _ _ _ _ _ ?_
            have k1 : (1 : Int32).toInt = 1 := rfl
            refine Exists.intro _ (And.intro (cw_o2 hI.1) ?_)
            refine Exists.intro _ (Exists.intro _ (And.intro (Or.inl (cw_a14 hI.1)) (And.intro (by omega) ?_)))
            intro m10 em_50
            try have e10 : m10.toInt = (z3_7).toInt + ((f 14 (y7).toInt.toNat)).toInt := by rw [em_50]; exact pm_add _ _ (by omega) (by omega)
            intro m11 em_52
            try have e11 : m11.toInt = (z4_7).toInt + (1) := by rw [em_52]; exact pm_addc _ _ (1) rfl (by omega) (by omega)
            exact hC.2 [false, false, false, false, false, true] _ _ _ _ _ _ (ih4 (z2_7 ||| ((1 : Int32) <<< (y7 &&& 31))) m10 m11 (by omega) (by omega))
          · skip
            have dc9 : (y7).toInt = ((-1 : Int32) : Int32).toInt := congrArg Int32.toInt c9
            exact ⟨rfl, fun e9 => absurd e9 (by decide), rfl, z3_7, rfl, rfl, by exact True.intro⟩
  exact lp3 (200 - (0 : Int32).toInt).toNat.succ (0 : Int32) (0 : Int32) (0 : Int32) (by omega) (by omega)

end
