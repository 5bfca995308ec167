section
variable {l : Launch} {g : pm_G} {A0 : pm_H} {K nn dn : Nat} {q : Nat → Nat} {w : Nat → Int32} {e : Nat → Nat → Int32} {v : Nat → Int32} {f : Nat → Nat → Int32}
set_option maxRecDepth 100000 in
set_option maxHeartbeats 2000000 in
theorem c_X9_steadySince (hI : cw_I K nn dn q w e) (hs : cw_S v f) (x1 : Int32)  : pm_Mt l g 153 3 0 0 [.ref (q 1), .int x1] (cw A0 g K nn dn q w e v f) (md_Qp (cw A0 g K nn dn q w e v f) (fun r => True)) := by
  refine mt_X9_steadySince rfl (fun J hC => ?_)
  have ro_nn : cw_ro K nn := hI.2.1.2.1
  have ro_dn : cw_ro K dn := hI.2.1.2.2.1
  have hu1 := hI.2.1
  unfold cw_W at hu1
  have rg_x1 := pm_rng x1
  refine hC.1 0 0 _ _ rfl _ _ _ _ _ ?_
  refine Exists.intro _ (And.intro (cw_o1 hI.1) ?_)
  refine And.intro (Exists.intro _ (cw_ro_o hI.1 ro_nn)) (Exists.intro _ (Exists.intro _ (Exists.intro _ (Exists.intro _ (And.intro (c_X7_placeOf hI hs ro_nn x1 ) (And.intro rfl (fun r9 A9 h9 => ?_)))))))
  obtain ⟨y2, rfl, rfl, by2⟩ := h9
  have km1 : (-1 : Int32).toInt = -1 := rfl
  refine And.intro (fun c4 => ?_) (fun c4 => ?_)
  · skip
    have dc4 := pm_neI c4
    refine hC.1 1 16 _ _ rfl _ _ _ _ _ ?_
    refine Exists.intro _ (And.intro (cw_o1 hI.1) ?_)
    refine And.intro (Exists.intro _ (cw_ro_o hI.1 ro_nn)) (Exists.intro _ (Exists.intro _ (Exists.intro _ (Exists.intro _ (And.intro (c_X7_bondAt hI hs ro_nn y2 ) (And.intro rfl (fun r9 A9 h9 => ?_)))))))
    obtain ⟨y5, rfl, rfl, by5⟩ := h9
    refine Exists.intro _ (And.intro (cw_o1 hI.1) ?_)
    have k1 : (1 : Int32).toInt = 1 := rfl
    intro m7 em_30
    try have e7 : m7.toInt = ((w 0)).toInt - (1) := by rw [em_30]; exact pm_subc _ _ (1) rfl (by omega) (by omega)
    have lp9 : ∀ (n : Nat) (z4_33 : Int32), (-1 ≤ z4_33.toInt ∧ z4_33.toInt ≤ (w 0).toInt) → z4_33.toInt + 1 < (n : Int) → J 33 [some (.ref (q 1)), some (.int x1), some (.int y2), some (.int y5), some (.int z4_33), none] [] (cw A0 g K nn dn q w e v f) 0 0 := by
      intro n
      induction n with
      | zero =>
        intro z4_33 j0_33 j1_33
        omega
      | succ n ih10 =>
        intro z4_33 j0_33 j1_33
        refine hC.1 2 33 _ _ rfl _ _ _ _ _ ?_
        refine And.intro (fun c11 => ?_) (fun c11 => ?_)
        · skip
          refine hC.1 5 86 _ _ rfl _ _ _ _ _ ?_
          have k0 : (0 : Int32).toInt = 0 := rfl
          exact ⟨rfl, fun e9 => absurd e9 (by decide), rfl, (0 : Int32), rfl, rfl, by exact True.intro⟩
        · skip
          refine And.intro (Exists.intro _ (cw_o1 hI.1)) (Exists.intro _ (Exists.intro _ (Exists.intro _ (Exists.intro _ (And.intro (c_X9_behind hI hs z4_33 ) (And.intro rfl (fun r9 A9 h9 => ?_)))))))
          rcases h9 with ⟨rfl, rfl | ⟨o13, rfl, ho13⟩⟩
          · skip
            refine hC.1 3 75 _ _ rfl _ _ _ _ _ ?_
            intro m14 em_78
            try have e14 : m14.toInt = (z4_33).toInt + (1) := by rw [em_78]; exact pm_addc _ _ (1) rfl (by omega) (by omega)
            exact ⟨rfl, fun e9 => absurd e9 (by decide), rfl, m14, rfl, rfl, by exact True.intro⟩
          · skip
            refine And.intro (Exists.intro _ (cw_ro_o hI.1 ho13)) (Exists.intro _ (Exists.intro _ (Exists.intro _ (Exists.intro _ (And.intro (c_X7_hasName hI hs ho13 x1 ) (And.intro rfl (fun r9 A9 h9 => ?_)))))))
            rcases h9 with ⟨y15, rfl, rfl, ⟨rfl, by15⟩ | ⟨rfl, by15⟩⟩
            · skip
              refine And.intro (fun c9 => absurd c9 (by decide)) (fun _ => ?_)
              refine And.intro (Exists.intro _ (cw_ro_o hI.1 ho13)) (Exists.intro _ (Exists.intro _ (Exists.intro _ (Exists.intro _ (And.intro (c_X7_placeOf hI hs ho13 x1 ) (And.intro rfl (fun r9 A9 h9 => ?_)))))))
              obtain ⟨y17, rfl, rfl, by17⟩ := h9
              refine And.intro (Exists.intro _ (cw_ro_o hI.1 ho13)) (Exists.intro _ (Exists.intro _ (Exists.intro _ (Exists.intro _ (And.intro (c_X7_bondAt hI hs ho13 y17 ) (And.intro rfl (fun r9 A9 h9 => ?_)))))))
              obtain ⟨y19, rfl, rfl, by19⟩ := h9
              refine And.intro (fun c21 => ?_) (fun c21 => ?_)
              · skip
                have dc21 : (y19).toInt = (y5 : Int32).toInt := congrArg Int32.toInt c21
                refine hC.1 4 80 _ _ rfl _ _ _ _ _ ?_
                intro m22 em_80
                try have e22 : m22.toInt = (z4_33).toInt + (-1) := by rw [em_80]; exact pm_addc _ _ (-1) rfl (by omega) (by omega)
                exact hC.2 [false, false, false, false, false, true] _ _ _ _ _ _ (ih10 m22 (by omega) (by omega))
              · skip
                have dc21 := pm_neI c21
                refine hC.1 3 75 _ _ rfl _ _ _ _ _ ?_
                intro m23 em_78
                try have e23 : m23.toInt = (z4_33).toInt + (1) := by rw [em_78]; exact pm_addc _ _ (1) rfl (by omega) (by omega)
                exact ⟨rfl, fun e9 => absurd e9 (by decide), rfl, m23, rfl, rfl, by exact True.intro⟩
            · skip
              have k0 : (0 : Int32).toInt = 0 := rfl
              refine And.intro (fun _ => ?_) (fun c9 => absurd c9 (by decide))
              refine hC.1 3 75 _ _ rfl _ _ _ _ _ ?_
              intro m24 em_78
              try have e24 : m24.toInt = (z4_33).toInt + (1) := by rw [em_78]; exact pm_addc _ _ (1) rfl (by omega) (by omega)
              exact ⟨rfl, fun e9 => absurd e9 (by decide), rfl, m24, rfl, rfl, by exact True.intro⟩
    exact lp9 (m7.toInt + 1).toNat.succ m7 (by omega) (by omega)
  · skip
    have dc4 : (y2).toInt = ((-1 : Int32) : Int32).toInt := congrArg Int32.toInt c4
    exact ⟨rfl, fun e9 => absurd e9 (by decide), rfl, (-1 : Int32), rfl, rfl, by exact True.intro⟩

end
