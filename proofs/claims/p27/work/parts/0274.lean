section
variable {l : Launch} {g : pm_G} {A0 : pm_H} {K nn dn : Nat} {q : Nat → Nat} {w : Nat → Int32} {e : Nat → Nat → Int32} {v : Nat → Int32} {f : Nat → Nat → Int32}
set_option maxRecDepth 100000 in
set_option maxHeartbeats 2000000 in
theorem c_X10_distance (hI : cw_I K nn dn q w e) (hs : cw_S v f) (x1 : Int32)  : pm_Mt l g 119 4 0 0 [.ref (q 0), .int x1] (cw A0 g K nn dn q w e v f) (cw_Qs A0 g K nn dn q w e (fun r v2 f2 => ∃ x : Int32, r = some (.int x) ∧ (True))) := by
  refine mt_X10_distance rfl (fun J hC => ?_)
  have ro_nn : cw_ro K nn := hI.2.1.2.1
  have ro_dn : cw_ro K dn := hI.2.1.2.2.1
  have hu1 := hI.2.1
  unfold cw_W at hu1
  have rg_x1 := pm_rng x1
  have zz0 := cw_sz hI ro_nn
  refine hC.1 0 0 _ _ rfl _ _ _ _ _ ?_
  refine Exists.intro _ (And.intro (cw_o0 hI.1) ?_)
  refine Exists.intro _ (And.intro (cw_o1 hI.1) ?_)
  refine And.intro (Exists.intro _ (cw_ro_o hI.1 ro_nn)) (Exists.intro _ (Exists.intro _ (Exists.intro _ (Exists.intro _ (And.intro (c_X7_has hI hs ro_nn x1 ) (And.intro rfl (fun r9 A9 h9 => ?_)))))))
  rcases h9 with ⟨y2, rfl, rfl, ⟨rfl, by2⟩ | ⟨rfl, by2⟩⟩
  · skip
    have k1 : (1 : Int32).toInt = 1 := rfl
    refine And.intro (fun c9 => absurd c9 (by decide)) (fun _ => ?_)
    refine Exists.intro _ (And.intro (cw_ro_o hI.1 ro_nn) ?_)
    refine Exists.intro _ (Exists.intro _ (And.intro (Or.inl (cw_ro_3 hI.1 ro_nn)) (And.intro (by omega) ?_)))
    have w4 := cw_ahd hI ro_nn (x1).toInt.toNat
    have km1 : (-1 : Int32).toInt = -1 := rfl
    refine And.intro (fun c5 => ?_) (fun c5 => ?_)
    · skip
      have dc5 := pm_neI c5
      refine hC.1 2 28 _ _ rfl _ _ _ _ _ ?_
      refine Exists.intro _ (And.intro (cw_ro_o hI.1 ro_nn) ?_)
      refine Exists.intro _ (Exists.intro _ (And.intro (Or.inl (cw_ro_3 hI.1 ro_nn)) (And.intro (by omega) ?_)))
      have w6 := cw_ahd hI ro_nn (x1).toInt.toNat
      intro m7 em_37
      try have e7 : m7.toInt = ((e (nn + 3) (x1).toInt.toNat)).toInt + (1) := by rw [em_37]; exact pm_addc _ _ (1) rfl (by omega) (by omega)
      intro m8 em_40
      try have e8 : m8.toInt = (x1).toInt - (1) := by rw [em_40]; exact pm_subc _ _ (1) rfl (by omega) (by omega)
      refine And.intro (Exists.intro _ (cw_o0 hI.1)) (Exists.intro _ (Exists.intro _ (Exists.intro _ (Exists.intro _ (And.intro (c_X10_colourNumber hI hs ro_nn m7 m8 ) (And.intro rfl (fun r9 A9 h9 => ?_)))))))
      rcases h9 with ⟨v10, f10, rfl, hs10, y9, rfl, by9⟩
      exact ⟨rfl, fun e9 => absurd e9 (by decide), rfl, v10, f10, rfl, hs10, y9, rfl, by exact True.intro⟩
    · skip
      have dc5 : ((e (nn + 3) (x1).toInt.toNat)).toInt = ((-1 : Int32) : Int32).toInt := congrArg Int32.toInt c5
      refine hC.1 1 26 _ _ rfl _ _ _ _ _ ?_
      exact ⟨rfl, fun e9 => absurd e9 (by decide), rfl, v, f, rfl, hs, (-1 : Int32), rfl, by exact True.intro⟩
  · skip
    have k0 : (0 : Int32).toInt = 0 := rfl
    refine And.intro (fun _ => ?_) (fun c9 => absurd c9 (by decide))
    refine hC.1 1 26 _ _ rfl _ _ _ _ _ ?_
    have km1 : (-1 : Int32).toInt = -1 := rfl
    exact ⟨rfl, fun e9 => absurd e9 (by decide), rfl, v, f, rfl, hs, (-1 : Int32), rfl, by exact True.intro⟩

end
