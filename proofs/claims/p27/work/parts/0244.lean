section
variable {l : Launch} {g : pm_G} {A0 : pm_H} {K nn dn : Nat} {q : Nat → Nat} {w : Nat → Int32} {e : Nat → Nat → Int32} {v : Nat → Int32} {f : Nat → Nat → Int32}
set_option maxRecDepth 100000 in
set_option maxHeartbeats 2000000 in
theorem c_X4_matching (hI : cw_I K nn dn q w e) (hs : cw_S v f) {o1 : Nat} (ho1 : cw_ro K o1) (x2 : Int32) (x3 : Int32) (x4 : Int32) (p0 : 0 ≤ x2.toInt ∧ x2.toInt ≤ x3.toInt ∧ x3.toInt < (w o1).toInt) : pm_Mt l g 135 2 0 0 [.ref (q 7), .ref (q o1), .int x2, .int x3, .int x4] (cw A0 g K nn dn q w e v f) (md_Qp (cw A0 g K nn dn q w e v f) (fun r => True)) := by
  refine mt_X4_matching rfl (fun J hC => ?_)
  have ro_nn : cw_ro K nn := hI.2.1.2.1
  have ro_dn : cw_ro K dn := hI.2.1.2.2.1
  have hu1 := hI.2.1
  unfold cw_W at hu1
  have rg_x2 := pm_rng x2
  have rg_x3 := pm_rng x3
  have rg_x4 := pm_rng x4
  have zz0 := cw_sz hI ho1
  refine hC.1 0 0 _ _ rfl _ _ _ _ _ ?_
  have k0 : (0 : Int32).toInt = 0 := rfl
  have lp3 : ∀ (n : Nat) (z5_6 : Int32) (z6_6 : Int32), (0 ≤ z6_6.toInt ∧ z6_6.toInt ≤ 160) → 200 - z6_6.toInt < (n : Int) → J 6 [some (.ref (q 7)), some (.ref (q o1)), some (.int x2), some (.int x3), some (.int x4), some (.int z5_6), some (.int z6_6)] [] (cw A0 g K nn dn q w e v f) 0 0 := by
    intro n
    induction n with
    | zero =>
      intro z5_6 z6_6 j0_6 j1_6
      omega
    | succ n ih4 =>
      intro z5_6 z6_6 j0_6 j1_6
      refine hC.1 1 6 _ _ rfl _ _ _ _ _ ?_
      intro m5 em_9
      try have e5 : m5.toInt = (z6_6).toInt + (x3).toInt := by rw [em_9]; exact pm_add _ _ (by omega) (by omega)
      intro m6 em_11
      try have e6 : m6.toInt = (m5).toInt - (x2).toInt := by rw [em_11]; exact pm_sub _ _ (by omega) (by omega)
      refine Exists.intro _ (And.intro (cw_ro_o hI.1 ho1) ?_)
      have z7 := cw_sz hI ho1
      refine And.intro (fun c8 => ?_) (fun c8 => ?_)
      · skip
        refine hC.1 4 53 _ _ rfl _ _ _ _ _ ?_
        have km1 : (-1 : Int32).toInt = -1 := rfl
        refine And.intro (fun c9 => ?_) (fun c9 => ?_)
        · skip
          have dc9 := pm_neI c9
          refine hC.1 5 64 _ _ rfl _ _ _ _ _ ?_
          refine hC.1 6 65 _ _ rfl _ _ _ _ _ ?_
          exact ⟨rfl, fun e9 => absurd e9 (by decide), rfl, (-1 : Int32), rfl, rfl, by exact True.intro⟩
        · skip
          have dc9 : (x4).toInt = ((-1 : Int32) : Int32).toInt := congrArg Int32.toInt c9
          refine hC.1 6 65 _ _ rfl _ _ _ _ _ ?_
          exact ⟨rfl, fun e9 => absurd e9 (by decide), rfl, z5_6, rfl, rfl, by exact True.intro⟩
      · skip
        intro m10 em_25
        try have e10 : m10.toInt = (x3).toInt - (x2).toInt := by rw [em_25]; exact pm_sub _ _ (by omega) (by omega)
        have k1 : (1 : Int32).toInt = 1 := rfl
        intro m11 em_27
        try have e11 : m11.toInt = (m10).toInt + (1) := by rw [em_27]; exact pm_addc _ _ (1) rfl (by omega) (by omega)
        refine Exists.intro _ (Exists.intro _ (Exists.intro _ (Exists.intro _ (And.intro (c_X4_areMatching hI hs ho1 x2 z6_6 m11 (by omega) (by omega)) (And.intro rfl (fun r9 A9 h9 => ?_))))))
        rcases h9 with ⟨y12, rfl, rfl, ⟨rfl, by12⟩ | ⟨rfl, by12⟩⟩
        · skip
          refine And.intro (fun c9 => absurd c9 (by decide)) (fun _ => ?_)
          refine And.intro (fun c14 => ?_) (fun c14 => ?_)
          · skip
            have dc14 := pm_neI c14
            refine hC.1 2 44 _ _ rfl _ _ _ _ _ ?_
            intro m15 em_44
            try have e15 : m15.toInt = (z5_6).toInt + (1) := by rw [em_44]; exact pm_addc _ _ (1) rfl (by omega) (by omega)
            refine hC.1 3 47 _ _ rfl _ _ _ _ _ ?_
            intro m16 em_47
            try have e16 : m16.toInt = (z6_6).toInt + (1) := by rw [em_47]; exact pm_addc _ _ (1) rfl (by omega) (by omega)
            exact ih4 m15 m16 (by omega) (by omega)
          · skip
            have dc14 : (z5_6).toInt = (x4 : Int32).toInt := congrArg Int32.toInt c14
            exact ⟨rfl, fun e9 => absurd e9 (by decide), rfl, z6_6, rfl, rfl, by exact True.intro⟩
        · skip
          refine And.intro (fun _ => ?_) (fun c9 => absurd c9 (by decide))
          refine hC.1 3 47 _ _ rfl _ _ _ _ _ ?_
          intro m17 em_47
          try have e17 : m17.toInt = (z6_6).toInt + (1) := by rw [em_47]; exact pm_addc _ _ (1) rfl (by omega) (by omega)
          exact ih4 z5_6 m17 (by omega) (by omega)
  exact lp3 (200 - (0 : Int32).toInt).toNat.succ (0 : Int32) (0 : Int32) (by omega) (by omega)

end
