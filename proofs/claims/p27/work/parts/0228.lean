section
variable {l : Launch} {g : pm_G} {A0 : pm_H} {K nn dn : Nat} {q : Nat → Nat} {w : Nat → Int32} {e : Nat → Nat → Int32} {v : Nat → Int32} {f : Nat → Nat → Int32}
set_option maxRecDepth 100000 in
set_option maxHeartbeats 2000000 in
theorem c_X6_endFound (hI : cw_I K nn dn q w e) (hs : cw_S v f) (x1 : Int32)  : pm_Mt l g 110 0 0 0 [.ref (q 5), .int x1] (cw A0 g K nn dn q w e v f) (md_Qp (cw A0 g K nn dn q w e v f) (fun r => True)) := by
  refine mt_X6_endFound rfl (fun J hC => ?_)
  have ro_nn : cw_ro K nn := hI.2.1.2.1
  have ro_dn : cw_ro K dn := hI.2.1.2.2.1
  have hu1 := hI.2.1
  unfold cw_W at hu1
  have rg_x1 := pm_rng x1
  refine hC.1 0 0 _ _ rfl _ _ _ _ _ ?_
  refine And.intro (fun c2 => ?_) (fun c2 => ?_)
  · skip
    have dc2 := pm_neI c2
    have k0 : (0 : Int32).toInt = 0 := rfl
    refine hC.1 1 11 _ _ rfl _ _ _ _ _ ?_
    have k1 : (1 : Int32).toInt = 1 := rfl
    refine And.intro (fun c3 => ?_) (fun c3 => ?_)
    · skip
      have dc3 := pm_neI c3
      refine hC.1 2 23 _ _ rfl _ _ _ _ _ ?_
      have km1 : (-1 : Int32).toInt = -1 := rfl
      refine hC.1 3 24 _ _ rfl _ _ _ _ _ ?_
      exact ⟨rfl, fun e9 => absurd e9 (by decide), rfl, (-1 : Int32), rfl, rfl, by exact True.intro⟩
    · skip
      have dc3 : (x1).toInt = ((1 : Int32) : Int32).toInt := congrArg Int32.toInt c3
      refine Exists.intro _ (And.intro (cw_o5 hI.1) ?_)
      refine hC.1 3 24 _ _ rfl _ _ _ _ _ ?_
      exact ⟨rfl, fun e9 => absurd e9 (by decide), rfl, (v 8), rfl, rfl, by exact True.intro⟩
  · skip
    have dc2 : (x1).toInt = (0 : Int32).toInt := congrArg Int32.toInt c2
    have k0 : (0 : Int32).toInt = 0 := rfl
    refine Exists.intro _ (And.intro (cw_o5 hI.1) ?_)
    refine hC.1 3 24 _ _ rfl _ _ _ _ _ ?_
    exact ⟨rfl, fun e9 => absurd e9 (by decide), rfl, (v 7), rfl, rfl, by exact True.intro⟩

set_option maxRecDepth 100000 in
set_option maxHeartbeats 2000000 in
theorem c_X6_clearFound (hI : cw_I K nn dn q w e) (hs : cw_S v f)   : pm_Mt l g 108 0 0 0 [.ref (q 5)] (cw A0 g K nn dn q w e v f) (cw_Qs A0 g K nn dn q w e (fun r v2 f2 => r = none ∧ (True))) := by
  refine mt_X6_clearFound rfl (fun J hC => ?_)
  have ro_nn : cw_ro K nn := hI.2.1.2.1
  have ro_dn : cw_ro K dn := hI.2.1.2.2.1
  have hu1 := hI.2.1
  unfold cw_W at hu1
  refine hC.1 0 0 _ _ rfl _ _ _ _ _ ?_
  have km1 : (-1 : Int32).toInt = -1 := rfl
  refine Exists.intro _ (And.intro (cw_o5 hI.1) (And.intro rfl ?_))
  rw [cw_p_first hI.1]
  obtain ⟨v2, ev2⟩ : ∃ z9, z9 = upd v 7 (-1 : Int32) := ⟨_, rfl⟩
  rw [← ev2]
  have hs2 : cw_S v2 f := by rw [ev2]; exact cw_S_v hs 7 _ (by decide)
  have ev2_0 : (v2 0).toInt = (v 0).toInt := by rw [ev2]; rfl
  refine Exists.intro _ (And.intro (cw_o5 hI.1) (And.intro rfl ?_))
  rw [cw_p_last hI.1]
  obtain ⟨v3, ev3⟩ : ∃ z9, z9 = upd v2 8 (-1 : Int32) := ⟨_, rfl⟩
  rw [← ev3]
  have hs3 : cw_S v3 f := by rw [ev3]; exact cw_S_v hs2 8 _ (by decide)
  have ev3_0 : (v3 0).toInt = (v2 0).toInt := by rw [ev3]; rfl
  exact ⟨rfl, rfl, v3, f, rfl, hs3, rfl, by exact True.intro⟩

end
