section
variable {l : Launch} {g : pm_G} {A0 : pm_H} {K nn dn : Nat} {q : Nat → Nat} {w : Nat → Int32} {e : Nat → Nat → Int32} {v : Nat → Int32} {f : Nat → Nat → Int32}
set_option maxRecDepth 100000 in
set_option maxHeartbeats 2000000 in
theorem c_X6_offerLonger (hI : cw_I K nn dn q w e) (hs : cw_S v f) (x1 : Int32) (x2 : Int32)  : pm_Mt l g 114 0 0 0 [.ref (q 5), .int x1, .int x2] (cw A0 g K nn dn q w e v f) (cw_Qs A0 g K nn dn q w e (fun r v2 f2 => r = none ∧ (True))) := by
  refine mt_X6_offerLonger rfl (fun J hC => ?_)
  have ro_nn : cw_ro K nn := hI.2.1.2.1
  have ro_dn : cw_ro K dn := hI.2.1.2.2.1
  have hu1 := hI.2.1
  unfold cw_W at hu1
  have rg_x1 := pm_rng x1
  have rg_x2 := pm_rng x2
  refine hC.1 0 0 _ _ rfl _ _ _ _ _ ?_
  refine Exists.intro _ (And.intro (cw_o5 hI.1) ?_)
  have km1 : (-1 : Int32).toInt = -1 := rfl
  refine And.intro (fun c2 => ?_) (fun c2 => ?_)
  · skip
    have dc2 : ((v 7)).toInt = ((-1 : Int32) : Int32).toInt := congrArg Int32.toInt c2
    refine hC.1 1 23 _ _ rfl _ _ _ _ _ ?_
    refine Exists.intro _ (And.intro (cw_o5 hI.1) (And.intro rfl ?_))
    rw [cw_p_first hI.1]
    obtain ⟨v3, ev3⟩ : ∃ z9, z9 = upd v 7 x1 := ⟨_, rfl⟩
    rw [← ev3]
    have hs3 : cw_S v3 f := by rw [ev3]; exact cw_S_v hs 7 _ (by decide)
    have ev3_0 : (v3 0).toInt = (v 0).toInt := by rw [ev3]; rfl
    refine Exists.intro _ (And.intro (cw_o5 hI.1) (And.intro rfl ?_))
    rw [cw_p_last hI.1]
    obtain ⟨v4, ev4⟩ : ∃ z9, z9 = upd v3 8 x2 := ⟨_, rfl⟩
    rw [← ev4]
    have hs4 : cw_S v4 f := by rw [ev4]; exact cw_S_v hs3 8 _ (by decide)
    have ev4_0 : (v4 0).toInt = (v3 0).toInt := by rw [ev4]; rfl
    refine hC.1 2 33 _ _ rfl _ _ _ _ _ ?_
    exact ⟨rfl, rfl, v4, f, rfl, hs4, rfl, by exact True.intro⟩
  · skip
    have dc2 := pm_neI c2
    intro m5 em_10
    try have e5 : m5.toInt = (x2).toInt - (x1).toInt := by rw [em_10]; exact pm_sub _ _ (by omega) (by omega)
    refine Exists.intro _ (And.intro (cw_o5 hI.1) ?_)
    refine Exists.intro _ (And.intro (cw_o5 hI.1) ?_)
    intro m6 em_19
    try have e6 : m6.toInt = ((v 8)).toInt - ((v 7)).toInt := by rw [em_19]; exact pm_sub _ _ (by omega) (by omega)
    refine And.intro (fun c7 => ?_) (fun c7 => ?_)
    · skip
      refine hC.1 2 33 _ _ rfl _ _ _ _ _ ?_
      exact ⟨rfl, rfl, v, f, rfl, hs, rfl, by exact True.intro⟩
    · skip
      refine hC.1 1 23 _ _ rfl _ _ _ _ _ ?_
      refine Exists.intro _ (And.intro (cw_o5 hI.1) (And.intro rfl ?_))
      rw [cw_p_first hI.1]
      obtain ⟨v8, ev8⟩ : ∃ z9, z9 = upd v 7 x1 := ⟨_, rfl⟩
      rw [← ev8]
      have hs8 : cw_S v8 f := by rw [ev8]; exact cw_S_v hs 7 _ (by decide)
      have ev8_0 : (v8 0).toInt = (v 0).toInt := by rw [ev8]; rfl
      refine Exists.intro _ (And.intro (cw_o5 hI.1) (And.intro rfl ?_))
      rw [cw_p_last hI.1]
      obtain ⟨v9, ev9⟩ : ∃ z9, z9 = upd v8 8 x2 := ⟨_, rfl⟩
      rw [← ev9]
      have hs9 : cw_S v9 f := by rw [ev9]; exact cw_S_v hs8 8 _ (by decide)
      have ev9_0 : (v9 0).toInt = (v8 0).toInt := by rw [ev9]; rfl
      refine hC.1 2 33 _ _ rfl _ _ _ _ _ ?_
      exact ⟨rfl, rfl, v9, f, rfl, hs9, rfl, by exact True.intro⟩

end
