section
variable {l : Launch} {g : pm_G} {A0 : pm_H} {K nn dn : Nat} {q : Nat → Nat} {w : Nat → Int32} {e : Nat → Nat → Int32} {v : Nat → Int32} {f : Nat → Nat → Int32}
set_option maxRecDepth 100000 in
set_option maxHeartbeats 2000000 in
theorem c_X1_offerPair (hI : cw_I K nn dn q w e) (hs : cw_S v f) (x1 : Int32) (x2 : Int32)  : pm_Mt l g 83 0 0 0 [.ref (q 4), .int x1, .int x2] (cw A0 g K nn dn q w e v f) (cw_Qs A0 g K nn dn q w e (fun r v2 f2 => r = none ∧ (True))) := by
  refine mt_X1_offerPair rfl (fun J hC => ?_)
  have ro_nn : cw_ro K nn := hI.2.1.2.1
  have ro_dn : cw_ro K dn := hI.2.1.2.2.1
  have hu1 := hI.2.1
  unfold cw_W at hu1
  have rg_x1 := pm_rng x1
  have rg_x2 := pm_rng x2
  refine hC.1 0 0 _ _ rfl _ _ _ _ _ ?_
  refine Exists.intro _ (And.intro (cw_o4 hI.1) ?_)
  have km1 : (-1 : Int32).toInt = -1 := rfl
  refine And.intro (fun c2 => ?_) (fun c2 => ?_)
  · skip
    have dc2 : ((v 5)).toInt = ((-1 : Int32) : Int32).toInt := congrArg Int32.toInt c2
    refine hC.1 1 18 _ _ rfl _ _ _ _ _ ?_
    intro m3 em_21
    try have e3 : m3.toInt = (x2).toInt - (x1).toInt := by rw [em_21]; exact pm_sub _ _ (by omega) (by omega)
    refine Exists.intro _ (And.intro (cw_o4 hI.1) (And.intro rfl ?_))
    rw [cw_p_pairDistance hI.1]
    obtain ⟨v4, ev4⟩ : ∃ z9, z9 = upd v 5 m3 := ⟨_, rfl⟩
    rw [← ev4]
    have hs4 : cw_S v4 f := by rw [ev4]; exact cw_S_v hs 5 _ (by decide)
    have ev4_0 : (v4 0).toInt = (v 0).toInt := by rw [ev4]; rfl
    refine Exists.intro _ (And.intro (cw_o4 hI.1) (And.intro rfl ?_))
    rw [cw_p_pairFirst hI.1]
    obtain ⟨v5, ev5⟩ : ∃ z9, z9 = upd v4 6 x1 := ⟨_, rfl⟩
    rw [← ev5]
    have hs5 : cw_S v5 f := by rw [ev5]; exact cw_S_v hs4 6 _ (by decide)
    have ev5_0 : (v5 0).toInt = (v4 0).toInt := by rw [ev5]; rfl
    refine hC.1 2 30 _ _ rfl _ _ _ _ _ ?_
    exact ⟨rfl, rfl, v5, f, rfl, hs5, rfl, by exact True.intro⟩
  · skip
    have dc2 := pm_neI c2
    intro m6 em_10
    try have e6 : m6.toInt = (x2).toInt - (x1).toInt := by rw [em_10]; exact pm_sub _ _ (by omega) (by omega)
    refine Exists.intro _ (And.intro (cw_o4 hI.1) ?_)
    refine And.intro (fun c7 => ?_) (fun c7 => ?_)
    · skip
      refine hC.1 2 30 _ _ rfl _ _ _ _ _ ?_
      exact ⟨rfl, rfl, v, f, rfl, hs, rfl, by exact True.intro⟩
    · skip
      refine hC.1 1 18 _ _ rfl _ _ _ _ _ ?_
      intro m8 em_21
      try have e8 : m8.toInt = (x2).toInt - (x1).toInt := by rw [em_21]; exact pm_sub _ _ (by omega) (by omega)
      refine Exists.intro _ (And.intro (cw_o4 hI.1) (And.intro rfl ?_))
      rw [cw_p_pairDistance hI.1]
      obtain ⟨v9, ev9⟩ : ∃ z9, z9 = upd v 5 m8 := ⟨_, rfl⟩
      rw [← ev9]
      have hs9 : cw_S v9 f := by rw [ev9]; exact cw_S_v hs 5 _ (by decide)
      have ev9_0 : (v9 0).toInt = (v 0).toInt := by rw [ev9]; rfl
      refine Exists.intro _ (And.intro (cw_o4 hI.1) (And.intro rfl ?_))
      rw [cw_p_pairFirst hI.1]
      obtain ⟨v10, ev10⟩ : ∃ z9, z9 = upd v9 6 x1 := ⟨_, rfl⟩
      rw [← ev10]
      have hs10 : cw_S v10 f := by rw [ev10]; exact cw_S_v hs9 6 _ (by decide)
      have ev10_0 : (v10 0).toInt = (v9 0).toInt := by rw [ev10]; rfl
      refine hC.1 2 30 _ _ rfl _ _ _ _ _ ?_
      exact ⟨rfl, rfl, v10, f, rfl, hs10, rfl, by exact True.intro⟩

end
