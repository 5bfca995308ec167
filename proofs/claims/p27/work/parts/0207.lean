section
variable {l : Launch} {g : pm_G} {A0 : pm_H} {K nn dn : Nat} {q : Nat → Nat} {w : Nat → Int32} {e : Nat → Nat → Int32} {v : Nat → Int32} {f : Nat → Nat → Int32}
set_option maxRecDepth 100000 in
set_option maxHeartbeats 2000000 in
theorem c_X2_drop (hI : cw_I K nn dn q w e) (hs : cw_S v f) (x1 : Int32) (p0 : 0 ≤ x1.toInt ∧ x1.toInt ≤ 23) : pm_Mt l g 113 0 0 0 [.ref (q 2), .int x1] (cw A0 g K nn dn q w e v f) (cw_Qs A0 g K nn dn q w e (fun r v2 f2 => r = none ∧ (True))) := by
  refine mt_X2_drop rfl (fun J hC => ?_)
  have ro_nn : cw_ro K nn := hI.2.1.2.1
  have ro_dn : cw_ro K dn := hI.2.1.2.2.1
  have hu1 := hI.2.1
  unfold cw_W at hu1
  have rg_x1 := pm_rng x1
  refine hC.1 0 0 _ _ rfl _ _ _ _ _ ?_
  refine Exists.intro _ (And.intro (cw_o2 hI.1) ?_)
  have k1 : (1 : Int32).toInt = 1 := rfl
  intro m2 em_6
  try have e2 : m2.toInt = ((v 1)).toInt - (1) := by rw [em_6]; exact pm_subc _ _ (1) rfl (by omega) (by omega)
  refine Exists.intro _ (And.intro (cw_o2 hI.1) (And.intro rfl ?_))
  rw [cw_p_length hI.1]
  obtain ⟨v3, ev3⟩ : ∃ z9, z9 = upd v 1 m2 := ⟨_, rfl⟩
  rw [← ev3]
  have hs3 : cw_S v3 f := by rw [ev3]; exact cw_S_v hs 1 _ (by decide)
  have ev3_0 : (v3 0).toInt = (v 0).toInt := by rw [ev3]; rfl
  refine Exists.intro _ (And.intro (cw_o2 hI.1) ?_)
  refine Exists.intro _ (Exists.intro _ (And.intro (Or.inl (cw_a14 hI.1)) (And.intro (by omega) ?_)))
  intro m4 em_18
  try have e4 : m4.toInt = ((f 14 (x1).toInt.toNat)).toInt - (1) := by rw [em_18]; exact pm_subc _ _ (1) rfl (by omega) (by omega)
  refine Exists.intro _ (Exists.intro _ (And.intro (cw_a14 hI.1) (And.intro (by omega) ?_)))
  rw [cw_s14 hI.1]
  obtain ⟨f5, ef5⟩ : ∃ z9, z9 = va_up f 14 (upd (f 14) (x1).toInt.toNat m4) := ⟨_, rfl⟩
  rw [← ef5]
  have hs5 : cw_S v3 f5 := by rw [ef5]; exact cw_S_fr hs3 _ _ (by decide) (by decide)
  refine Exists.intro _ (And.intro (cw_o2 hI.1) ?_)
  refine Exists.intro _ (Exists.intro _ (And.intro (Or.inl (cw_a14 hI.1)) (And.intro (by omega) ?_)))
  refine And.intro (fun c6 => ?_) (fun c6 => ?_)
  · skip
    have dc6 := pm_neI c6
    have k0 : (0 : Int32).toInt = 0 := rfl
    refine hC.1 1 68 _ _ rfl _ _ _ _ _ ?_
    exact ⟨rfl, rfl, v3, f5, rfl, hs5, rfl, by exact True.intro⟩
  · skip
    have dc6 : ((f5 14 (x1).toInt.toNat)).toInt = (0 : Int32).toInt := congrArg Int32.toInt c6
    have k0 : (0 : Int32).toInt = 0 := rfl
    refine Exists.intro _ (And.intro (cw_o2 hI.1) ?_)
    intro m7 em_35
    try have e7 : m7.toInt = ((v3 2)).toInt - (1) := by rw [em_35]; exact pm_subc _ _ (1) rfl (by omega) (by omega)
    refine Exists.intro _ (And.intro (cw_o2 hI.1) (And.intro rfl ?_))
    rw [cw_p_kinds hI.1]
    obtain ⟨v8, ev8⟩ : ∃ z9, z9 = upd v3 2 m7 := ⟨_, rfl⟩
    rw [← ev8]
    have hs8 : cw_S v8 f5 := by rw [ev8]; exact cw_S_v hs5 2 _ (by decide)
    have ev8_0 : (v8 0).toInt = (v3 0).toInt := by rw [ev8]; rfl
    refine Exists.intro _ (And.intro (cw_o2 hI.1) ?_)
    have km1 : (-1 : Int32).toInt = -1 := rfl
    refine Exists.intro _ (And.intro (cw_o2 hI.1) (And.intro rfl ?_))
    rw [cw_p_bits hI.1]
    obtain ⟨v9, ev9⟩ : ∃ z9, z9 = upd v8 3 ((v8 3) &&& (((1 : Int32) <<< (x1 &&& 31)) ^^^ (-1 : Int32))) := ⟨_, rfl⟩
    rw [← ev9]
    have hs9 : cw_S v9 f5 := by rw [ev9]; exact cw_S_v hs8 3 _ (by decide)
    have ev9_0 : (v9 0).toInt = (v8 0).toInt := by rw [ev9]; rfl
    refine Exists.intro _ (And.intro (cw_o2 hI.1) ?_)
    refine Exists.intro _ (And.intro (cw_o2 hI.1) ?_)
    refine Exists.intro _ (Exists.intro _ (And.intro (Or.inl (cw_a15 hI.1)) (And.intro (by omega) ?_)))
    intro m10 em_64
    try have e10 : m10.toInt = ((v9 4)).toInt - ((e 15 (x1).toInt.toNat)).toInt := by rw [em_64]; exact pm_sub _ _ (by omega) (by omega)
    refine Exists.intro _ (And.intro (cw_o2 hI.1) (And.intro rfl ?_))
    rw [cw_p_mass hI.1]
    obtain ⟨v11, ev11⟩ : ∃ z9, z9 = upd v9 4 m10 := ⟨_, rfl⟩
    rw [← ev11]
    have hs11 : cw_S v11 f5 := by rw [ev11]; exact cw_S_v hs9 4 _ (by decide)
    have ev11_0 : (v11 0).toInt = (v9 0).toInt := by rw [ev11]; rfl
    refine hC.1 1 68 _ _ rfl _ _ _ _ _ ?_
    exact ⟨rfl, rfl, v11, f5, rfl, hs11, rfl, by exact True.intro⟩

end
