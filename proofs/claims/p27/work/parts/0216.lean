section
variable {l : Launch} {g : pm_G} {A0 : pm_H} {K nn dn : Nat} {q : Nat → Nat} {w : Nat → Int32} {e : Nat → Nat → Int32} {v : Nat → Int32} {f : Nat → Nat → Int32}
set_option maxRecDepth 100000 in
set_option maxHeartbeats 2000000 in
theorem c_X0_listAsMet__cm1 (hI : cw_I K nn dn q w e) (hs : cw_S v f) {o1 : Nat} (ho1 : cw_ro K o1) (x2 : Int32) (x3 : Int32) (p0 : 0 ≤ x3.toInt ∧ x3.toInt ≤ x2.toInt ∧ x2.toInt < 160) : pm_Mt l g 69 1 0 0 [.ref (q 3), .ref (q o1), .int x2, .int x3, .int (-1)] (cw A0 g K nn dn q w e v f) (cw_Qs A0 g K nn dn q w e (fun r v2 f2 => r = none ∧ (True))) := by
  refine mt_X0_listAsMet rfl (fun J hC => ?_)
  have ro_nn : cw_ro K nn := hI.2.1.2.1
  have ro_dn : cw_ro K dn := hI.2.1.2.2.1
  have hu1 := hI.2.1
  unfold cw_W at hu1
  have rg_x2 := pm_rng x2
  have rg_x3 := pm_rng x3
  have km1 : (-1 : Int32).toInt = -1 := rfl
  have zz0 := cw_sz hI ho1
  refine hC.1 0 0 _ _ rfl _ _ _ _ _ ?_
  have k0 : (0 : Int32).toInt = 0 := rfl
  intro m2 em_5
  try have e2 : m2.toInt = (x3).toInt - (x2).toInt := by rw [em_5]; exact pm_sub _ _ (by omega) (by omega)
  refine Exists.intro _ (Exists.intro _ (Exists.intro _ (Exists.intro _ (And.intro (c_J9_abs_0f7a4 (cw A0 g K nn dn q w e v f) m2 ) (And.intro rfl (fun r9 A9 h9 => ?_))))))
  obtain ⟨y3, rfl, rfl, by3⟩ := h9
  refine Exists.intro _ (And.intro (cw_o3 hI.1) (And.intro rfl ?_))
  rw [cw_p_found hI.1]
  obtain ⟨v5, ev5⟩ : ∃ z9, z9 = upd v 0 (0 : Int32) := ⟨_, rfl⟩
  rw [← ev5]
  have hs5 : cw_S v5 f := by rw [ev5]; exact cw_S_v0 hs _ (by omega)
  have ev5_0 : (v5 0).toInt = ((0 : Int32)).toInt := by rw [ev5]; rfl
  have lp7 : ∀ (n : Nat) (z5_19 : Int32) (z7_19 : Int32) (v6 : Nat → Int32) (f6 : Nat → Nat → Int32), cw_S v6 f6 → (0 ≤ z7_19.toInt ∧ z7_19.toInt ≤ 160) → 200 - z7_19.toInt < (n : Int) → J 19 [some (.ref (q 3)), some (.ref (q o1)), some (.int x2), some (.int x3), some (.int (-1 : Int32)), some (.int z5_19), some (.int y3), some (.int z7_19), none] [] (cw A0 g K nn dn q w e v6 f6) 0 0 := by
    intro n
    induction n with
    | zero =>
      intro z5_19 z7_19 v6 f6 hs6 j0_19 j1_19
      omega
    | succ n ih8 =>
      intro z5_19 z7_19 v6 f6 hs6 j0_19 j1_19
      refine hC.1 1 19 _ _ rfl _ _ _ _ _ ?_
      refine And.intro (fun c9 => ?_) (fun c9 => ?_)
      · skip
        refine hC.1 3 95 _ _ rfl _ _ _ _ _ ?_
        exact ⟨rfl, rfl, v6, f6, rfl, hs6, rfl, by exact True.intro⟩
      · skip
        refine Exists.intro _ (And.intro (cw_ro_o hI.1 ho1) ?_)
        intro m10 em_35
        try have e10 : m10.toInt = (z7_19).toInt * (-1) := by rw [em_35]; exact pm_mulc _ _ (-1) rfl (by omega) (by omega)
        intro m11 em_36
        try have e11 : m11.toInt = (x2).toInt + (m10).toInt := by rw [em_36]; exact pm_add _ _ (by omega) (by omega)
        refine Exists.intro _ (Exists.intro _ (And.intro (Or.inl (cw_ro_1 hI.1 ho1)) (And.intro (by omega) ?_)))
        have w12 := cw_col hI ho1 (m11).toInt.toNat
        have k1 : (1 : Int32).toInt = 1 := rfl
        refine And.intro (fun c13 => ?_) (fun c13 => ?_)
        · skip
          have dc13 := pm_neI c13
          refine hC.1 2 89 _ _ rfl _ _ _ _ _ ?_
          intro m14 em_89
          try have e14 : m14.toInt = (z7_19).toInt + (1) := by rw [em_89]; exact pm_addc _ _ (1) rfl (by omega) (by omega)
          exact hC.2 [false, false, false, false, false, false, false, false, true] _ _ _ _ _ _ (ih8 z5_19 m14 v6 f6 hs6 (by omega) (by omega))
        · skip
          have dc13 : ((z5_19 &&& ((1 : Int32) <<< ((e (o1 + 1) (m11).toInt.toNat) &&& 31)))).toInt = (0 : Int32).toInt := congrArg Int32.toInt c13
          refine Exists.intro _ (And.intro (cw_o3 hI.1) ?_)
          have z15 := hs6.1
          have k24 : (24 : Int32).toInt = 24 := rfl
          refine And.intro (fun c16 => ?_) (fun c16 => ?_)
          · skip
            refine hC.1 2 89 _ _ rfl _ _ _ _ _ ?_
            intro m17 em_89
            try have e17 : m17.toInt = (z7_19).toInt + (1) := by rw [em_89]; exact pm_addc _ _ (1) rfl (by omega) (by omega)
            exact hC.2 [false, false, false, false, false, false, false, false, true] _ _ _ _ _ _ (ih8 z5_19 m17 v6 f6 hs6 (by omega) (by omega))
          · skip
            refine Exists.intro _ (And.intro (cw_o3 hI.1) ?_)
            refine Exists.intro _ (And.intro (cw_o3 hI.1) ?_)
            have z18 := hs6.1
            refine Exists.intro _ (Exists.intro _ (And.intro (cw_a16 hI.1) (And.intro (by omega) ?_)))
            rw [cw_s16 hI.1]
            obtain ⟨f19, ef19⟩ : ∃ z9, z9 = va_up f6 16 (upd (f6 16) ((v6 0)).toInt.toNat (e (o1 + 1) (m11).toInt.toNat)) := ⟨_, rfl⟩
            rw [← ef19]
            have hs19 : cw_S v6 f19 := by rw [ef19]; exact cw_S_f16 hs6 _ _ (by omega)
            refine Exists.intro _ (And.intro (cw_o3 hI.1) ?_)
            have z20 := hs19.1
            intro m21 em_85
            try have e21 : m21.toInt = ((v6 0)).toInt + (1) := by rw [em_85]; exact pm_addc _ _ (1) rfl (by omega) (by omega)
            refine Exists.intro _ (And.intro (cw_o3 hI.1) (And.intro rfl ?_))
            rw [cw_p_found hI.1]
            obtain ⟨v22, ev22⟩ : ∃ z9, z9 = upd v6 0 m21 := ⟨_, rfl⟩
            rw [← ev22]
            have hs22 : cw_S v22 f19 := by rw [ev22]; exact cw_S_v0 hs19 _ (by omega)
            have ev22_0 : (v22 0).toInt = (m21).toInt := by rw [ev22]; rfl
            refine hC.1 2 89 _ _ rfl _ _ _ _ _ ?_
            intro m23 em_89
            try have e23 : m23.toInt = (z7_19).toInt + (1) := by rw [em_89]; exact pm_addc _ _ (1) rfl (by omega) (by omega)
            exact hC.2 [false, false, false, false, false, false, false, false, true] _ _ _ _ _ _ (ih8 (z5_19 ||| ((1 : Int32) <<< ((e (o1 + 1) (m11).toInt.toNat) &&& 31))) m23 v22 f19 hs22 (by omega) (by omega))
  exact lp7 (200 - (0 : Int32).toInt).toNat.succ (0 : Int32) (0 : Int32) v5 f hs5 (by omega) (by omega)

end
