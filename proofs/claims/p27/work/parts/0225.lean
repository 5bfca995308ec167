section
variable {l : Launch} {g : pm_G} {A0 : pm_H} {K nn dn : Nat} {q : Nat → Nat} {w : Nat → Int32} {e : Nat → Nat → Int32} {v : Nat → Int32} {f : Nat → Nat → Int32}
set_option maxRecDepth 100000 in
set_option maxHeartbeats 2000000 in
theorem c_X1_unlikeTwos (hI : cw_I K nn dn q w e) (hs : cw_S v f) {o1 : Nat} (ho1 : cw_ro K o1) (x2 : Int32) (x3 : Int32) (p0 : 0 ≤ x2.toInt ∧ x2.toInt ≤ x3.toInt ∧ x3.toInt < (w o1).toInt) : pm_Mt l g 86 1 0 0 [.ref (q 4), .ref (q o1), .int x2, .int x3] (cw A0 g K nn dn q w e v f) (cw_Qs A0 g K nn dn q w e (fun r v2 f2 => ∃ x : Int32, r = some (.int x) ∧ (True))) := by
  refine mt_X1_unlikeTwos rfl (fun J hC => ?_)
  have ro_nn : cw_ro K nn := hI.2.1.2.1
  have ro_dn : cw_ro K dn := hI.2.1.2.2.1
  have hu1 := hI.2.1
  unfold cw_W at hu1
  have rg_x2 := pm_rng x2
  have rg_x3 := pm_rng x3
  have zz0 := cw_sz hI ho1
  refine hC.1 0 0 _ _ rfl _ _ _ _ _ ?_
  refine Exists.intro _ (And.intro (cw_o4 hI.1) ?_)
  have k0 : (0 : Int32).toInt = 0 := rfl
  refine Exists.intro _ (Exists.intro _ (Exists.intro _ (Exists.intro _ (And.intro (c_fill (cw_a20 hI.1) (by decide) (0 : Int32)) (And.intro rfl (fun r9 A9 h9 => ?_))))))
  obtain ⟨rfl, rfl⟩ := h9
  rw [cw_s20 hI.1]
  obtain ⟨f2, ef2⟩ : ∃ z9, z9 = va_up f 20 (fun j => if j < 24 then (0 : Int32) else f 20 j) := ⟨_, rfl⟩
  rw [← ef2]
  have hs2 : cw_S v f2 := by rw [ef2]; exact cw_S_fr hs _ _ (by decide) (by decide)
  have k1 : (1 : Int32).toInt = 1 := rfl
  intro m3 em_13
  try have e3 : m3.toInt = (x2).toInt + (1) := by rw [em_13]; exact pm_addc _ _ (1) rfl (by omega) (by omega)
  have lp5 : ∀ (n : Nat) (z4_16 : Int32) (z5_16 : Int32) (v4 : Nat → Int32) (f4 : Nat → Nat → Int32), cw_S v4 f4 → (x2.toInt + 1 ≤ z5_16.toInt ∧ z5_16.toInt ≤ x3.toInt + 1) → 200 - z5_16.toInt < (n : Int) → J 16 [some (.ref (q 4)), some (.ref (q o1)), some (.int x2), some (.int x3), some (.int z4_16), some (.int z5_16), none, none] [] (cw A0 g K nn dn q w e v4 f4) 0 0 := by
    intro n
    induction n with
    | zero =>
      intro z4_16 z5_16 v4 f4 hs4 j0_16 j1_16
      omega
    | succ n ih6 =>
      intro z4_16 z5_16 v4 f4 hs4 j0_16 j1_16
      refine hC.1 1 16 _ _ rfl _ _ _ _ _ ?_
      refine And.intro (fun c7 => ?_) (fun c7 => ?_)
      · skip
        refine hC.1 3 109 _ _ rfl _ _ _ _ _ ?_
        exact ⟨rfl, fun e9 => absurd e9 (by decide), rfl, v4, f4, rfl, hs4, z4_16, rfl, by exact True.intro⟩
      · skip
        refine Exists.intro _ (And.intro (cw_ro_o hI.1 ho1) ?_)
        intro m8 em_29
        try have e8 : m8.toInt = (z5_16).toInt - (1) := by rw [em_29]; exact pm_subc _ _ (1) rfl (by omega) (by omega)
        refine Exists.intro _ (Exists.intro _ (And.intro (Or.inl (cw_ro_1 hI.1 ho1)) (And.intro (by omega) ?_)))
        have w9 := cw_col hI ho1 (m8).toInt.toNat
        refine Exists.intro _ (And.intro (cw_ro_o hI.1 ho1) ?_)
        refine Exists.intro _ (Exists.intro _ (And.intro (Or.inl (cw_ro_1 hI.1 ho1)) (And.intro (by omega) ?_)))
        have w10 := cw_col hI ho1 (z5_16).toInt.toNat
        refine Exists.intro _ (Exists.intro _ (Exists.intro _ (Exists.intro _ (And.intro (c_J9_min_7cf53 (cw A0 g K nn dn q w e v4 f4) (e (o1 + 1) (m8).toInt.toNat) (e (o1 + 1) (z5_16).toInt.toNat) ) (And.intro rfl (fun r9 A9 h9 => ?_))))))
        obtain ⟨y11, rfl, rfl, by11⟩ := h9
        refine Exists.intro _ (And.intro (cw_ro_o hI.1 ho1) ?_)
        intro m13 em_50
        try have e13 : m13.toInt = (z5_16).toInt - (1) := by rw [em_50]; exact pm_subc _ _ (1) rfl (by omega) (by omega)
        refine Exists.intro _ (Exists.intro _ (And.intro (Or.inl (cw_ro_1 hI.1 ho1)) (And.intro (by omega) ?_)))
        have w14 := cw_col hI ho1 (m13).toInt.toNat
        refine Exists.intro _ (And.intro (cw_ro_o hI.1 ho1) ?_)
        refine Exists.intro _ (Exists.intro _ (And.intro (Or.inl (cw_ro_1 hI.1 ho1)) (And.intro (by omega) ?_)))
        have w15 := cw_col hI ho1 (z5_16).toInt.toNat
        refine Exists.intro _ (Exists.intro _ (Exists.intro _ (Exists.intro _ (And.intro (c_J9_max_7cf53 (cw A0 g K nn dn q w e v4 f4) (e (o1 + 1) (m13).toInt.toNat) (e (o1 + 1) (z5_16).toInt.toNat) ) (And.intro rfl (fun r9 A9 h9 => ?_))))))
        obtain ⟨y16, rfl, rfl, by16⟩ := h9
        refine And.intro (fun c18 => ?_) (fun c18 => ?_)
        · skip
          have dc18 : (y11).toInt = (y16 : Int32).toInt := congrArg Int32.toInt c18
          refine hC.1 2 103 _ _ rfl _ _ _ _ _ ?_
          intro m19 em_103
          try have e19 : m19.toInt = (z5_16).toInt + (1) := by rw [em_103]; exact pm_addc _ _ (1) rfl (by omega) (by omega)
          exact hC.2 [false, false, false, false, false, false, true, true] _ _ _ _ _ _ (ih6 z4_16 m19 v4 f4 hs4 (by omega) (by omega))
        · skip
          have dc18 := pm_neI c18
          refine Exists.intro _ (And.intro (cw_o4 hI.1) ?_)
          refine Exists.intro _ (Exists.intro _ (And.intro (Or.inl (cw_a20 hI.1)) (And.intro (by omega) ?_)))
          refine And.intro (fun c20 => ?_) (fun c20 => ?_)
          · skip
            have dc20 := pm_neI c20
            refine hC.1 2 103 _ _ rfl _ _ _ _ _ ?_
            intro m21 em_103
            try have e21 : m21.toInt = (z5_16).toInt + (1) := by rw [em_103]; exact pm_addc _ _ (1) rfl (by omega) (by omega)
            exact hC.2 [false, false, false, false, false, false, true, true] _ _ _ _ _ _ (ih6 z4_16 m21 v4 f4 hs4 (by omega) (by omega))
          · skip
            have dc20 : (((f4 20 (y11).toInt.toNat) &&& ((1 : Int32) <<< (y16 &&& 31)))).toInt = (0 : Int32).toInt := congrArg Int32.toInt c20
            refine Exists.intro _ (And.intro (cw_o4 hI.1) ?_)
            refine Exists.intro _ (Exists.intro _ (And.intro (Or.inl (cw_a20 hI.1)) (And.intro (by omega) ?_)))
            refine Exists.intro _ (Exists.intro _ (And.intro (cw_a20 hI.1) (And.intro (by omega) ?_)))
            rw [cw_s20 hI.1]
            obtain ⟨f22, ef22⟩ : ∃ z9, z9 = va_up f4 20 (upd (f4 20) (y11).toInt.toNat ((f4 20 (y11).toInt.toNat) ||| ((1 : Int32) <<< (y16 &&& 31)))) := ⟨_, rfl⟩
            rw [← ef22]
            have hs22 : cw_S v4 f22 := by rw [ef22]; exact cw_S_fr hs4 _ _ (by decide) (by decide)
            intro m23 em_100
            try have e23 : m23.toInt = (z4_16).toInt + (1) := by rw [em_100]; exact pm_addc _ _ (1) rfl (by omega) (by omega)
            refine hC.1 2 103 _ _ rfl _ _ _ _ _ ?_
            intro m24 em_103
            try have e24 : m24.toInt = (z5_16).toInt + (1) := by rw [em_103]; exact pm_addc _ _ (1) rfl (by omega) (by omega)
            exact hC.2 [false, false, false, false, false, false, true, true] _ _ _ _ _ _ (ih6 m23 m24 v4 f22 hs22 (by omega) (by omega))
  exact lp5 (200 - m3.toInt).toNat.succ (0 : Int32) m3 v f2 hs2 (by omega) (by omega)

end
