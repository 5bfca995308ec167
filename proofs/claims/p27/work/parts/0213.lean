section
variable {l : Launch} {g : pm_G} {A0 : pm_H} {K nn dn : Nat} {q : Nat → Nat} {w : Nat → Int32} {e : Nat → Nat → Int32} {v : Nat → Int32} {f : Nat → Nat → Int32}
set_option maxRecDepth 100000 in
set_option maxHeartbeats 2000000 in
theorem c_X0_reported (hI : cw_I K nn dn q w e) (hs : cw_S v f) {o1 : Nat} (ho1 : cw_ro K o1) (x2 : Int32) (x3 : Int32) (x4 : Int32) (p0 : 0 ≤ x2.toInt ∧ x2.toInt ≤ x3.toInt ∧ x3.toInt < (w o1).toInt) : pm_Mt l g 66 1 0 0 [.ref (q 3), .ref (q o1), .int x2, .int x3, .int x4] (cw A0 g K nn dn q w e v f) (cw_Qs A0 g K nn dn q w e (fun r v2 f2 => ∃ x : Int32, r = some (.int x) ∧ (True))) := by
  refine mt_X0_reported rfl (fun J hC => ?_)
  have ro_nn : cw_ro K nn := hI.2.1.2.1
  have ro_dn : cw_ro K dn := hI.2.1.2.2.1
  have hu1 := hI.2.1
  unfold cw_W at hu1
  have rg_x2 := pm_rng x2
  have rg_x3 := pm_rng x3
  have rg_x4 := pm_rng x4
  have zz0 := cw_sz hI ho1
  refine hC.1 0 0 _ _ rfl _ _ _ _ _ ?_
  refine Exists.intro _ (And.intro (cw_o3 hI.1) ?_)
  have km1 : (-1 : Int32).toInt = -1 := rfl
  refine Exists.intro _ (Exists.intro _ (Exists.intro _ (Exists.intro _ (And.intro (c_fill (cw_a17 hI.1) (by decide) (-1 : Int32)) (And.intro rfl (fun r9 A9 h9 => ?_))))))
  obtain ⟨rfl, rfl⟩ := h9
  rw [cw_s17 hI.1]
  obtain ⟨f2, ef2⟩ : ∃ z9, z9 = va_up f 17 (fun j => if j < 160 then (-1 : Int32) else f 17 j) := ⟨_, rfl⟩
  rw [← ef2]
  have hs2 : cw_S v f2 := by rw [ef2]; exact cw_S_fr hs _ _ (by decide) (by decide)
  have k0 : (0 : Int32).toInt = 0 := rfl
  have lp4 : ∀ (n : Nat) (z5_14 : Int32) (z6_14 : Int32) (v3 : Nat → Int32) (f3 : Nat → Nat → Int32), cw_S v3 f3 → (x2.toInt ≤ z6_14.toInt ∧ z6_14.toInt ≤ x3.toInt + 1) → 200 - z6_14.toInt < (n : Int) → J 14 [some (.ref (q 3)), some (.ref (q o1)), some (.int x2), some (.int x3), some (.int x4), some (.int z5_14), some (.int z6_14), none] [] (cw A0 g K nn dn q w e v3 f3) 0 0 := by
    intro n
    induction n with
    | zero =>
      intro z5_14 z6_14 v3 f3 hs3 j0_14 j1_14
      omega
    | succ n ih5 =>
      intro z5_14 z6_14 v3 f3 hs3 j0_14 j1_14
      refine hC.1 1 14 _ _ rfl _ _ _ _ _ ?_
      refine And.intro (fun c6 => ?_) (fun c6 => ?_)
      · skip
        refine hC.1 5 72 _ _ rfl _ _ _ _ _ ?_
        have lp8 : ∀ (n : Nat) (z5_75 : Int32) (z6_75 : Int32), (0 ≤ z6_75.toInt ∧ z6_75.toInt ≤ x2.toInt) → 200 - z6_75.toInt < (n : Int) → J 75 [some (.ref (q 3)), some (.ref (q o1)), some (.int x2), some (.int x3), some (.int x4), some (.int z5_75), some (.int z6_75), none] [] (cw A0 g K nn dn q w e v3 f3) 0 0 := by
          intro n
          induction n with
          | zero =>
            intro z5_75 z6_75 j0_75 j1_75
            omega
          | succ n ih9 =>
            intro z5_75 z6_75 j0_75 j1_75
            refine hC.1 6 75 _ _ rfl _ _ _ _ _ ?_
            refine And.intro (fun c10 => ?_) (fun c10 => ?_)
            · skip
              refine hC.1 9 116 _ _ rfl _ _ _ _ _ ?_
              exact ⟨rfl, fun e9 => absurd e9 (by decide), rfl, v3, f3, rfl, hs3, (-1 : Int32), rfl, by exact True.intro⟩
            · skip
              refine Exists.intro _ (And.intro (cw_o3 hI.1) ?_)
              refine Exists.intro _ (Exists.intro _ (And.intro (Or.inl (cw_a17 hI.1)) (And.intro (by omega) ?_)))
              refine And.intro (fun c11 => ?_) (fun c11 => ?_)
              · skip
                have dc11 : ((f3 17 (z6_75).toInt.toNat)).toInt = ((-1 : Int32) : Int32).toInt := congrArg Int32.toInt c11
                refine hC.1 8 110 _ _ rfl _ _ _ _ _ ?_
                have k1 : (1 : Int32).toInt = 1 := rfl
                intro m12 em_110
                try have e12 : m12.toInt = (z6_75).toInt + (1) := by rw [em_110]; exact pm_addc _ _ (1) rfl (by omega) (by omega)
                exact ih9 z5_75 m12 (by omega) (by omega)
              · skip
                have dc11 := pm_neI c11
                refine And.intro (fun c13 => ?_) (fun c13 => ?_)
                · skip
                  have dc13 := pm_neI c13
                  refine hC.1 7 107 _ _ rfl _ _ _ _ _ ?_
                  have k1 : (1 : Int32).toInt = 1 := rfl
                  intro m14 em_107
                  try have e14 : m14.toInt = (z5_75).toInt + (1) := by rw [em_107]; exact pm_addc _ _ (1) rfl (by omega) (by omega)
                  refine hC.1 8 110 _ _ rfl _ _ _ _ _ ?_
                  intro m15 em_110
                  try have e15 : m15.toInt = (z6_75).toInt + (1) := by rw [em_110]; exact pm_addc _ _ (1) rfl (by omega) (by omega)
                  exact ih9 m14 m15 (by omega) (by omega)
                · skip
                  have dc13 : (z5_75).toInt = (x4 : Int32).toInt := congrArg Int32.toInt c13
                  refine Exists.intro _ (And.intro (cw_o3 hI.1) ?_)
                  refine Exists.intro _ (Exists.intro _ (And.intro (Or.inl (cw_a17 hI.1)) (And.intro (by omega) ?_)))
                  exact ⟨rfl, fun e9 => absurd e9 (by decide), rfl, v3, f3, rfl, hs3, (f3 17 (z6_75).toInt.toNat), rfl, by exact True.intro⟩
        exact lp8 (200 - (0 : Int32).toInt).toNat.succ z5_14 (0 : Int32) (by omega) (by omega)
      · skip
        refine Exists.intro _ (And.intro (cw_ro_o hI.1 ho1) ?_)
        refine Exists.intro _ (Exists.intro _ (And.intro (Or.inl (cw_ro_3 hI.1 ho1)) (And.intro (by omega) ?_)))
        have w16 := cw_ahd hI ho1 (z6_14).toInt.toNat
        refine And.intro (fun c17 => ?_) (fun c17 => ?_)
        · skip
          have dc17 := pm_neI c17
          refine hC.1 3 51 _ _ rfl _ _ _ _ _ ?_
          refine And.intro (fun c18 => ?_) (fun c18 => ?_)
          · skip
            refine hC.1 4 66 _ _ rfl _ _ _ _ _ ?_
            have k1 : (1 : Int32).toInt = 1 := rfl
            intro m19 em_66
            try have e19 : m19.toInt = (z6_14).toInt + (1) := by rw [em_66]; exact pm_addc _ _ (1) rfl (by omega) (by omega)
            exact hC.2 [false, false, false, false, false, false, false, true] _ _ _ _ _ _ (ih5 z5_14 m19 v3 f3 hs3 (by omega) (by omega))
          · skip
            refine Exists.intro _ (And.intro (cw_o3 hI.1) ?_)
            refine Exists.intro _ (Exists.intro _ (And.intro (cw_a17 hI.1) (And.intro (by omega) ?_)))
            rw [cw_s17 hI.1]
            obtain ⟨f20, ef20⟩ : ∃ z9, z9 = va_up f3 17 (upd (f3 17) ((e (o1 + 3) (z6_14).toInt.toNat)).toInt.toNat z6_14) := ⟨_, rfl⟩
            rw [← ef20]
            have hs20 : cw_S v3 f20 := by rw [ef20]; exact cw_S_fr hs3 _ _ (by decide) (by decide)
            refine hC.1 4 66 _ _ rfl _ _ _ _ _ ?_
            have k1 : (1 : Int32).toInt = 1 := rfl
            intro m21 em_66
            try have e21 : m21.toInt = (z6_14).toInt + (1) := by rw [em_66]; exact pm_addc _ _ (1) rfl (by omega) (by omega)
            exact hC.2 [false, false, false, false, false, false, false, true] _ _ _ _ _ _ (ih5 z5_14 m21 v3 f20 hs20 (by omega) (by omega))
        · skip
          have dc17 : ((e (o1 + 3) (z6_14).toInt.toNat)).toInt = ((-1 : Int32) : Int32).toInt := congrArg Int32.toInt c17
          refine And.intro (fun c22 => ?_) (fun c22 => ?_)
          · skip
            have dc22 := pm_neI c22
            refine hC.1 2 45 _ _ rfl _ _ _ _ _ ?_
            have k1 : (1 : Int32).toInt = 1 := rfl
            intro m23 em_45
            try have e23 : m23.toInt = (z5_14).toInt + (1) := by rw [em_45]; exact pm_addc _ _ (1) rfl (by omega) (by omega)
            refine hC.1 4 66 _ _ rfl _ _ _ _ _ ?_
            intro m24 em_66
            try have e24 : m24.toInt = (z6_14).toInt + (1) := by rw [em_66]; exact pm_addc _ _ (1) rfl (by omega) (by omega)
            exact hC.2 [false, false, false, false, false, false, false, true] _ _ _ _ _ _ (ih5 m23 m24 v3 f3 hs3 (by omega) (by omega))
          · skip
            have dc22 : (z5_14).toInt = (x4 : Int32).toInt := congrArg Int32.toInt c22
            exact ⟨rfl, fun e9 => absurd e9 (by decide), rfl, v3, f3, rfl, hs3, z6_14, rfl, by exact True.intro⟩
  exact lp4 (200 - x2.toInt).toNat.succ (0 : Int32) x2 v f2 hs2 (by omega) (by omega)

end
