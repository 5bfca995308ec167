section
variable {l : Launch} {g : pm_G} {A0 : pm_H} {K nn dn : Nat} {q : Nat → Nat} {w : Nat → Int32} {e : Nat → Nat → Int32} {v : Nat → Int32} {f : Nat → Nat → Int32}
set_option maxRecDepth 100000 in
set_option maxHeartbeats 2000000 in
theorem c_X0_reported (hI : cw_I K nn dn q w e) (hs : cw_S v f) {o1 : Nat} (ho1 : cw_ro K o1) (x2 : Int32) (x3 : Int32) (x4 : Int32) (p0 : 0 ≤ x2.toInt ∧ x2.toInt ≤ x3.toInt ∧ x3.toInt < (w o1).toInt) : pm_Mt l g 66 1 0 0 [.ref (q 3), .ref (q o1), .int x2, .int x3, .int x4] (cw A0 g K nn dn q w e v f) (cw_Qs A0 g K nn dn q w e (fun r v2 f2 => ∃ x : Int32, r = some (.int x) ∧ (True))) := by
  refine mt_X0_reported rfl (fun J hC => ?_)
  have hu1 := hI.2.1
  unfold cw_W at hu1
  have ro_nn : cw_ro K nn := hI.2.1.2.1
  have ro_dn : cw_ro K dn := hI.2.1.2.2.1
  have rg_x2 := pm_rng x2
  have rg_x3 := pm_rng x3
  have rg_x4 := pm_rng x4
  have zz0 := cw_sz hI ho1
  refine hC.1 0 0 _ _ rfl _ _ _ _ _ ?_
  refine Exists.intro _ (And.intro (cw_o3 hI.1) ?_)
  have km1 : (-1 : Int32).toInt = -1 := rfl
  refine Exists.intro _ (Exists.intro _ (Exists.intro _ (Exists.intro _ (And.intro (c_fill (cw_a17 hI.1) (by decide) (-1 : Int32)) (And.intro rfl (fun r9 A9 h9 => ?_))))))
  obtain ⟨rfl, rfl⟩ := h9
  rw [cw_s17 hI.1]
  obtain ⟨f2, ef2⟩ : ∃ z9, z9 = va_up f 17 (fun j => if j < 160 then (-1 : Int32) else f 17 j) := ⟨_, rfl⟩
  rw [← ef2]
  have hs2 : cw_S v f2 := by rw [ef2]; exact cw_S_fr hs _ _ (by decide) (by decide)
  have k0 : (0 : Int32).toInt = 0 := rfl
  have lp4 : ∀ (n : Nat) (z5_14 : Int32) (z6_14 : Int32) (v3 : Nat → Int32) (f3 : Nat → Nat → Int32), cw_S v3 f3 → (x2.toInt ≤ z6_14.toInt ∧ z6_14.toInt ≤ x3.toInt + 1) → 200 - z6_14.toInt < (n : Int) → J 14 [some (.ref (q 3)), some (.ref (q o1)), some (.int x2), some (.int x3), some (.int x4), some (.int z5_14), some (.int z6_14), none] [] (cw A0 g K nn dn q w e v3 f3) 0 0 := by
    intro n
    induction n with
    | zero =>
      intro z5_14 z6_14 v3 f3 hs3 j0_14 j1_14
      omega
    | succ n ih5 =>
      intro z5_14 z6_14 v3 f3 hs3 j0_14 j1_14
      refine hC.1 1 14 _ _ rfl _ _ _ _ _ ?_
      refine And.intro (fun c6 => ?_) (fun c6 => ?_)
      · skip
        refine hC.1 5 72 _ _ rfl _ _ _ _ _ ?_
        have lp8 : ∀ (n : Nat) (z5_75 : Int32) (z6_75 : Int32), (0 ≤ z6_75.toInt ∧ z6_75.toInt ≤ x2.toInt) → 200 - z6_75.toInt < (n : Int) → J 75 [some (.ref (q 3)), some (.ref (q o1)), some (.int x2), some (.int x3), some (.int x4), some (.int z5_75), some (.int z6_75), none] [] (cw A0 g K nn dn q w e v3 f3) 0 0 := by
          intro n
          induction n with
          | zero =>
            intro z5_75 z6_75 j0_75 j1_75
            omega
          | succ n ih9 =>
            intro z5_75 z6_75 j0_75 j1_75
            refine hC.1 6 75 _ _ rfl _ _ _ _ _ ?_
            refine And.intro (fun c10 => ?_) (fun c10 => ?_)
            · skip
              refine hC.1 9 116 _ _ rfl _ _ _ _ _ ?_
              exact ⟨rfl, fun e9 => absurd e9 (by decide), rfl, v3, f3, rfl, hs3, (-1 : Int32), rfl, by first | trivial | omega | (dsimp only; omega)⟩
            · skip
              refine Exists.intro _ (And.intro (cw_o3 hI.1) ?_)
              refine Exists.intro _ (Exists.intro _ (And.intro (Or.inl (cw_a17 hI.1)) (And.intro (by omega) ?_)))
              refine And.intro (fun c11 => ?_) (fun c11 => ?_)
              · skip
                have dc11 : ((f3 17 (z6_75).toInt.toNat)).toInt = ((-1 : Int32) : Int32).toInt := congrArg Int32.toInt c11
                refine hC.1 8 110 _ _ rfl _ _ _ _ _ ?_
                have k1 : (1 : Int32).toInt = 1 := rfl
                intro m12 em_110
                try have e12 : m12.toInt = (z6_75).toInt + (1) := by rw [em_110]; exact pm_addc _ _ (1) rfl (by omega) (by omega)
                exact ih9 z5_75 m12 (by omega) (by omega)
              · skip
                have dc11 := pm_neI c11
                refine And.intro (fun c13 => ?_) (fun c13 => ?_)
                · skip
                  have dc13 := pm_neI c13
                  refine hC.1 7 107 _ _ rfl _ _ _ _ _ ?_
                  have k1 : (1 : Int32).toInt = 1 := rfl
                  intro m14 em_107
                  try have e14 : m14.toInt = (z5_75).toInt + (1) := by rw [em_107]; exact pm_addc _ _ (1) rfl (by omega) (by omega)
                  refine hC.1 8 110 _ _ rfl _ _ _ _ _ ?_
                  intro m15 em_110
                  try have e15 : m15.toInt = (z6_75).toInt + (1) := by rw [em_110]; exact pm_addc _ _ (1) rfl (by omega) (by omega)
                  exact ih9 m14 m15 (by omega) (by omega)
                · skip
                  have dc13 : (z5_75).toInt = (x4 : Int32).toInt := congrArg Int32.toInt c13
                  refine Exists.intro _ (And.intro (cw_o3 hI.1) ?_)
                  refine Exists.intro _ (Exists.intro _ (And.intro (Or.inl (cw_a17 hI.1)) (And.intro (by omega) ?_)))
                  exact ⟨rfl, fun e9 => absurd e9 (by decide), rfl, v3, f3, rfl, hs3, (f3 17 (z6_75).toInt.toNat), rfl, by first | trivial | omega | (dsimp only; omega)⟩
        exact lp8 (200 - (0 : Int32).toInt).toNat.succ z5_14 (0 : Int32) (by omega) (by omega)
      · skip
        refine Exists.intro _ (And.intro (cw_ro_o hI.1 ho1) ?_)
        refine Exists.intro _ (Exists.intro _ (And.intro (Or.inl (cw_ro_3 hI.1 ho1)) (And.intro (by omega) ?_)))
        have w16 := cw_ahd hI ho1 (z6_14).toInt.toNat
        refine And.intro (fun c17 => ?_) (fun c17 => ?_)
        · skip
          have dc17 := pm_neI c17
          refine hC.1 3 51 _ _ rfl _ _ _ _ _ ?_
          refine And.intro (fun c18 => ?_) (fun c18 => ?_)
          · skip
            refine hC.1 4 66 _ _ rfl _ _ _ _ _ ?_
            have k1 : (1 : Int32).toInt = 1 := rfl
            intro m19 em_66
            try have e19 : m19.toInt = (z6_14).toInt + (1) := by rw [em_66]; exact pm_addc _ _ (1) rfl (by omega) (by omega)
            exact hC.2 [false, false, false, false, false, false, false, true] _ _ _ _ _ _ (ih5 z5_14 m19 v3 f3 hs3 (by omega) (by omega))
          · skip
            refine Exists.intro _ (And.intro (cw_o3 hI.1) ?_)
            refine Exists.intro _ (Exists.intro _ (And.intro (cw_a17 hI.1) (And.intro (by omega) ?_)))
            rw [cw_s17 hI.1]
            obtain ⟨f20, ef20⟩ : ∃ z9, z9 = va_up f3 17 (upd (f3 17) ((e (o1 + 3) (z6_14).toInt.toNat)).toInt.toNat z6_14) := ⟨_, rfl⟩
            rw [← ef20]
            have hs20 : cw_S v3 f20 := by rw [ef20]; exact cw_S_fr hs3 _ _ (by decide) (by decide)
            refine hC.1 4 66 _ _ rfl _ _ _ _ _ ?_
            have k1 : (1 : Int32).toInt = 1 := rfl
            intro m21 em_66
            try have e21 : m21.toInt = (z6_14).toInt + (1) := by rw [em_66]; exact pm_addc _ _ (1) rfl (by omega) (by omega)
            exact hC.2 [false, false, false, false, false, false, false, true] _ _ _ _ _ _ (ih5 z5_14 m21 v3 f20 hs20 (by omega) (by omega))
        · skip
          have dc17 : ((e (o1 + 3) (z6_14).toInt.toNat)).toInt = ((-1 : Int32) : Int32).toInt := congrArg Int32.toInt c17
          refine And.intro (fun c22 => ?_) (fun c22 => ?_)
          · skip
            have dc22 := pm_neI c22
            refine hC.1 2 45 _ _ rfl _ _ _ _ _ ?_
            have k1 : (1 : Int32).toInt = 1 := rfl
            intro m23 em_45
            try have e23 : m23.toInt = (z5_14).toInt + (1) := by rw [em_45]; exact pm_addc _ _ (1) rfl (by omega) (by omega)
            refine hC.1 4 66 _ _ rfl _ _ _ _ _ ?_
            intro m24 em_66
            try have e24 : m24.toInt = (z6_14).toInt + (1) := by rw [em_66]; exact pm_addc _ _ (1) rfl (by omega) (by omega)
            exact hC.2 [false, false, false, false, false, false, false, true] _ _ _ _ _ _ (ih5 m23 m24 v3 f3 hs3 (by omega) (by omega))
          · skip
            have dc22 : (z5_14).toInt = (x4 : Int32).toInt := congrArg Int32.toInt c22
            exact ⟨rfl, fun e9 => absurd e9 (by decide), rfl, v3, f3, rfl, hs3, z6_14, rfl, by first | trivial | omega | (dsimp only; omega)⟩
  exact lp4 (200 - x2.toInt).toNat.succ (0 : Int32) x2 v f2 hs2 (by omega) (by omega)

set_option maxRecDepth 100000 in
set_option maxHeartbeats 2000000 in
theorem c_X0_colourOf (hI : cw_I K nn dn q w e) (hs : cw_S v f) (x1 : Int32) (x2 : Int32)  : pm_Mt l g 71 0 0 0 [.ref (q 3), .int x1, .int x2] (cw A0 g K nn dn q w e v f) (md_Qp (cw A0 g K nn dn q w e v f) (fun r => True)) := by
  refine mt_X0_colourOf rfl (fun J hC => ?_)
  have hu1 := hI.2.1
  unfold cw_W at hu1
  have ro_nn : cw_ro K nn := hI.2.1.2.1
  have ro_dn : cw_ro K dn := hI.2.1.2.2.1
  have rg_x1 := pm_rng x1
  have rg_x2 := pm_rng x2
  refine hC.1 0 0 _ _ rfl _ _ _ _ _ ?_
  have k0 : (0 : Int32).toInt = 0 := rfl
  have lp3 : ∀ (n : Nat) (z3_5 : Int32) (z4_5 : Int32), (0 ≤ z4_5.toInt ∧ z4_5.toInt ≤ 24) → 200 - z4_5.toInt < (n : Int) → J 5 [some (.ref (q 3)), some (.int x1), some (.int x2), some (.int z3_5), some (.int z4_5)] [] (cw A0 g K nn dn q w e v f) 0 0 := by
    intro n
    induction n with
    | zero =>
      intro z3_5 z4_5 j0_5 j1_5
      omega
    | succ n ih4 =>
      intro z3_5 z4_5 j0_5 j1_5
      refine hC.1 1 5 _ _ rfl _ _ _ _ _ ?_
      have k24 : (24 : Int32).toInt = 24 := rfl
      refine And.intro (fun c5 => ?_) (fun c5 => ?_)
      · skip
        refine hC.1 4 38 _ _ rfl _ _ _ _ _ ?_
        have km1 : (-1 : Int32).toInt = -1 := rfl
        exact ⟨rfl, fun e9 => absurd e9 (by decide), rfl, (-1 : Int32), rfl, rfl, by first | trivial | omega | (dsimp only; omega)⟩
      · skip
        have k1 : (1 : Int32).toInt = 1 := rfl
        refine And.intro (fun c6 => ?_) (fun c6 => ?_)
        · skip
          have dc6 : ((x1 &&& ((1 : Int32) <<< (z4_5 &&& 31)))).toInt = (0 : Int32).toInt := congrArg Int32.toInt c6
          refine hC.1 3 32 _ _ rfl _ _ _ _ _ ?_
          intro m7 em_32
          try have e7 : m7.toInt = (z4_5).toInt + (1) := by rw [em_32]; exact pm_addc _ _ (1) rfl (by omega) (by omega)
          exact ih4 z3_5 m7 (by omega) (by omega)
        · skip
          have dc6 := pm_neI c6
          refine And.intro (fun c8 => ?_) (fun c8 => ?_)
          · skip
            have dc8 := pm_neI c8
            refine hC.1 2 29 _ _ rfl _ _ _ _ _ ?_
            intro m9 em_29
            try have e9 : m9.toInt = (z3_5).toInt + (1) := by rw [em_29]; exact pm_addc _ _ (1) rfl (by omega) (by omega)
            refine hC.1 3 32 _ _ rfl _ _ _ _ _ ?_
            intro m10 em_32
            try have e10 : m10.toInt = (z4_5).toInt + (1) := by rw [em_32]; exact pm_addc _ _ (1) rfl (by omega) (by omega)
            exact ih4 m9 m10 (by omega) (by omega)
          · skip
            have dc8 : (z3_5).toInt = (x2 : Int32).toInt := congrArg Int32.toInt c8
            exact ⟨rfl, fun e9 => absurd e9 (by decide), rfl, z4_5, rfl, rfl, by first | trivial | omega | (dsimp only; omega)⟩
  exact lp3 (200 - (0 : Int32).toInt).toNat.succ (0 : Int32) (0 : Int32) (by omega) (by omega)

set_option maxRecDepth 100000 in
set_option maxHeartbeats 2000000 in
theorem c_X0_listAsMet__c1 (hI : cw_I K nn dn q w e) (hs : cw_S v f) {o1 : Nat} (ho1 : cw_ro K o1) (x2 : Int32) (x3 : Int32) (p0 : 0 ≤ x2.toInt ∧ x2.toInt ≤ x3.toInt ∧ x3.toInt < 160) : pm_Mt l g 69 1 0 0 [.ref (q 3), .ref (q o1), .int x2, .int x3, .int (1)] (cw A0 g K nn dn q w e v f) (cw_Qs A0 g K nn dn q w e (fun r v2 f2 => r = none ∧ (True))) := by
  refine mt_X0_listAsMet rfl (fun J hC => ?_)
  have hu1 := hI.2.1
  unfold cw_W at hu1
  have ro_nn : cw_ro K nn := hI.2.1.2.1
  have ro_dn : cw_ro K dn := hI.2.1.2.2.1
  have rg_x2 := pm_rng x2
  have rg_x3 := pm_rng x3
  have k1 : (1 : Int32).toInt = 1 := rfl
  have zz0 := cw_sz hI ho1
  refine hC.1 0 0 _ _ rfl _ _ _ _ _ ?_
  have k0 : (0 : Int32).toInt = 0 := rfl
  intro m2 em_5
  try have e2 : m2.toInt = (x3).toInt - (x2).toInt := by rw [em_5]; exact pm_sub _ _ (by omega) (by omega)
  refine Exists.intro _ (Exists.intro _ (Exists.intro _ (Exists.intro _ (And.intro (c_J9_abs_0f7a4 (cw A0 g K nn dn q w e v f) m2 ) (And.intro rfl (fun r9 A9 h9 => ?_))))))
  obtain ⟨y3, rfl, rfl, by3⟩ := h9
  refine Exists.intro _ (And.intro (cw_o3 hI.1) (And.intro rfl ?_))
  rw [cw_p_found hI.1]
  obtain ⟨v5, ev5⟩ : ∃ z9, z9 = upd v 0 (0 : Int32) := ⟨_, rfl⟩
  rw [← ev5]
  have hs5 : cw_S v5 f := by rw [ev5]; exact cw_S_v0 hs _ (by omega)
  have ev5_0 : (v5 0).toInt = ((0 : Int32)).toInt := by rw [ev5]; rfl
  have lp7 : ∀ (n : Nat) (z5_19 : Int32) (z7_19 : Int32) (v6 : Nat → Int32) (f6 : Nat → Nat → Int32), cw_S v6 f6 → (0 ≤ z7_19.toInt ∧ z7_19.toInt ≤ 160) → 200 - z7_19.toInt < (n : Int) → J 19 [some (.ref (q 3)), some (.ref (q o1)), some (.int x2), some (.int x3), some (.int (1 : Int32)), some (.int z5_19), some (.int y3), some (.int z7_19), none] [] (cw A0 g K nn dn q w e v6 f6) 0 0 := by
    intro n
    induction n with
    | zero =>
      intro z5_19 z7_19 v6 f6 hs6 j0_19 j1_19
      omega
    | succ n ih8 =>
      intro z5_19 z7_19 v6 f6 hs6 j0_19 j1_19
      refine hC.1 1 19 _ _ rfl _ _ _ _ _ ?_
      refine And.intro (fun c9 => ?_) (fun c9 => ?_)
      · skip
        refine hC.1 3 95 _ _ rfl _ _ _ _ _ ?_
        exact ⟨rfl, rfl, v6, f6, rfl, hs6, rfl, by first | trivial | omega | (dsimp only; omega)⟩
      · skip
        refine Exists.intro _ (And.intro (cw_ro_o hI.1 ho1) ?_)
        intro m10 em_35
        try have e10 : m10.toInt = (z7_19).toInt * (1) := by rw [em_35]; exact pm_mulc _ _ (1) rfl (by omega) (by omega)
        intro m11 em_36
        try have e11 : m11.toInt = (x2).toInt + (m10).toInt := by rw [em_36]; exact pm_add _ _ (by omega) (by omega)
        refine Exists.intro _ (Exists.intro _ (And.intro (Or.inl (cw_ro_1 hI.1 ho1)) (And.intro (by omega) ?_)))
        have w12 := cw_col hI ho1 (m11).toInt.toNat
        refine And.intro (fun c13 => ?_) (fun c13 => ?_)
        · skip
          have dc13 := pm_neI c13
          refine hC.1 2 89 _ _ rfl _ _ _ _ _ ?_
          intro m14 em_89
          try have e14 : m14.toInt = (z7_19).toInt + (1) := by rw [em_89]; exact pm_addc _ _ (1) rfl (by omega) (by omega)
          exact hC.2 [false, false, false, false, false, false, false, false, true] _ _ _ _ _ _ (ih8 z5_19 m14 v6 f6 hs6 (by omega) (by omega))
        · skip
          have dc13 : ((z5_19 &&& ((1 : Int32) <<< ((e (o1 + 1) (m11).toInt.toNat) &&& 31)))).toInt = (0 : Int32).toInt := congrArg Int32.toInt c13
          refine Exists.intro _ (And.intro (cw_o3 hI.1) ?_)
          have z15 := hs6.1
          have k24 : (24 : Int32).toInt = 24 := rfl
          refine And.intro (fun c16 => ?_) (fun c16 => ?_)
          · skip
            refine hC.1 2 89 _ _ rfl _ _ _ _ _ ?_
            intro m17 em_89
            try have e17 : m17.toInt = (z7_19).toInt + (1) := by rw [em_89]; exact pm_addc _ _ (1) rfl (by omega) (by omega)
            exact hC.2 [false, false, false, false, false, false, false, false, true] _ _ _ _ _ _ (ih8 z5_19 m17 v6 f6 hs6 (by omega) (by omega))
          · skip
            refine Exists.intro _ (And.intro (cw_o3 hI.1) ?_)
            refine Exists.intro _ (And.intro (cw_o3 hI.1) ?_)
            have z18 := hs6.1
            refine Exists.intro _ (Exists.intro _ (And.intro (cw_a16 hI.1) (And.intro (by omega) ?_)))
            rw [cw_s16 hI.1]
            obtain ⟨f19, ef19⟩ : ∃ z9, z9 = va_up f6 16 (upd (f6 16) ((v6 0)).toInt.toNat (e (o1 + 1) (m11).toInt.toNat)) := ⟨_, rfl⟩
            rw [← ef19]
            have hs19 : cw_S v6 f19 := by rw [ef19]; exact cw_S_f16 hs6 _ _ (by omega)
            refine Exists.intro _ (And.intro (cw_o3 hI.1) ?_)
            have z20 := hs19.1
            intro m21 em_85
            try have e21 : m21.toInt = ((v6 0)).toInt + (1) := by rw [em_85]; exact pm_addc _ _ (1) rfl (by omega) (by omega)
            refine Exists.intro _ (And.intro (cw_o3 hI.1) (And.intro rfl ?_))
            rw [cw_p_found hI.1]
            obtain ⟨v22, ev22⟩ : ∃ z9, z9 = upd v6 0 m21 := ⟨_, rfl⟩
            rw [← ev22]
            have hs22 : cw_S v22 f19 := by rw [ev22]; exact cw_S_v0 hs19 _ (by omega)
            have ev22_0 : (v22 0).toInt = (m21).toInt := by rw [ev22]; rfl
            refine hC.1 2 89 _ _ rfl _ _ _ _ _ ?_
            intro m23 em_89
            try have e23 : m23.toInt = (z7_19).toInt + (1) := by rw [em_89]; exact pm_addc _ _ (1) rfl (by omega) (by omega)
            exact hC.2 [false, false, false, false, false, false, false, false, true] _ _ _ _ _ _ (ih8 (z5_19 ||| ((1 : Int32) <<< ((e (o1 + 1) (m11).toInt.toNat) &&& 31))) m23 v22 f19 hs22 (by omega) (by omega))
  exact lp7 (200 - (0 : Int32).toInt).toNat.succ (0 : Int32) (0 : Int32) v5 f hs5 (by omega) (by omega)

set_option maxRecDepth 100000 in
set_option maxHeartbeats 2000000 in
theorem c_X0_listAsMet__cm1 (hI : cw_I K nn dn q w e) (hs : cw_S v f) {o1 : Nat} (ho1 : cw_ro K o1) (x2 : Int32) (x3 : Int32) (p0 : 0 ≤ x3.toInt ∧ x3.toInt ≤ x2.toInt ∧ x2.toInt < 160) : pm_Mt l g 69 1 0 0 [.ref (q 3), .ref (q o1), .int x2, .int x3, .int (-1)] (cw A0 g K nn dn q w e v f) (cw_Qs A0 g K nn dn q w e (fun r v2 f2 => r = none ∧ (True))) := by
  refine mt_X0_listAsMet rfl (fun J hC => ?_)
  have hu1 := hI.2.1
  unfold cw_W at hu1
  have ro_nn : cw_ro K nn := hI.2.1.2.1
  have ro_dn : cw_ro K dn := hI.2.1.2.2.1
  have rg_x2 := pm_rng x2
  have rg_x3 := pm_rng x3
  have km1 : (-1 : Int32).toInt = -1 := rfl
  have zz0 := cw_sz hI ho1
  refine hC.1 0 0 _ _ rfl _ _ _ _ _ ?_
  have k0 : (0 : Int32).toInt = 0 := rfl
  intro m2 em_5
  try have e2 : m2.toInt = (x3).toInt - (x2).toInt := by rw [em_5]; exact pm_sub _ _ (by omega) (by omega)
  refine Exists.intro _ (Exists.intro _ (Exists.intro _ (Exists.intro _ (And.intro (c_J9_abs_0f7a4 (cw A0 g K nn dn q w e v f) m2 ) (And.intro rfl (fun r9 A9 h9 => ?_))))))
  obtain ⟨y3, rfl, rfl, by3⟩ := h9
  refine Exists.intro _ (And.intro (cw_o3 hI.1) (And.intro rfl ?_))
  rw [cw_p_found hI.1]
  obtain ⟨v5, ev5⟩ : ∃ z9, z9 = upd v 0 (0 : Int32) := ⟨_, rfl⟩
  rw [← ev5]
  have hs5 : cw_S v5 f := by rw [ev5]; exact cw_S_v0 hs _ (by omega)
  have ev5_0 : (v5 0).toInt = ((0 : Int32)).toInt := by rw [ev5]; rfl
  have lp7 : ∀ (n : Nat) (z5_19 : Int32) (z7_19 : Int32) (v6 : Nat → Int32) (f6 : Nat → Nat → Int32), cw_S v6 f6 → (0 ≤ z7_19.toInt ∧ z7_19.toInt ≤ 160) → 200 - z7_19.toInt < (n : Int) → J 19 [some (.ref (q 3)), some (.ref (q o1)), some (.int x2), some (.int x3), some (.int (-1 : Int32)), some (.int z5_19), some (.int y3), some (.int z7_19), none] [] (cw A0 g K nn dn q w e v6 f6) 0 0 := by
    intro n
    induction n with
    | zero =>
      intro z5_19 z7_19 v6 f6 hs6 j0_19 j1_19
      omega
    | succ n ih8 =>
      intro z5_19 z7_19 v6 f6 hs6 j0_19 j1_19
      refine hC.1 1 19 _ _ rfl _ _ _ _ _ ?_
      refine And.intro (fun c9 => ?_) (fun c9 => ?_)
      · skip
        refine hC.1 3 95 _ _ rfl _ _ _ _ _ ?_
        exact ⟨rfl, rfl, v6, f6, rfl, hs6, rfl, by first | trivial | omega | (dsimp only; omega)⟩
      · skip
        refine Exists.intro _ (And.intro (cw_ro_o hI.1 ho1) ?_)
        intro m10 em_35
        try have e10 : m10.toInt = (z7_19).toInt * (-1) := by rw [em_35]; exact pm_mulc _ _ (-1) rfl (by omega) (by omega)
        intro m11 em_36
        try have e11 : m11.toInt = (x2).toInt + (m10).toInt := by rw [em_36]; exact pm_add _ _ (by omega) (by omega)
        refine Exists.intro _ (Exists.intro _ (And.intro (Or.inl (cw_ro_1 hI.1 ho1)) (And.intro (by omega) ?_)))
        have w12 := cw_col hI ho1 (m11).toInt.toNat
        have k1 : (1 : Int32).toInt = 1 := rfl
        refine And.intro (fun c13 => ?_) (fun c13 => ?_)
        · skip
          have dc13 := pm_neI c13
          refine hC.1 2 89 _ _ rfl _ _ _ _ _ ?_
          intro m14 em_89
          try have e14 : m14.toInt = (z7_19).toInt + (1) := by rw [em_89]; exact pm_addc _ _ (1) rfl (by omega) (by omega)
          exact hC.2 [false, false, false, false, false, false, false, false, true] _ _ _ _ _ _ (ih8 z5_19 m14 v6 f6 hs6 (by omega) (by omega))
        · skip
          have dc13 : ((z5_19 &&& ((1 : Int32) <<< ((e (o1 + 1) (m11).toInt.toNat) &&& 31)))).toInt = (0 : Int32).toInt := congrArg Int32.toInt c13
          refine Exists.intro _ (And.intro (cw_o3 hI.1) ?_)
          have z15 := hs6.1
          have k24 : (24 : Int32).toInt = 24 := rfl
          refine And.intro (fun c16 => ?_) (fun c16 => ?_)
          · skip
            refine hC.1 2 89 _ _ rfl _ _ _ _ _ ?_
            intro m17 em_89
            try have e17 : m17.toInt = (z7_19).toInt + (1) := by rw [em_89]; exact pm_addc _ _ (1) rfl (by omega) (by omega)
            exact hC.2 [false, false, false, false, false, false, false, false, true] _ _ _ _ _ _ (ih8 z5_19 m17 v6 f6 hs6 (by omega) (by omega))
          · skip
            refine Exists.intro _ (And.intro (cw_o3 hI.1) ?_)
            refine Exists.intro _ (And.intro (cw_o3 hI.1) ?_)
            have z18 := hs6.1
            refine Exists.intro _ (Exists.intro _ (And.intro (cw_a16 hI.1) (And.intro (by omega) ?_)))
            rw [cw_s16 hI.1]
            obtain ⟨f19, ef19⟩ : ∃ z9, z9 = va_up f6 16 (upd (f6 16) ((v6 0)).toInt.toNat (e (o1 + 1) (m11).toInt.toNat)) := ⟨_, rfl⟩
            rw [← ef19]
            have hs19 : cw_S v6 f19 := by rw [ef19]; exact cw_S_f16 hs6 _ _ (by omega)
            refine Exists.intro _ (And.intro (cw_o3 hI.1) ?_)
            have z20 := hs19.1
            intro m21 em_85
            try have e21 : m21.toInt = ((v6 0)).toInt + (1) := by rw [em_85]; exact pm_addc _ _ (1) rfl (by omega) (by omega)
            refine Exists.intro _ (And.intro (cw_o3 hI.1) (And.intro rfl ?_))
            rw [cw_p_found hI.1]
            obtain ⟨v22, ev22⟩ : ∃ z9, z9 = upd v6 0 m21 := ⟨_, rfl⟩
            rw [← ev22]
            have hs22 : cw_S v22 f19 := by rw [ev22]; exact cw_S_v0 hs19 _ (by omega)
            have ev22_0 : (v22 0).toInt = (m21).toInt := by rw [ev22]; rfl
            refine hC.1 2 89 _ _ rfl _ _ _ _ _ ?_
            intro m23 em_89
            try have e23 : m23.toInt = (z7_19).toInt + (1) := by rw [em_89]; exact pm_addc _ _ (1) rfl (by omega) (by omega)
            exact hC.2 [false, false, false, false, false, false, false, false, true] _ _ _ _ _ _ (ih8 (z5_19 ||| ((1 : Int32) <<< ((e (o1 + 1) (m11).toInt.toNat) &&& 31))) m23 v22 f19 hs22 (by omega) (by omega))
  exact lp7 (200 - (0 : Int32).toInt).toNat.succ (0 : Int32) (0 : Int32) v5 f hs5 (by omega) (by omega)

set_option maxRecDepth 100000 in
set_option maxHeartbeats 2000000 in
theorem c_X0_listByMost__14 (hI : cw_I K nn dn q w e) (hs : cw_S v f)   : pm_Mt l g 72 0 0 0 [.ref (q 3), .ref (q 2), .ref (q 14)] (cw A0 g K nn dn q w e v f) (cw_Qs A0 g K nn dn q w e (fun r v2 f2 => r = none ∧ (True))) := by
  refine mt_X0_listByMost rfl (fun J hC => ?_)
  have hu1 := hI.2.1
  unfold cw_W at hu1
  have ro_nn : cw_ro K nn := hI.2.1.2.1
  have ro_dn : cw_ro K dn := hI.2.1.2.2.1
  refine hC.1 0 0 _ _ rfl _ _ _ _ _ ?_
  have k0 : (0 : Int32).toInt = 0 := rfl
  refine Exists.intro _ (And.intro (cw_o3 hI.1) (And.intro rfl ?_))
  rw [cw_p_found hI.1]
  obtain ⟨v2, ev2⟩ : ∃ z9, z9 = upd v 0 (0 : Int32) := ⟨_, rfl⟩
  rw [← ev2]
  have hs2 : cw_S v2 f := by rw [ev2]; exact cw_S_v0 hs _ (by omega)
  have ev2_0 : (v2 0).toInt = ((0 : Int32)).toInt := by rw [ev2]; rfl
  have lp4 : ∀ (n : Nat) (z3_7 : Int32) (v3 : Nat → Int32) (f3 : Nat → Nat → Int32), cw_S v3 f3 → (0 ≤ z3_7.toInt ∧ z3_7.toInt ≤ 24) → ((v3 0).toInt ≤ z3_7.toInt) → 200 - z3_7.toInt < (n : Int) → J 7 [some (.ref (q 3)), some (.ref (q 2)), some (.ref (q 14)), some (.int z3_7), none] [] (cw A0 g K nn dn q w e v3 f3) 0 0 := by
    intro n
    induction n with
    | zero =>
      intro z3_7 v3 f3 hs3 j0_7 j1_7 j2_7
      omega
    | succ n ih5 =>
      intro z3_7 v3 f3 hs3 j0_7 j1_7 j2_7
      refine hC.1 1 7 _ _ rfl _ _ _ _ _ ?_
      have k24 : (24 : Int32).toInt = 24 := rfl
      refine And.intro (fun c6 => ?_) (fun c6 => ?_)
      · skip
        refine hC.1 5 96 _ _ rfl _ _ _ _ _ ?_
        exact ⟨rfl, rfl, v3, f3, rfl, hs3, rfl, by first | trivial | omega | (dsimp only; omega)⟩
      · skip
        refine Exists.intro _ (And.intro (cw_o2 hI.1) ?_)
        refine Exists.intro _ (Exists.intro _ (And.intro (Or.inl (cw_a14 hI.1)) (And.intro (by omega) ?_)))
        refine And.intro (fun c7 => ?_) (fun c7 => ?_)
        · skip
          refine hC.1 4 90 _ _ rfl _ _ _ _ _ ?_
          have k1 : (1 : Int32).toInt = 1 := rfl
          intro m8 em_90
          try have e8 : m8.toInt = (z3_7).toInt + (1) := by rw [em_90]; exact pm_addc _ _ (1) rfl (by omega) (by omega)
          exact ih5 m8 v3 f3 hs3 (by omega) (by omega) (by omega)
        · skip
          refine Exists.intro _ (And.intro (cw_o3 hI.1) ?_)
          have z9 := hs3.1
          have lp11 : ∀ (n : Nat) (z4_28 : Int32) (v10 : Nat → Int32) (f10 : Nat → Nat → Int32), cw_S v10 f10 → (0 ≤ z4_28.toInt ∧ z4_28.toInt ≤ (v10 0).toInt ∧ (v10 0).toInt ≤ z3_7.toInt) → z4_28.toInt < (n : Int) → J 28 [some (.ref (q 3)), some (.ref (q 2)), some (.ref (q 14)), some (.int z3_7), some (.int z4_28)] [] (cw A0 g K nn dn q w e v10 f10) 0 0 := by
            intro n
            induction n with
            | zero =>
              intro z4_28 v10 f10 hs10 j0_28 j1_28
              omega
            | succ n ih12 =>
              intro z4_28 v10 f10 hs10 j0_28 j1_28
              refine hC.1 2 28 _ _ rfl _ _ _ _ _ ?_
              refine And.intro (fun c13 => ?_) (fun c13 => ?_)
              · skip
                refine hC.1 3 72 _ _ rfl _ _ _ _ _ ?_
                refine Exists.intro _ (And.intro (cw_o3 hI.1) ?_)
                refine Exists.intro _ (Exists.intro _ (And.intro (cw_a16 hI.1) (And.intro (by omega) ?_)))
                rw [cw_s16 hI.1]
                obtain ⟨f14, ef14⟩ : ∃ z9, z9 = va_up f10 16 (upd (f10 16) (z4_28).toInt.toNat z3_7) := ⟨_, rfl⟩
                rw [← ef14]
                have hs14 : cw_S v10 f14 := by rw [ef14]; exact cw_S_f16 hs10 _ _ (by omega)
                refine Exists.intro _ (And.intro (cw_o3 hI.1) ?_)
                have z15 := hs14.1
                have k1 : (1 : Int32).toInt = 1 := rfl
                intro m16 em_86
                try have e16 : m16.toInt = ((v10 0)).toInt + (1) := by rw [em_86]; exact pm_addc _ _ (1) rfl (by omega) (by omega)
                refine Exists.intro _ (And.intro (cw_o3 hI.1) (And.intro rfl ?_))
                rw [cw_p_found hI.1]
                obtain ⟨v17, ev17⟩ : ∃ z9, z9 = upd v10 0 m16 := ⟨_, rfl⟩
                rw [← ev17]
                have hs17 : cw_S v17 f14 := by rw [ev17]; exact cw_S_v0 hs14 _ (by omega)
                have ev17_0 : (v17 0).toInt = (m16).toInt := by rw [ev17]; rfl
                refine hC.1 4 90 _ _ rfl _ _ _ _ _ ?_
                intro m18 em_90
                try have e18 : m18.toInt = (z3_7).toInt + (1) := by rw [em_90]; exact pm_addc _ _ (1) rfl (by omega) (by omega)
                exact hC.2 [false, false, false, false, true] _ _ _ _ _ _ (ih5 m18 v17 f14 hs17 (by omega) (by omega) (by omega))
              · skip
                refine Exists.intro _ (And.intro (cw_o3 hI.1) ?_)
                have k1 : (1 : Int32).toInt = 1 := rfl
                intro m19 em_41
                try have e19 : m19.toInt = (z4_28).toInt - (1) := by rw [em_41]; exact pm_subc _ _ (1) rfl (by omega) (by omega)
                refine Exists.intro _ (Exists.intro _ (And.intro (Or.inl (cw_a16 hI.1)) (And.intro (by omega) ?_)))
                have w20 := hs10.2.1 (m19).toInt.toNat
                refine Exists.intro _ (Exists.intro _ (And.intro (Or.inl (cw_a14 hI.1)) (And.intro (by omega) ?_)))
                refine Exists.intro _ (Exists.intro _ (And.intro (Or.inl (cw_a14 hI.1)) (And.intro (by omega) ?_)))
                refine And.intro (fun c21 => ?_) (fun c21 => ?_)
                · skip
                  refine hC.1 3 72 _ _ rfl _ _ _ _ _ ?_
                  refine Exists.intro _ (And.intro (cw_o3 hI.1) ?_)
                  refine Exists.intro _ (Exists.intro _ (And.intro (cw_a16 hI.1) (And.intro (by omega) ?_)))
                  rw [cw_s16 hI.1]
                  obtain ⟨f22, ef22⟩ : ∃ z9, z9 = va_up f10 16 (upd (f10 16) (z4_28).toInt.toNat z3_7) := ⟨_, rfl⟩
                  rw [← ef22]
                  have hs22 : cw_S v10 f22 := by rw [ef22]; exact cw_S_f16 hs10 _ _ (by omega)
                  refine Exists.intro _ (And.intro (cw_o3 hI.1) ?_)
                  have z23 := hs22.1
                  intro m24 em_86
                  try have e24 : m24.toInt = ((v10 0)).toInt + (1) := by rw [em_86]; exact pm_addc _ _ (1) rfl (by omega) (by omega)
                  refine Exists.intro _ (And.intro (cw_o3 hI.1) (And.intro rfl ?_))
                  rw [cw_p_found hI.1]
                  obtain ⟨v25, ev25⟩ : ∃ z9, z9 = upd v10 0 m24 := ⟨_, rfl⟩
                  rw [← ev25]
                  have hs25 : cw_S v25 f22 := by rw [ev25]; exact cw_S_v0 hs22 _ (by omega)
                  have ev25_0 : (v25 0).toInt = (m24).toInt := by rw [ev25]; rfl
                  refine hC.1 4 90 _ _ rfl _ _ _ _ _ ?_
                  intro m26 em_90
                  try have e26 : m26.toInt = (z3_7).toInt + (1) := by rw [em_90]; exact pm_addc _ _ (1) rfl (by omega) (by omega)
                  exact hC.2 [false, false, false, false, true] _ _ _ _ _ _ (ih5 m26 v25 f22 hs25 (by omega) (by omega) (by omega))
                · skip
                  refine Exists.intro _ (And.intro (cw_o3 hI.1) ?_)
                  refine Exists.intro _ (And.intro (cw_o3 hI.1) ?_)
                  intro m27 em_63
                  try have e27 : m27.toInt = (z4_28).toInt - (1) := by rw [em_63]; exact pm_subc _ _ (1) rfl (by omega) (by omega)
                  refine Exists.intro _ (Exists.intro _ (And.intro (Or.inl (cw_a16 hI.1)) (And.intro (by omega) ?_)))
                  have w28 := hs10.2.1 (m27).toInt.toNat
                  refine Exists.intro _ (Exists.intro _ (And.intro (cw_a16 hI.1) (And.intro (by omega) ?_)))
                  rw [cw_s16 hI.1]
                  obtain ⟨f29, ef29⟩ : ∃ z9, z9 = va_up f10 16 (upd (f10 16) (z4_28).toInt.toNat (f10 16 (m27).toInt.toNat)) := ⟨_, rfl⟩
                  rw [← ef29]
                  have hs29 : cw_S v10 f29 := by rw [ef29]; exact cw_S_f16 hs10 _ _ (by omega)
                  have km1 : (-1 : Int32).toInt = -1 := rfl
                  intro m30 em_66
                  try have e30 : m30.toInt = (z4_28).toInt + (-1) := by rw [em_66]; exact pm_addc _ _ (-1) rfl (by omega) (by omega)
                  exact ih12 m30 v10 f29 hs29 (by omega) (by omega)
          exact lp11 ((v3 0).toInt).toNat.succ (v3 0) v3 f3 hs3 (by omega) (by omega)
  exact lp4 (200 - (0 : Int32).toInt).toNat.succ (0 : Int32) v2 f hs2 (by omega) (by omega) (by omega)

set_option maxRecDepth 100000 in
set_option maxHeartbeats 2000000 in
theorem c_X0_listByMost__15 (hI : cw_I K nn dn q w e) (hs : cw_S v f)   : pm_Mt l g 72 0 0 0 [.ref (q 3), .ref (q 2), .ref (q 15)] (cw A0 g K nn dn q w e v f) (cw_Qs A0 g K nn dn q w e (fun r v2 f2 => r = none ∧ (True))) := by
  refine mt_X0_listByMost rfl (fun J hC => ?_)
  have hu1 := hI.2.1
  unfold cw_W at hu1
  have ro_nn : cw_ro K nn := hI.2.1.2.1
  have ro_dn : cw_ro K dn := hI.2.1.2.2.1
  refine hC.1 0 0 _ _ rfl _ _ _ _ _ ?_
  have k0 : (0 : Int32).toInt = 0 := rfl
  refine Exists.intro _ (And.intro (cw_o3 hI.1) (And.intro rfl ?_))
  rw [cw_p_found hI.1]
  obtain ⟨v2, ev2⟩ : ∃ z9, z9 = upd v 0 (0 : Int32) := ⟨_, rfl⟩
  rw [← ev2]
  have hs2 : cw_S v2 f := by rw [ev2]; exact cw_S_v0 hs _ (by omega)
  have ev2_0 : (v2 0).toInt = ((0 : Int32)).toInt := by rw [ev2]; rfl
  have lp4 : ∀ (n : Nat) (z3_7 : Int32) (v3 : Nat → Int32) (f3 : Nat → Nat → Int32), cw_S v3 f3 → (0 ≤ z3_7.toInt ∧ z3_7.toInt ≤ 24) → ((v3 0).toInt ≤ z3_7.toInt) → 200 - z3_7.toInt < (n : Int) → J 7 [some (.ref (q 3)), some (.ref (q 2)), some (.ref (q 15)), some (.int z3_7), none] [] (cw A0 g K nn dn q w e v3 f3) 0 0 := by
    intro n
    induction n with
    | zero =>
      intro z3_7 v3 f3 hs3 j0_7 j1_7 j2_7
      omega
    | succ n ih5 =>
      intro z3_7 v3 f3 hs3 j0_7 j1_7 j2_7
      refine hC.1 1 7 _ _ rfl _ _ _ _ _ ?_
      have k24 : (24 : Int32).toInt = 24 := rfl
      refine And.intro (fun c6 => ?_) (fun c6 => ?_)
      · skip
        refine hC.1 5 96 _ _ rfl _ _ _ _ _ ?_
        exact ⟨rfl, rfl, v3, f3, rfl, hs3, rfl, by first | trivial | omega | (dsimp only; omega)⟩
      · skip
        refine Exists.intro _ (And.intro (cw_o2 hI.1) ?_)
        refine Exists.intro _ (Exists.intro _ (And.intro (Or.inl (cw_a14 hI.1)) (And.intro (by omega) ?_)))
        refine And.intro (fun c7 => ?_) (fun c7 => ?_)
        · skip
          refine hC.1 4 90 _ _ rfl _ _ _ _ _ ?_
          have k1 : (1 : Int32).toInt = 1 := rfl
          intro m8 em_90
          try have e8 : m8.toInt = (z3_7).toInt + (1) := by rw [em_90]; exact pm_addc _ _ (1) rfl (by omega) (by omega)
          exact ih5 m8 v3 f3 hs3 (by omega) (by omega) (by omega)
        · skip
          refine Exists.intro _ (And.intro (cw_o3 hI.1) ?_)
          have z9 := hs3.1
          have lp11 : ∀ (n : Nat) (z4_28 : Int32) (v10 : Nat → Int32) (f10 : Nat → Nat → Int32), cw_S v10 f10 → (0 ≤ z4_28.toInt ∧ z4_28.toInt ≤ (v10 0).toInt ∧ (v10 0).toInt ≤ z3_7.toInt) → z4_28.toInt < (n : Int) → J 28 [some (.ref (q 3)), some (.ref (q 2)), some (.ref (q 15)), some (.int z3_7), some (.int z4_28)] [] (cw A0 g K nn dn q w e v10 f10) 0 0 := by
            intro n
            induction n with
            | zero =>
              intro z4_28 v10 f10 hs10 j0_28 j1_28
              omega
            | succ n ih12 =>
              intro z4_28 v10 f10 hs10 j0_28 j1_28
              refine hC.1 2 28 _ _ rfl _ _ _ _ _ ?_
              refine And.intro (fun c13 => ?_) (fun c13 => ?_)
              · skip
                refine hC.1 3 72 _ _ rfl _ _ _ _ _ ?_
                refine Exists.intro _ (And.intro (cw_o3 hI.1) ?_)
                refine Exists.intro _ (Exists.intro _ (And.intro (cw_a16 hI.1) (And.intro (by omega) ?_)))
                rw [cw_s16 hI.1]
                obtain ⟨f14, ef14⟩ : ∃ z9, z9 = va_up f10 16 (upd (f10 16) (z4_28).toInt.toNat z3_7) := ⟨_, rfl⟩
                rw [← ef14]
                have hs14 : cw_S v10 f14 := by rw [ef14]; exact cw_S_f16 hs10 _ _ (by omega)
                refine Exists.intro _ (And.intro (cw_o3 hI.1) ?_)
                have z15 := hs14.1
                have k1 : (1 : Int32).toInt = 1 := rfl
                intro m16 em_86
                try have e16 : m16.toInt = ((v10 0)).toInt + (1) := by rw [em_86]; exact pm_addc _ _ (1) rfl (by omega) (by omega)
                refine Exists.intro _ (And.intro (cw_o3 hI.1) (And.intro rfl ?_))
                rw [cw_p_found hI.1]
                obtain ⟨v17, ev17⟩ : ∃ z9, z9 = upd v10 0 m16 := ⟨_, rfl⟩
                rw [← ev17]
                have hs17 : cw_S v17 f14 := by rw [ev17]; exact cw_S_v0 hs14 _ (by omega)
                have ev17_0 : (v17 0).toInt = (m16).toInt := by rw [ev17]; rfl
                refine hC.1 4 90 _ _ rfl _ _ _ _ _ ?_
                intro m18 em_90
                try have e18 : m18.toInt = (z3_7).toInt + (1) := by rw [em_90]; exact pm_addc _ _ (1) rfl (by omega) (by omega)
                exact hC.2 [false, false, false, false, true] _ _ _ _ _ _ (ih5 m18 v17 f14 hs17 (by omega) (by omega) (by omega))
              · skip
                refine Exists.intro _ (And.intro (cw_o3 hI.1) ?_)
                have k1 : (1 : Int32).toInt = 1 := rfl
                intro m19 em_41
                try have e19 : m19.toInt = (z4_28).toInt - (1) := by rw [em_41]; exact pm_subc _ _ (1) rfl (by omega) (by omega)
                refine Exists.intro _ (Exists.intro _ (And.intro (Or.inl (cw_a16 hI.1)) (And.intro (by omega) ?_)))
                have w20 := hs10.2.1 (m19).toInt.toNat
                refine Exists.intro _ (Exists.intro _ (And.intro (Or.inl (cw_a15 hI.1)) (And.intro (by omega) ?_)))
                refine Exists.intro _ (Exists.intro _ (And.intro (Or.inl (cw_a15 hI.1)) (And.intro (by omega) ?_)))
                refine And.intro (fun c21 => ?_) (fun c21 => ?_)
                · skip
                  refine hC.1 3 72 _ _ rfl _ _ _ _ _ ?_
                  refine Exists.intro _ (And.intro (cw_o3 hI.1) ?_)
                  refine Exists.intro _ (Exists.intro _ (And.intro (cw_a16 hI.1) (And.intro (by omega) ?_)))
                  rw [cw_s16 hI.1]
                  obtain ⟨f22, ef22⟩ : ∃ z9, z9 = va_up f10 16 (upd (f10 16) (z4_28).toInt.toNat z3_7) := ⟨_, rfl⟩
                  rw [← ef22]
                  have hs22 : cw_S v10 f22 := by rw [ef22]; exact cw_S_f16 hs10 _ _ (by omega)
                  refine Exists.intro _ (And.intro (cw_o3 hI.1) ?_)
                  have z23 := hs22.1
                  intro m24 em_86
                  try have e24 : m24.toInt = ((v10 0)).toInt + (1) := by rw [em_86]; exact pm_addc _ _ (1) rfl (by omega) (by omega)
                  refine Exists.intro _ (And.intro (cw_o3 hI.1) (And.intro rfl ?_))
                  rw [cw_p_found hI.1]
                  obtain ⟨v25, ev25⟩ : ∃ z9, z9 = upd v10 0 m24 := ⟨_, rfl⟩
                  rw [← ev25]
                  have hs25 : cw_S v25 f22 := by rw [ev25]; exact cw_S_v0 hs22 _ (by omega)
                  have ev25_0 : (v25 0).toInt = (m24).toInt := by rw [ev25]; rfl
                  refine hC.1 4 90 _ _ rfl _ _ _ _ _ ?_
                  intro m26 em_90
                  try have e26 : m26.toInt = (z3_7).toInt + (1) := by rw [em_90]; exact pm_addc _ _ (1) rfl (by omega) (by omega)
                  exact hC.2 [false, false, false, false, true] _ _ _ _ _ _ (ih5 m26 v25 f22 hs25 (by omega) (by omega) (by omega))
                · skip
                  refine Exists.intro _ (And.intro (cw_o3 hI.1) ?_)
                  refine Exists.intro _ (And.intro (cw_o3 hI.1) ?_)
                  intro m27 em_63
                  try have e27 : m27.toInt = (z4_28).toInt - (1) := by rw [em_63]; exact pm_subc _ _ (1) rfl (by omega) (by omega)
                  refine Exists.intro _ (Exists.intro _ (And.intro (Or.inl (cw_a16 hI.1)) (And.intro (by omega) ?_)))
                  have w28 := hs10.2.1 (m27).toInt.toNat
                  refine Exists.intro _ (Exists.intro _ (And.intro (cw_a16 hI.1) (And.intro (by omega) ?_)))
                  rw [cw_s16 hI.1]
                  obtain ⟨f29, ef29⟩ : ∃ z9, z9 = va_up f10 16 (upd (f10 16) (z4_28).toInt.toNat (f10 16 (m27).toInt.toNat)) := ⟨_, rfl⟩
                  rw [← ef29]
                  have hs29 : cw_S v10 f29 := by rw [ef29]; exact cw_S_f16 hs10 _ _ (by omega)
                  have km1 : (-1 : Int32).toInt = -1 := rfl
                  intro m30 em_66
                  try have e30 : m30.toInt = (z4_28).toInt + (-1) := by rw [em_66]; exact pm_addc _ _ (-1) rfl (by omega) (by omega)
                  exact ih12 m30 v10 f29 hs29 (by omega) (by omega)
          exact lp11 ((v3 0).toInt).toNat.succ (v3 0) v3 f3 hs3 (by omega) (by omega)
  exact lp4 (200 - (0 : Int32).toInt).toNat.succ (0 : Int32) v2 f hs2 (by omega) (by omega) (by omega)

end
