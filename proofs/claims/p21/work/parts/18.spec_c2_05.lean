section
variable {l : Launch} {g : pm_G} {A0 : pm_H} {K nn dn : Nat} {q : Nat → Nat} {w : Nat → Int32} {e : Nat → Nat → Int32} {v : Nat → Int32} {f : Nat → Nat → Int32}
set_option maxRecDepth 100000 in
set_option maxHeartbeats 2000000 in
theorem c_X3_worthOf (hI : cw_I K nn dn q w e) (hs : cw_S v f) (x1 : Int32) (x2 : Int32)  : pm_Mt l g 145 0 0 0 [.ref (q 8), .int x1, .int x2] (cw A0 g K nn dn q w e v f) (md_Qp (cw A0 g K nn dn q w e v f) (fun r => True)) := by
  refine mt_X3_worthOf rfl (fun J hC => ?_)
  have hu1 := hI.2.1
  unfold cw_W at hu1
  have ro_nn : cw_ro K nn := hI.2.1.2.1
  have ro_dn : cw_ro K dn := hI.2.1.2.2.1
  have rg_x1 := pm_rng x1
  have rg_x2 := pm_rng x2
  refine hC.1 0 0 _ _ rfl _ _ _ _ _ ?_
  refine And.intro (fun c2 => ?_) (fun c2 => ?_)
  · skip
    refine hC.1 1 25 _ _ rfl _ _ _ _ _ ?_
    have k0 : (0 : Int32).toInt = 0 := rfl
    refine hC.1 2 26 _ _ rfl _ _ _ _ _ ?_
    refine And.intro (fun _ => ?_) (fun c9 => absurd c9 (by decide))
    refine hC.1 3 42 _ _ rfl _ _ _ _ _ ?_
    have km1 : (-1 : Int32).toInt = -1 := rfl
    refine hC.1 4 43 _ _ rfl _ _ _ _ _ ?_
    exact ⟨rfl, fun e9 => absurd e9 (by decide), rfl, (-1 : Int32), rfl, rfl, by first | trivial | omega | (dsimp only; omega)⟩
  · skip
    have k8 : (8 : Int32).toInt = 8 := rfl
    refine And.intro (fun c3 => ?_) (fun c3 => ?_)
    · skip
      refine hC.1 1 25 _ _ rfl _ _ _ _ _ ?_
      have k0 : (0 : Int32).toInt = 0 := rfl
      refine hC.1 2 26 _ _ rfl _ _ _ _ _ ?_
      refine And.intro (fun _ => ?_) (fun c9 => absurd c9 (by decide))
      refine hC.1 3 42 _ _ rfl _ _ _ _ _ ?_
      have km1 : (-1 : Int32).toInt = -1 := rfl
      refine hC.1 4 43 _ _ rfl _ _ _ _ _ ?_
      exact ⟨rfl, fun e9 => absurd e9 (by decide), rfl, (-1 : Int32), rfl, rfl, by first | trivial | omega | (dsimp only; omega)⟩
    · skip
      refine And.intro (fun c4 => ?_) (fun c4 => ?_)
      · skip
        refine hC.1 1 25 _ _ rfl _ _ _ _ _ ?_
        have k0 : (0 : Int32).toInt = 0 := rfl
        refine hC.1 2 26 _ _ rfl _ _ _ _ _ ?_
        refine And.intro (fun _ => ?_) (fun c9 => absurd c9 (by decide))
        refine hC.1 3 42 _ _ rfl _ _ _ _ _ ?_
        have km1 : (-1 : Int32).toInt = -1 := rfl
        refine hC.1 4 43 _ _ rfl _ _ _ _ _ ?_
        exact ⟨rfl, fun e9 => absurd e9 (by decide), rfl, (-1 : Int32), rfl, rfl, by first | trivial | omega | (dsimp only; omega)⟩
      · skip
        have k160 : (160 : Int32).toInt = 160 := rfl
        refine And.intro (fun c5 => ?_) (fun c5 => ?_)
        · skip
          refine hC.1 1 25 _ _ rfl _ _ _ _ _ ?_
          have k0 : (0 : Int32).toInt = 0 := rfl
          refine hC.1 2 26 _ _ rfl _ _ _ _ _ ?_
          refine And.intro (fun _ => ?_) (fun c9 => absurd c9 (by decide))
          refine hC.1 3 42 _ _ rfl _ _ _ _ _ ?_
          have km1 : (-1 : Int32).toInt = -1 := rfl
          refine hC.1 4 43 _ _ rfl _ _ _ _ _ ?_
          exact ⟨rfl, fun e9 => absurd e9 (by decide), rfl, (-1 : Int32), rfl, rfl, by first | trivial | omega | (dsimp only; omega)⟩
        · skip
          have k1 : (1 : Int32).toInt = 1 := rfl
          refine hC.1 2 26 _ _ rfl _ _ _ _ _ ?_
          refine And.intro (fun c9 => absurd c9 (by decide)) (fun _ => ?_)
          refine Exists.intro _ (And.intro (cw_o8 hI.1) ?_)
          refine Exists.intro _ (Exists.intro _ (And.intro (Or.inr (cw_worths hI.1)) (And.intro (by omega) ?_)))
          have hw6 : (x1).toInt.toNat < 9 := by omega
          rw [cw_ww_lt hw6]
          refine Exists.intro _ (Exists.intro _ (And.intro (Or.inl (cw_wr hI.1 hw6)) (And.intro (by omega) ?_)))
          refine hC.1 4 43 _ _ rfl _ _ _ _ _ ?_
          exact ⟨rfl, fun e9 => absurd e9 (by decide), rfl, (f (26 + (x1).toInt.toNat) (x2).toInt.toNat), rfl, rfl, by first | trivial | omega | (dsimp only; omega)⟩

set_option maxRecDepth 100000 in
set_option maxHeartbeats 2000000 in
theorem c_X3_weighUp (hI : cw_I K nn dn q w e) (hs : cw_S v f) {o1 : Nat} (ho1 : cw_ro K o1) (x3 : Int32) (p0 : 1 ≤ x3.toInt ∧ x3.toInt ≤ 8) : pm_Mt l g 144 2 0 0 [.ref (q 8), .ref (q o1), .ref (q 2), .int x3] (cw A0 g K nn dn q w e v f) (cw_Qs A0 g K nn dn q w e (fun r v2 f2 => r = none ∧ (True))) := by
  refine mt_X3_weighUp rfl (fun J hC => ?_)
  have hu1 := hI.2.1
  unfold cw_W at hu1
  have ro_nn : cw_ro K nn := hI.2.1.2.1
  have ro_dn : cw_ro K dn := hI.2.1.2.2.1
  have rg_x3 := pm_rng x3
  have zz0 := cw_sz hI ho1
  refine hC.1 0 0 _ _ rfl _ _ _ _ _ ?_
  have k0 : (0 : Int32).toInt = 0 := rfl
  have lp3 : ∀ (n : Nat) (z4_3 : Int32) (v2 : Nat → Int32) (f2 : Nat → Nat → Int32), cw_S v2 f2 → (0 ≤ z4_3.toInt ∧ z4_3.toInt ≤ 9) → 200 - z4_3.toInt < (n : Int) → J 3 [some (.ref (q 8)), some (.ref (q o1)), some (.ref (q 2)), some (.int x3), some (.int z4_3), none, none, none] [] (cw A0 g K nn dn q w e v2 f2) 0 0 := by
    intro n
    induction n with
    | zero =>
      intro z4_3 v2 f2 hs2 j0_3 j1_3
      omega
    | succ n ih4 =>
      intro z4_3 v2 f2 hs2 j0_3 j1_3
      refine hC.1 1 3 _ _ rfl _ _ _ _ _ ?_
      refine And.intro (fun c5 => ?_) (fun c5 => ?_)
      · skip
        refine hC.1 2 26 _ _ rfl _ _ _ _ _ ?_
        refine Exists.intro _ (And.intro (cw_o8 hI.1) ?_)
        refine Exists.intro _ (Exists.intro _ (And.intro (Or.inr (cw_worths hI.1)) (And.intro (by omega) ?_)))
        have hw6 : ((0 : Int32)).toInt.toNat < 9 := by omega
        rw [cw_ww_lt hw6]
        refine Exists.intro _ (And.intro (cw_ro_o hI.1 ho1) ?_)
        have z7 := cw_sz hI ho1
        refine Exists.intro _ (Exists.intro _ (And.intro (cw_wr hI.1 hw6) (And.intro (by omega) ?_)))
        rw [cw_swr hI.1 hw6]
        obtain ⟨f8, ef8⟩ : ∃ z9, z9 = va_up f2 (26 + ((0 : Int32)).toInt.toNat) (upd (f2 (26 + ((0 : Int32)).toInt.toNat)) ((w o1)).toInt.toNat (0 : Int32)) := ⟨_, rfl⟩
        rw [← ef8]
        have hs8 : cw_S v2 f8 := by rw [ef8]; exact cw_S_fr hs2 _ _ (by omega) (by omega)
        refine Exists.intro _ (And.intro (cw_ro_o hI.1 ho1) ?_)
        have z9 := cw_sz hI ho1
        have k1 : (1 : Int32).toInt = 1 := rfl
        intro m10 em_43
        try have e10 : m10.toInt = ((w o1)).toInt - (1) := by rw [em_43]; exact pm_subc _ _ (1) rfl (by omega) (by omega)
        have lp12 : ∀ (n : Nat) (z4_46 : Int32) (v11 : Nat → Int32) (f11 : Nat → Nat → Int32), cw_S v11 f11 → (-1 ≤ z4_46.toInt ∧ z4_46.toInt ≤ 159) → z4_46.toInt + 1 < (n : Int) → J 46 [some (.ref (q 8)), some (.ref (q o1)), some (.ref (q 2)), some (.int x3), some (.int z4_46), none, none, none] [] (cw A0 g K nn dn q w e v11 f11) 0 0 := by
          intro n
          induction n with
          | zero =>
            intro z4_46 v11 f11 hs11 j0_46 j1_46
            omega
          | succ n ih13 =>
            intro z4_46 v11 f11 hs11 j0_46 j1_46
            refine hC.1 3 46 _ _ rfl _ _ _ _ _ ?_
            refine And.intro (fun c14 => ?_) (fun c14 => ?_)
            · skip
              refine hC.1 9 158 _ _ rfl _ _ _ _ _ ?_
              exact ⟨rfl, rfl, v11, f11, rfl, hs11, rfl, by first | trivial | omega | (dsimp only; omega)⟩
            · skip
              refine And.intro (Exists.intro _ (cw_o2 hI.1)) (Exists.intro _ (Exists.intro _ (Exists.intro _ (Exists.intro _ (And.intro (c_X2_clear hI hs11  ) (And.intro rfl (fun r9 A9 h9 => ?_)))))))
              rcases h9 with ⟨v16, f16, rfl, hs16, rfl, by15⟩
              have lp18 : ∀ (n : Nat) (z5_59 : Int32) (v17 : Nat → Int32) (f17 : Nat → Nat → Int32), cw_S v17 f17 → (z4_46.toInt ≤ z5_59.toInt ∧ z5_59.toInt ≤ 160) → 200 - z5_59.toInt < (n : Int) → J 59 [some (.ref (q 8)), some (.ref (q o1)), some (.ref (q 2)), some (.int x3), some (.int z4_46), some (.int z5_59), none, none] [] (cw A0 g K nn dn q w e v17 f17) 0 0 := by
                intro n
                induction n with
                | zero =>
                  intro z5_59 v17 f17 hs17 j0_59 j1_59
                  omega
                | succ n ih19 =>
                  intro z5_59 v17 f17 hs17 j0_59 j1_59
                  refine hC.1 4 59 _ _ rfl _ _ _ _ _ ?_
                  refine Exists.intro _ (And.intro (cw_ro_o hI.1 ho1) ?_)
                  have z20 := cw_sz hI ho1
                  refine And.intro (fun c21 => ?_) (fun c21 => ?_)
                  · skip
                    refine hC.1 8 152 _ _ rfl _ _ _ _ _ ?_
                    have km1 : (-1 : Int32).toInt = -1 := rfl
                    intro m22 em_152
                    try have e22 : m22.toInt = (z4_46).toInt + (-1) := by rw [em_152]; exact pm_addc _ _ (-1) rfl (by omega) (by omega)
                    exact hC.2 [false, false, false, false, false, true, false, false] _ _ _ _ _ _ (ih13 m22 v17 f17 hs17 (by omega) (by omega))
                  · skip
                    refine Exists.intro _ (And.intro (cw_ro_o hI.1 ho1) ?_)
                    refine Exists.intro _ (Exists.intro _ (And.intro (Or.inl (cw_ro_1 hI.1 ho1)) (And.intro (by omega) ?_)))
                    have w23 := cw_col hI ho1 (z5_59).toInt.toNat
                    refine And.intro (Exists.intro _ (cw_o2 hI.1)) (Exists.intro _ (Exists.intro _ (Exists.intro _ (Exists.intro _ (And.intro (c_X2_take hI hs17 (e (o1 + 1) (z5_59).toInt.toNat) (by omega)) (And.intro rfl (fun r9 A9 h9 => ?_)))))))
                    rcases h9 with ⟨v25, f25, rfl, hs25, rfl, by24⟩
                    have lp27 : ∀ (n : Nat) (z6_82 : Int32) (v26 : Nat → Int32) (f26 : Nat → Nat → Int32), cw_S v26 f26 → (1 ≤ z6_82.toInt ∧ z6_82.toInt ≤ 9) → 200 - z6_82.toInt < (n : Int) → J 82 [some (.ref (q 8)), some (.ref (q o1)), some (.ref (q 2)), some (.int x3), some (.int z4_46), some (.int z5_59), some (.int z6_82), none] [] (cw A0 g K nn dn q w e v26 f26) 0 0 := by
                      intro n
                      induction n with
                      | zero =>
                        intro z6_82 v26 f26 hs26 j0_82 j1_82
                        omega
                      | succ n ih28 =>
                        intro z6_82 v26 f26 hs26 j0_82 j1_82
                        refine hC.1 5 82 _ _ rfl _ _ _ _ _ ?_
                        refine And.intro (fun c29 => ?_) (fun c29 => ?_)
                        · skip
                          refine hC.1 7 146 _ _ rfl _ _ _ _ _ ?_
                          intro m30 em_146
                          try have e30 : m30.toInt = (z5_59).toInt + (1) := by rw [em_146]; exact pm_addc _ _ (1) rfl (by omega) (by omega)
                          exact hC.2 [false, false, false, false, false, false, true, false] _ _ _ _ _ _ (ih19 m30 v26 f26 hs26 (by omega) (by omega))
                        · skip
                          refine Exists.intro _ (And.intro (cw_o8 hI.1) ?_)
                          intro m31 em_95
                          try have e31 : m31.toInt = (z6_82).toInt - (1) := by rw [em_95]; exact pm_subc _ _ (1) rfl (by omega) (by omega)
                          refine Exists.intro _ (Exists.intro _ (And.intro (Or.inr (cw_worths hI.1)) (And.intro (by omega) ?_)))
                          have hw32 : (m31).toInt.toNat < 9 := by omega
                          rw [cw_ww_lt hw32]
                          intro m33 em_100
                          try have e33 : m33.toInt = (z5_59).toInt + (1) := by rw [em_100]; exact pm_addc _ _ (1) rfl (by omega) (by omega)
                          refine Exists.intro _ (Exists.intro _ (And.intro (Or.inl (cw_wr hI.1 hw32)) (And.intro (by omega) ?_)))
                          have km1 : (-1 : Int32).toInt = -1 := rfl
                          refine And.intro (fun c34 => ?_) (fun c34 => ?_)
                          · skip
                            have dc34 : ((f26 (26 + (m31).toInt.toNat) (m33).toInt.toNat)).toInt = ((-1 : Int32) : Int32).toInt := congrArg Int32.toInt c34
                            refine hC.1 6 140 _ _ rfl _ _ _ _ _ ?_
                            intro m35 em_140
                            try have e35 : m35.toInt = (z6_82).toInt + (1) := by rw [em_140]; exact pm_addc _ _ (1) rfl (by omega) (by omega)
                            exact hC.2 [false, false, false, false, false, false, false, true] _ _ _ _ _ _ (ih28 m35 v26 f26 hs26 (by omega) (by omega))
                          · skip
                            have dc34 := pm_neI c34
                            refine Exists.intro _ (And.intro (cw_o8 hI.1) ?_)
                            refine Exists.intro _ (Exists.intro _ (And.intro (Or.inr (cw_worths hI.1)) (And.intro (by omega) ?_)))
                            have hw36 : (z6_82).toInt.toNat < 9 := by omega
                            rw [cw_ww_lt hw36]
                            refine Exists.intro _ (And.intro (cw_o8 hI.1) ?_)
                            refine Exists.intro _ (Exists.intro _ (And.intro (Or.inr (cw_worths hI.1)) (And.intro (by omega) ?_)))
                            have hw37 : (z6_82).toInt.toNat < 9 := by omega
                            rw [cw_ww_lt hw37]
                            refine Exists.intro _ (Exists.intro _ (And.intro (Or.inl (cw_wr hI.1 hw37)) (And.intro (by omega) ?_)))
                            refine Exists.intro _ (And.intro (cw_o2 hI.1) ?_)
                            intro m38 em_135
                            try have e38 : m38.toInt = ((v26 2)).toInt + ((f26 (26 + (m31).toInt.toNat) (m33).toInt.toNat)).toInt := by rw [em_135]; exact pm_add _ _ (by omega) (by omega)
                            refine Exists.intro _ (Exists.intro _ (Exists.intro _ (Exists.intro _ (And.intro (c_J9_max_7cf53 (cw A0 g K nn dn q w e v26 f26) (f26 (26 + (z6_82).toInt.toNat) (z4_46).toInt.toNat) m38 ) (And.intro rfl (fun r9 A9 h9 => ?_))))))
                            obtain ⟨y39, rfl, rfl, by39⟩ := h9
                            refine Exists.intro _ (Exists.intro _ (And.intro (cw_wr hI.1 hw36) (And.intro (by omega) ?_)))
                            rw [cw_swr hI.1 hw36]
                            obtain ⟨f41, ef41⟩ : ∃ z9, z9 = va_up f26 (26 + (z6_82).toInt.toNat) (upd (f26 (26 + (z6_82).toInt.toNat)) (z4_46).toInt.toNat y39) := ⟨_, rfl⟩
                            rw [← ef41]
                            have hs41 : cw_S v26 f41 := by rw [ef41]; exact cw_S_fr hs26 _ _ (by omega) (by omega)
                            refine hC.1 6 140 _ _ rfl _ _ _ _ _ ?_
                            intro m42 em_140
                            try have e42 : m42.toInt = (z6_82).toInt + (1) := by rw [em_140]; exact pm_addc _ _ (1) rfl (by omega) (by omega)
                            exact hC.2 [false, false, false, false, false, false, false, true] _ _ _ _ _ _ (ih28 m42 v26 f41 hs41 (by omega) (by omega))
                    exact lp27 (200 - (1 : Int32).toInt).toNat.succ (1 : Int32) v25 f25 hs25 (by omega) (by omega)
              exact lp18 (200 - z4_46.toInt).toNat.succ z4_46 v16 f16 hs16 (by omega) (by omega)
        exact lp12 (m10.toInt + 1).toNat.succ m10 v2 f8 hs8 (by omega) (by omega)
      · skip
        refine Exists.intro _ (And.intro (cw_o8 hI.1) ?_)
        refine Exists.intro _ (Exists.intro _ (And.intro (Or.inr (cw_worths hI.1)) (And.intro (by omega) ?_)))
        have hw43 : (z4_3).toInt.toNat < 9 := by omega
        rw [cw_ww_lt hw43]
        have km1 : (-1 : Int32).toInt = -1 := rfl
        refine Exists.intro _ (Exists.intro _ (Exists.intro _ (Exists.intro _ (And.intro (c_fill (cw_wr hI.1 hw43) (by decide) (-1 : Int32)) (And.intro rfl (fun r9 A9 h9 => ?_))))))
        obtain ⟨rfl, rfl⟩ := h9
        rw [cw_swr hI.1 hw43]
        obtain ⟨f44, ef44⟩ : ∃ z9, z9 = va_up f2 (26 + (z4_3).toInt.toNat) (fun j => if j < 161 then (-1 : Int32) else f2 (26 + (z4_3).toInt.toNat) j) := ⟨_, rfl⟩
        rw [← ef44]
        have hs44 : cw_S v2 f44 := by rw [ef44]; exact cw_S_fr hs2 _ _ (by omega) (by omega)
        have k1 : (1 : Int32).toInt = 1 := rfl
        intro m45 em_20
        try have e45 : m45.toInt = (z4_3).toInt + (1) := by rw [em_20]; exact pm_addc _ _ (1) rfl (by omega) (by omega)
        exact ih4 m45 v2 f44 hs44 (by omega) (by omega)
  exact lp3 (200 - (0 : Int32).toInt).toNat.succ (0 : Int32) v f hs (by omega) (by omega)

set_option maxRecDepth 100000 in
set_option maxHeartbeats 2000000 in
theorem c_X3_shortestBestEnd (hI : cw_I K nn dn q w e) (hs : cw_S v f) {o1 : Nat} (ho1 : cw_ro K o1) (x3 : Int32) (x4 : Int32) (p0 : 0 ≤ x3.toInt ∧ x3.toInt ≤ 160) : pm_Mt l g 147 2 0 0 [.ref (q 8), .ref (q o1), .ref (q 2), .int x3, .int x4] (cw A0 g K nn dn q w e v f) (cw_Qs A0 g K nn dn q w e (fun r v2 f2 => ∃ x : Int32, r = some (.int x) ∧ (-1 ≤ x.toInt ∧ x.toInt ≤ 159))) := by
  refine mt_X3_shortestBestEnd rfl (fun J hC => ?_)
  have hu1 := hI.2.1
  unfold cw_W at hu1
  have ro_nn : cw_ro K nn := hI.2.1.2.1
  have ro_dn : cw_ro K dn := hI.2.1.2.2.1
  have rg_x3 := pm_rng x3
  have rg_x4 := pm_rng x4
  have zz0 := cw_sz hI ho1
  refine hC.1 0 0 _ _ rfl _ _ _ _ _ ?_
  refine And.intro (Exists.intro _ (cw_o2 hI.1)) (Exists.intro _ (Exists.intro _ (Exists.intro _ (Exists.intro _ (And.intro (c_X2_clear hI hs  ) (And.intro rfl (fun r9 A9 h9 => ?_)))))))
  rcases h9 with ⟨v3, f3, rfl, hs3, rfl, by2⟩
  have lp5 : ∀ (n : Nat) (z5_7 : Int32) (v4 : Nat → Int32) (f4 : Nat → Nat → Int32), cw_S v4 f4 → (0 ≤ z5_7.toInt ∧ z5_7.toInt ≤ 160) → 200 - z5_7.toInt < (n : Int) → J 7 [some (.ref (q 8)), some (.ref (q o1)), some (.ref (q 2)), some (.int x3), some (.int x4), some (.int z5_7), none] [] (cw A0 g K nn dn q w e v4 f4) 0 0 := by
    intro n
    induction n with
    | zero =>
      intro z5_7 v4 f4 hs4 j0_7 j1_7
      omega
    | succ n ih6 =>
      intro z5_7 v4 f4 hs4 j0_7 j1_7
      refine hC.1 1 7 _ _ rfl _ _ _ _ _ ?_
      refine Exists.intro _ (And.intro (cw_ro_o hI.1 ho1) ?_)
      have z7 := cw_sz hI ho1
      refine And.intro (fun c8 => ?_) (fun c8 => ?_)
      · skip
        refine hC.1 3 73 _ _ rfl _ _ _ _ _ ?_
        have km1 : (-1 : Int32).toInt = -1 := rfl
        exact ⟨rfl, fun e9 => absurd e9 (by decide), rfl, v4, f4, rfl, hs4, (-1 : Int32), rfl, by first | trivial | omega | (dsimp only; omega)⟩
      · skip
        refine Exists.intro _ (And.intro (cw_ro_o hI.1 ho1) ?_)
        refine Exists.intro _ (Exists.intro _ (And.intro (Or.inl (cw_ro_1 hI.1 ho1)) (And.intro (by omega) ?_)))
        have w9 := cw_col hI ho1 (z5_7).toInt.toNat
        refine And.intro (Exists.intro _ (cw_o2 hI.1)) (Exists.intro _ (Exists.intro _ (Exists.intro _ (Exists.intro _ (And.intro (c_X2_take hI hs4 (e (o1 + 1) (z5_7).toInt.toNat) (by omega)) (And.intro rfl (fun r9 A9 h9 => ?_)))))))
        rcases h9 with ⟨v11, f11, rfl, hs11, rfl, by10⟩
        have k1 : (1 : Int32).toInt = 1 := rfl
        intro m12 em_31
        try have e12 : m12.toInt = (x4).toInt - (1) := by rw [em_31]; exact pm_subc _ _ (1) rfl (by omega) (by omega)
        intro m13 em_35
        try have e13 : m13.toInt = (z5_7).toInt + (1) := by rw [em_35]; exact pm_addc _ _ (1) rfl (by omega) (by omega)
        refine And.intro (Exists.intro _ (cw_o8 hI.1)) (Exists.intro _ (Exists.intro _ (Exists.intro _ (Exists.intro _ (And.intro (c_X3_worthOf hI hs11 m12 m13 ) (And.intro rfl (fun r9 A9 h9 => ?_)))))))
        obtain ⟨y14, rfl, rfl, by14⟩ := h9
        have km1 : (-1 : Int32).toInt = -1 := rfl
        refine And.intro (fun c16 => ?_) (fun c16 => ?_)
        · skip
          have dc16 : (y14).toInt = ((-1 : Int32) : Int32).toInt := congrArg Int32.toInt c16
          refine hC.1 2 67 _ _ rfl _ _ _ _ _ ?_
          intro m17 em_67
          try have e17 : m17.toInt = (z5_7).toInt + (1) := by rw [em_67]; exact pm_addc _ _ (1) rfl (by omega) (by omega)
          exact hC.2 [false, false, false, false, false, false, true] _ _ _ _ _ _ (ih6 m17 v11 f11 hs11 (by omega) (by omega))
        · skip
          have dc16 := pm_neI c16
          refine Exists.intro _ (And.intro (cw_o2 hI.1) ?_)
          intro m18 em_53
          try have e18 : m18.toInt = ((v11 2)).toInt + (y14).toInt := by rw [em_53]; exact pm_add _ _ (by omega) (by omega)
          refine And.intro (Exists.intro _ (cw_o8 hI.1)) (Exists.intro _ (Exists.intro _ (Exists.intro _ (Exists.intro _ (And.intro (c_X3_worthOf hI hs11 x4 x3 ) (And.intro rfl (fun r9 A9 h9 => ?_)))))))
          obtain ⟨y19, rfl, rfl, by19⟩ := h9
          refine And.intro (fun c21 => ?_) (fun c21 => ?_)
          · skip
            have dc21 := pm_neI c21
            refine hC.1 2 67 _ _ rfl _ _ _ _ _ ?_
            intro m22 em_67
            try have e22 : m22.toInt = (z5_7).toInt + (1) := by rw [em_67]; exact pm_addc _ _ (1) rfl (by omega) (by omega)
            exact hC.2 [false, false, false, false, false, false, true] _ _ _ _ _ _ (ih6 m22 v11 f11 hs11 (by omega) (by omega))
          · skip
            have dc21 : (m18).toInt = (y19 : Int32).toInt := congrArg Int32.toInt c21
            exact ⟨rfl, fun e9 => absurd e9 (by decide), rfl, v11, f11, rfl, hs11, z5_7, rfl, by first | trivial | omega | (dsimp only; omega)⟩
  exact lp5 (200 - x3.toInt).toNat.succ x3 v3 f3 hs3 (by omega) (by omega)

set_option maxRecDepth 100000 in
set_option maxHeartbeats 2000000 in
theorem c_X3_lastPlaceOf (hI : cw_I K nn dn q w e) (hs : cw_S v f) {o1 : Nat} (ho1 : cw_ro K o1) (x3 : Int32) (x4 : Int32) (p0 : 0 ≤ x4.toInt ∧ x4.toInt ≤ 8) : pm_Mt l g 146 3 0 0 [.ref (q 8), .ref (q o1), .ref (q 2), .int x3, .int x4] (cw A0 g K nn dn q w e v f) (cw_Qs A0 g K nn dn q w e (fun r v2 f2 => ∃ x : Int32, r = some (.int x) ∧ (True))) := by
  refine mt_X3_lastPlaceOf rfl (fun J hC => ?_)
  have hu1 := hI.2.1
  unfold cw_W at hu1
  have ro_nn : cw_ro K nn := hI.2.1.2.1
  have ro_dn : cw_ro K dn := hI.2.1.2.2.1
  have rg_x3 := pm_rng x3
  have rg_x4 := pm_rng x4
  refine hC.1 0 0 _ _ rfl _ _ _ _ _ ?_
  have km1 : (-1 : Int32).toInt = -1 := rfl
  have k0 : (0 : Int32).toInt = 0 := rfl
  have lp3 : ∀ (n : Nat) (z5_6 : Int32) (z6_6 : Int32) (v2 : Nat → Int32) (f2 : Nat → Nat → Int32), cw_S v2 f2 → (-1 ≤ z5_6.toInt ∧ z5_6.toInt ≤ 159) → (0 ≤ z6_6.toInt ∧ z6_6.toInt ≤ 9) → 200 - z6_6.toInt < (n : Int) → J 6 [some (.ref (q 8)), some (.ref (q o1)), some (.ref (q 2)), some (.int x3), some (.int x4), some (.int z5_6), some (.int z6_6)] [] (cw A0 g K nn dn q w e v2 f2) 0 0 := by
    intro n
    induction n with
    | zero =>
      intro z5_6 z6_6 v2 f2 hs2 j0_6 j1_6 j2_6
      omega
    | succ n ih4 =>
      intro z5_6 z6_6 v2 f2 hs2 j0_6 j1_6 j2_6
      refine hC.1 1 6 _ _ rfl _ _ _ _ _ ?_
      refine And.intro (fun c5 => ?_) (fun c5 => ?_)
      · skip
        refine hC.1 2 35 _ _ rfl _ _ _ _ _ ?_
        exact ⟨rfl, fun e9 => absurd e9 (by decide), rfl, v2, f2, rfl, hs2, z5_6, rfl, by first | trivial | omega | (dsimp only; omega)⟩
      · skip
        have k1 : (1 : Int32).toInt = 1 := rfl
        intro m6 em_19
        try have e6 : m6.toInt = (z5_6).toInt + (1) := by rw [em_19]; exact pm_addc _ _ (1) rfl (by omega) (by omega)
        intro m7 em_23
        try have e7 : m7.toInt = (x3).toInt - (z6_6).toInt := by rw [em_23]; exact pm_sub _ _ (by omega) (by omega)
        refine And.intro (Exists.intro _ (cw_o8 hI.1)) (Exists.intro _ (Exists.intro _ (Exists.intro _ (Exists.intro _ (And.intro (c_X3_shortestBestEnd hI hs2 ho1 m6 m7 (by omega)) (And.intro rfl (fun r9 A9 h9 => ?_)))))))
        rcases h9 with ⟨v9, f9, rfl, hs9, y8, rfl, by8⟩
        intro m10 em_29
        try have e10 : m10.toInt = (z6_6).toInt + (1) := by rw [em_29]; exact pm_addc _ _ (1) rfl (by omega) (by omega)
        exact ih4 y8 m10 v9 f9 hs9 (by omega) (by omega) (by omega)
  exact lp3 (200 - (0 : Int32).toInt).toNat.succ (-1 : Int32) (0 : Int32) v f hs (by omega) (by omega) (by omega)

set_option maxRecDepth 100000 in
set_option maxHeartbeats 2000000 in
theorem c_X3_greedy (hI : cw_I K nn dn q w e) (hs : cw_S v f) {o1 : Nat} (ho1 : cw_ro K o1) (x3 : Int32) (x4 : Int32)  : pm_Mt l g 142 2 0 0 [.ref (q 8), .ref (q o1), .ref (q 2), .int x3, .int x4] (cw A0 g K nn dn q w e v f) (cw_Qs A0 g K nn dn q w e (fun r v2 f2 => ∃ x : Int32, r = some (.int x) ∧ (True))) := by
  refine mt_X3_greedy rfl (fun J hC => ?_)
  have hu1 := hI.2.1
  unfold cw_W at hu1
  have ro_nn : cw_ro K nn := hI.2.1.2.1
  have ro_dn : cw_ro K dn := hI.2.1.2.2.1
  have rg_x3 := pm_rng x3
  have rg_x4 := pm_rng x4
  have zz0 := cw_sz hI ho1
  refine hC.1 0 0 _ _ rfl _ _ _ _ _ ?_
  refine And.intro (Exists.intro _ (cw_o2 hI.1)) (Exists.intro _ (Exists.intro _ (Exists.intro _ (Exists.intro _ (And.intro (c_X2_clear hI hs  ) (And.intro rfl (fun r9 A9 h9 => ?_)))))))
  rcases h9 with ⟨v3, f3, rfl, hs3, rfl, by2⟩
  have k0 : (0 : Int32).toInt = 0 := rfl
  have lp5 : ∀ (n : Nat) (z5_10 : Int32) (z6_10 : Int32) (v4 : Nat → Int32) (f4 : Nat → Nat → Int32), cw_S v4 f4 → (0 ≤ z6_10.toInt ∧ z6_10.toInt ≤ 160) → 200 - z6_10.toInt < (n : Int) → J 10 [some (.ref (q 8)), some (.ref (q o1)), some (.ref (q 2)), some (.int x3), some (.int x4), some (.int z5_10), some (.int z6_10)] [] (cw A0 g K nn dn q w e v4 f4) 0 0 := by
    intro n
    induction n with
    | zero =>
      intro z5_10 z6_10 v4 f4 hs4 j0_10 j1_10
      omega
    | succ n ih6 =>
      intro z5_10 z6_10 v4 f4 hs4 j0_10 j1_10
      refine hC.1 1 10 _ _ rfl _ _ _ _ _ ?_
      refine Exists.intro _ (And.intro (cw_ro_o hI.1 ho1) ?_)
      have z7 := cw_sz hI ho1
      refine And.intro (fun c8 => ?_) (fun c8 => ?_)
      · skip
        refine hC.1 4 74 _ _ rfl _ _ _ _ _ ?_
        have km1 : (-1 : Int32).toInt = -1 := rfl
        refine And.intro (fun c9 => ?_) (fun c9 => ?_)
        · skip
          have dc9 := pm_neI c9
          refine hC.1 7 96 _ _ rfl _ _ _ _ _ ?_
          refine And.intro (fun c10 => ?_) (fun c10 => ?_)
          · skip
            have dc10 := pm_neI c10
            refine hC.1 8 112 _ _ rfl _ _ _ _ _ ?_
            refine hC.1 9 113 _ _ rfl _ _ _ _ _ ?_
            exact ⟨rfl, fun e9 => absurd e9 (by decide), rfl, v4, f4, rfl, hs4, (-1 : Int32), rfl, by first | trivial | omega | (dsimp only; omega)⟩
          · skip
            have dc10 : (z5_10).toInt = (x4 : Int32).toInt := congrArg Int32.toInt c10
            refine Exists.intro _ (And.intro (cw_ro_o hI.1 ho1) ?_)
            have z11 := cw_sz hI ho1
            have k1 : (1 : Int32).toInt = 1 := rfl
            intro m12 em_108
            try have e12 : m12.toInt = ((w o1)).toInt - (1) := by rw [em_108]; exact pm_subc _ _ (1) rfl (by omega) (by omega)
            refine hC.1 9 113 _ _ rfl _ _ _ _ _ ?_
            exact ⟨rfl, fun e9 => absurd e9 (by decide), rfl, v4, f4, rfl, hs4, m12, rfl, by first | trivial | omega | (dsimp only; omega)⟩
        · skip
          have dc9 : (x4).toInt = ((-1 : Int32) : Int32).toInt := congrArg Int32.toInt c9
          refine Exists.intro _ (And.intro (cw_ro_o hI.1 ho1) ?_)
          have z13 := cw_sz hI ho1
          refine And.intro (fun c14 => ?_) (fun c14 => ?_)
          · skip
            have dc14 := pm_neI c14
            refine hC.1 5 91 _ _ rfl _ _ _ _ _ ?_
            have k1 : (1 : Int32).toInt = 1 := rfl
            intro m15 em_94
            try have e15 : m15.toInt = (z5_10).toInt + (1) := by rw [em_94]; exact pm_addc _ _ (1) rfl (by omega) (by omega)
            refine hC.1 6 95 _ _ rfl _ _ _ _ _ ?_
            exact ⟨rfl, fun e9 => absurd e9 (by decide), rfl, v4, f4, rfl, hs4, m15, rfl, by first | trivial | omega | (dsimp only; omega)⟩
          · skip
            have dc14 : ((w o1)).toInt = (0 : Int32).toInt := congrArg Int32.toInt c14
            refine hC.1 6 95 _ _ rfl _ _ _ _ _ ?_
            exact ⟨rfl, fun e9 => absurd e9 (by decide), rfl, v4, f4, rfl, hs4, (0 : Int32), rfl, by first | trivial | omega | (dsimp only; omega)⟩
      · skip
        refine Exists.intro _ (And.intro (cw_ro_o hI.1 ho1) ?_)
        refine Exists.intro _ (Exists.intro _ (And.intro (Or.inl (cw_ro_1 hI.1 ho1)) (And.intro (by omega) ?_)))
        have w16 := cw_col hI ho1 (z6_10).toInt.toNat
        refine And.intro (Exists.intro _ (cw_o2 hI.1)) (Exists.intro _ (Exists.intro _ (Exists.intro _ (Exists.intro _ (And.intro (c_X2_take hI hs4 (e (o1 + 1) (z6_10).toInt.toNat) (by omega)) (And.intro rfl (fun r9 A9 h9 => ?_)))))))
        rcases h9 with ⟨v18, f18, rfl, hs18, rfl, by17⟩
        refine Exists.intro _ (And.intro (cw_o2 hI.1) ?_)
        refine And.intro (fun c19 => ?_) (fun c19 => ?_)
        · skip
          refine hC.1 3 68 _ _ rfl _ _ _ _ _ ?_
          have k1 : (1 : Int32).toInt = 1 := rfl
          intro m20 em_68
          try have e20 : m20.toInt = (z6_10).toInt + (1) := by rw [em_68]; exact pm_addc _ _ (1) rfl (by omega) (by omega)
          exact ih6 z5_10 m20 v18 f18 hs18 (by omega) (by omega)
        · skip
          refine And.intro (fun c21 => ?_) (fun c21 => ?_)
          · skip
            have dc21 := pm_neI c21
            refine hC.1 2 50 _ _ rfl _ _ _ _ _ ?_
            have k1 : (1 : Int32).toInt = 1 := rfl
            intro m22 em_50
            try have e22 : m22.toInt = (z5_10).toInt + (1) := by rw [em_50]; exact pm_addc _ _ (1) rfl (by omega) (by omega)
            refine And.intro (Exists.intro _ (cw_o2 hI.1)) (Exists.intro _ (Exists.intro _ (Exists.intro _ (Exists.intro _ (And.intro (c_X2_clear hI hs18  ) (And.intro rfl (fun r9 A9 h9 => ?_)))))))
            rcases h9 with ⟨v24, f24, rfl, hs24, rfl, by23⟩
            refine Exists.intro _ (And.intro (cw_ro_o hI.1 ho1) ?_)
            refine Exists.intro _ (Exists.intro _ (And.intro (Or.inl (cw_ro_1 hI.1 ho1)) (And.intro (by omega) ?_)))
            have w25 := cw_col hI ho1 (z6_10).toInt.toNat
            refine And.intro (Exists.intro _ (cw_o2 hI.1)) (Exists.intro _ (Exists.intro _ (Exists.intro _ (Exists.intro _ (And.intro (c_X2_take hI hs24 (e (o1 + 1) (z6_10).toInt.toNat) (by omega)) (And.intro rfl (fun r9 A9 h9 => ?_)))))))
            rcases h9 with ⟨v27, f27, rfl, hs27, rfl, by26⟩
            refine hC.1 3 68 _ _ rfl _ _ _ _ _ ?_
            intro m28 em_68
            try have e28 : m28.toInt = (z6_10).toInt + (1) := by rw [em_68]; exact pm_addc _ _ (1) rfl (by omega) (by omega)
            exact ih6 m22 m28 v27 f27 hs27 (by omega) (by omega)
          · skip
            have dc21 : (z5_10).toInt = (x4 : Int32).toInt := congrArg Int32.toInt c21
            have k1 : (1 : Int32).toInt = 1 := rfl
            intro m29 em_48
            try have e29 : m29.toInt = (z6_10).toInt - (1) := by rw [em_48]; exact pm_subc _ _ (1) rfl (by omega) (by omega)
            exact ⟨rfl, fun e9 => absurd e9 (by decide), rfl, v18, f18, rfl, hs18, m29, rfl, by first | trivial | omega | (dsimp only; omega)⟩
  exact lp5 (200 - (0 : Int32).toInt).toNat.succ (0 : Int32) (0 : Int32) v3 f3 hs3 (by omega) (by omega)

end
