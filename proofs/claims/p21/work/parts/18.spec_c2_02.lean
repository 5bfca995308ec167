section
variable {l : Launch} {g : pm_G} {A0 : pm_H} {K nn dn : Nat} {q : Nat → Nat} {w : Nat → Int32} {e : Nat → Nat → Int32} {v : Nat → Int32} {f : Nat → Nat → Int32}
set_option maxRecDepth 100000 in
set_option maxHeartbeats 2000000 in
theorem c_X1_evenestEnd (hI : cw_I K nn dn q w e) (hs : cw_S v f) {o1 : Nat} (ho1 : cw_ro K o1) (x3 : Int32) (x4 : Int32) (p0 : 0 ≤ x3.toInt ∧ x3.toInt ≤ x4.toInt ∧ x4.toInt < (w o1).toInt) : pm_Mt l g 97 2 0 0 [.ref (q 4), .ref (q o1), .ref (q 2), .int x3, .int x4] (cw A0 g K nn dn q w e v f) (cw_Qs A0 g K nn dn q w e (fun r v2 f2 => ∃ x : Int32, r = some (.int x) ∧ (True))) := by
  refine mt_X1_evenestEnd rfl (fun J hC => ?_)
  have hu1 := hI.2.1
  unfold cw_W at hu1
  have ro_nn : cw_ro K nn := hI.2.1.2.1
  have ro_dn : cw_ro K dn := hI.2.1.2.2.1
  have rg_x3 := pm_rng x3
  have rg_x4 := pm_rng x4
  have zz0 := cw_sz hI ho1
  refine hC.1 0 0 _ _ rfl _ _ _ _ _ ?_
  refine And.intro (Exists.intro _ (cw_o2 hI.1)) (Exists.intro _ (Exists.intro _ (Exists.intro _ (Exists.intro _ (And.intro (c_X2_clear hI hs  ) (And.intro rfl (fun r9 A9 h9 => ?_)))))))
  rcases h9 with ⟨v3, f3, rfl, hs3, rfl, by2⟩
  have lp5 : ∀ (n : Nat) (z5_7 : Int32) (v4 : Nat → Int32) (f4 : Nat → Nat → Int32), cw_S v4 f4 → (x3.toInt ≤ z5_7.toInt ∧ z5_7.toInt ≤ x4.toInt + 1) → 200 - z5_7.toInt < (n : Int) → J 7 [some (.ref (q 4)), some (.ref (q o1)), some (.ref (q 2)), some (.int x3), some (.int x4), some (.int z5_7), none, none, none] [] (cw A0 g K nn dn q w e v4 f4) 0 0 := by
    intro n
    induction n with
    | zero =>
      intro z5_7 v4 f4 hs4 j0_7 j1_7
      omega
    | succ n ih6 =>
      intro z5_7 v4 f4 hs4 j0_7 j1_7
      refine hC.1 1 7 _ _ rfl _ _ _ _ _ ?_
      refine And.intro (fun c7 => ?_) (fun c7 => ?_)
      · skip
        refine hC.1 2 42 _ _ rfl _ _ _ _ _ ?_
        refine And.intro (Exists.intro _ (cw_o2 hI.1)) (Exists.intro _ (Exists.intro _ (Exists.intro _ (Exists.intro _ (And.intro (c_X2_clear hI hs4  ) (And.intro rfl (fun r9 A9 h9 => ?_)))))))
        rcases h9 with ⟨v9, f9, rfl, hs9, rfl, by8⟩
        have km1 : (-1 : Int32).toInt = -1 := rfl
        have k25 : (25 : Int32).toInt = 25 := rfl
        have k1 : (1 : Int32).toInt = 1 := rfl
        intro m10 em_56
        try have e10 : m10.toInt = (x4).toInt - (1) := by rw [em_56]; exact pm_subc _ _ (1) rfl (by omega) (by omega)
        have lp12 : ∀ (n : Nat) (z5_59 : Int32) (z6_59 : Int32) (z7_59 : Int32) (v11 : Nat → Int32) (f11 : Nat → Nat → Int32), cw_S v11 f11 → (x3.toInt - 1 ≤ z7_59.toInt ∧ z7_59.toInt ≤ x4.toInt - 1) → z7_59.toInt + 1 < (n : Int) → J 59 [some (.ref (q 4)), some (.ref (q o1)), some (.ref (q 2)), some (.int x3), some (.int x4), some (.int z5_59), some (.int z6_59), some (.int z7_59), none] [] (cw A0 g K nn dn q w e v11 f11) 0 0 := by
          intro n
          induction n with
          | zero =>
            intro z5_59 z6_59 z7_59 v11 f11 hs11 j0_59 j1_59
            omega
          | succ n ih13 =>
            intro z5_59 z6_59 z7_59 v11 f11 hs11 j0_59 j1_59
            refine hC.1 3 59 _ _ rfl _ _ _ _ _ ?_
            refine And.intro (fun c14 => ?_) (fun c14 => ?_)
            · skip
              refine hC.1 5 116 _ _ rfl _ _ _ _ _ ?_
              exact ⟨rfl, fun e9 => absurd e9 (by decide), rfl, v11, f11, rfl, hs11, z5_59, rfl, by first | trivial | omega | (dsimp only; omega)⟩
            · skip
              refine Exists.intro _ (And.intro (cw_ro_o hI.1 ho1) ?_)
              intro m15 em_73
              try have e15 : m15.toInt = (z7_59).toInt + (1) := by rw [em_73]; exact pm_addc _ _ (1) rfl (by omega) (by omega)
              refine Exists.intro _ (Exists.intro _ (And.intro (Or.inl (cw_ro_1 hI.1 ho1)) (And.intro (by omega) ?_)))
              have w16 := cw_col hI ho1 (m15).toInt.toNat
              refine And.intro (Exists.intro _ (cw_o2 hI.1)) (Exists.intro _ (Exists.intro _ (Exists.intro _ (Exists.intro _ (And.intro (c_X2_take hI hs11 (e (o1 + 1) (m15).toInt.toNat) (by omega)) (And.intro rfl (fun r9 A9 h9 => ?_)))))))
              rcases h9 with ⟨v18, f18, rfl, hs18, rfl, by17⟩
              refine Exists.intro _ (And.intro (cw_o4 hI.1) ?_)
              refine Exists.intro _ (Exists.intro _ (And.intro (Or.inl (cw_a18 hI.1)) (And.intro (by omega) ?_)))
              refine Exists.intro _ (And.intro (cw_o2 hI.1) ?_)
              intro m19 em_89
              try have e19 : m19.toInt = ((f18 18 (z7_59).toInt.toNat)).toInt - ((v18 2)).toInt := by rw [em_89]; exact pm_sub _ _ (by omega) (by omega)
              refine Exists.intro _ (Exists.intro _ (Exists.intro _ (Exists.intro _ (And.intro (c_J9_abs_0f7a4 (cw A0 g K nn dn q w e v18 f18) m19 ) (And.intro rfl (fun r9 A9 h9 => ?_))))))
              obtain ⟨y20, rfl, rfl, by20⟩ := h9
              refine And.intro (fun c22 => ?_) (fun c22 => ?_)
              · skip
                refine hC.1 4 110 _ _ rfl _ _ _ _ _ ?_
                intro m23 em_110
                try have e23 : m23.toInt = (z7_59).toInt + (-1) := by rw [em_110]; exact pm_addc _ _ (-1) rfl (by omega) (by omega)
                exact hC.2 [false, false, false, false, false, false, false, false, true] _ _ _ _ _ _ (ih13 z5_59 z6_59 m23 v18 f18 hs18 (by omega) (by omega))
              · skip
                refine hC.1 4 110 _ _ rfl _ _ _ _ _ ?_
                intro m24 em_110
                try have e24 : m24.toInt = (z7_59).toInt + (-1) := by rw [em_110]; exact pm_addc _ _ (-1) rfl (by omega) (by omega)
                exact hC.2 [false, false, false, false, false, false, false, false, true] _ _ _ _ _ _ (ih13 z7_59 y20 m24 v18 f18 hs18 (by omega) (by omega))
        exact lp12 (m10.toInt + 1).toNat.succ (-1 : Int32) (25 : Int32) m10 v9 f9 hs9 (by omega) (by omega)
      · skip
        refine Exists.intro _ (And.intro (cw_ro_o hI.1 ho1) ?_)
        refine Exists.intro _ (Exists.intro _ (And.intro (Or.inl (cw_ro_1 hI.1 ho1)) (And.intro (by omega) ?_)))
        have w25 := cw_col hI ho1 (z5_7).toInt.toNat
        refine And.intro (Exists.intro _ (cw_o2 hI.1)) (Exists.intro _ (Exists.intro _ (Exists.intro _ (Exists.intro _ (And.intro (c_X2_take hI hs4 (e (o1 + 1) (z5_7).toInt.toNat) (by omega)) (And.intro rfl (fun r9 A9 h9 => ?_)))))))
        rcases h9 with ⟨v27, f27, rfl, hs27, rfl, by26⟩
        refine Exists.intro _ (And.intro (cw_o4 hI.1) ?_)
        refine Exists.intro _ (And.intro (cw_o2 hI.1) ?_)
        refine Exists.intro _ (Exists.intro _ (And.intro (cw_a18 hI.1) (And.intro (by omega) ?_)))
        rw [cw_s18 hI.1]
        obtain ⟨f28, ef28⟩ : ∃ z9, z9 = va_up f27 18 (upd (f27 18) (z5_7).toInt.toNat (v27 2)) := ⟨_, rfl⟩
        rw [← ef28]
        have hs28 : cw_S v27 f28 := by rw [ef28]; exact cw_S_fr hs27 _ _ (by decide) (by decide)
        have k1 : (1 : Int32).toInt = 1 := rfl
        intro m29 em_36
        try have e29 : m29.toInt = (z5_7).toInt + (1) := by rw [em_36]; exact pm_addc _ _ (1) rfl (by omega) (by omega)
        exact ih6 m29 v27 f28 hs28 (by omega) (by omega)
  exact lp5 (200 - x3.toInt).toNat.succ x3 v3 f3 hs3 (by omega) (by omega)

set_option maxRecDepth 100000 in
set_option maxHeartbeats 2000000 in
theorem c_X6_endFound (hI : cw_I K nn dn q w e) (hs : cw_S v f) (x1 : Int32)  : pm_Mt l g 110 0 0 0 [.ref (q 5), .int x1] (cw A0 g K nn dn q w e v f) (md_Qp (cw A0 g K nn dn q w e v f) (fun r => True)) := by
  refine mt_X6_endFound rfl (fun J hC => ?_)
  have hu1 := hI.2.1
  unfold cw_W at hu1
  have ro_nn : cw_ro K nn := hI.2.1.2.1
  have ro_dn : cw_ro K dn := hI.2.1.2.2.1
  have rg_x1 := pm_rng x1
  refine hC.1 0 0 _ _ rfl _ _ _ _ _ ?_
  refine And.intro (fun c2 => ?_) (fun c2 => ?_)
  · skip
    have dc2 := pm_neI c2
    have k0 : (0 : Int32).toInt = 0 := rfl
    refine hC.1 1 11 _ _ rfl _ _ _ _ _ ?_
    have k1 : (1 : Int32).toInt = 1 := rfl
    refine And.intro (fun c3 => ?_) (fun c3 => ?_)
    · skip
      have dc3 := pm_neI c3
      refine hC.1 2 23 _ _ rfl _ _ _ _ _ ?_
      have km1 : (-1 : Int32).toInt = -1 := rfl
      refine hC.1 3 24 _ _ rfl _ _ _ _ _ ?_
      exact ⟨rfl, fun e9 => absurd e9 (by decide), rfl, (-1 : Int32), rfl, rfl, by first | trivial | omega | (dsimp only; omega)⟩
    · skip
      have dc3 : (x1).toInt = ((1 : Int32) : Int32).toInt := congrArg Int32.toInt c3
      refine Exists.intro _ (And.intro (cw_o5 hI.1) ?_)
      refine hC.1 3 24 _ _ rfl _ _ _ _ _ ?_
      exact ⟨rfl, fun e9 => absurd e9 (by decide), rfl, (v 8), rfl, rfl, by first | trivial | omega | (dsimp only; omega)⟩
  · skip
    have dc2 : (x1).toInt = (0 : Int32).toInt := congrArg Int32.toInt c2
    have k0 : (0 : Int32).toInt = 0 := rfl
    refine Exists.intro _ (And.intro (cw_o5 hI.1) ?_)
    refine hC.1 3 24 _ _ rfl _ _ _ _ _ ?_
    exact ⟨rfl, fun e9 => absurd e9 (by decide), rfl, (v 7), rfl, rfl, by first | trivial | omega | (dsimp only; omega)⟩

set_option maxRecDepth 100000 in
set_option maxHeartbeats 2000000 in
theorem c_X6_clearFound (hI : cw_I K nn dn q w e) (hs : cw_S v f)   : pm_Mt l g 108 0 0 0 [.ref (q 5)] (cw A0 g K nn dn q w e v f) (cw_Qs A0 g K nn dn q w e (fun r v2 f2 => r = none ∧ (True))) := by
  refine mt_X6_clearFound rfl (fun J hC => ?_)
  have hu1 := hI.2.1
  unfold cw_W at hu1
  have ro_nn : cw_ro K nn := hI.2.1.2.1
  have ro_dn : cw_ro K dn := hI.2.1.2.2.1
  refine hC.1 0 0 _ _ rfl _ _ _ _ _ ?_
  have km1 : (-1 : Int32).toInt = -1 := rfl
  refine Exists.intro _ (And.intro (cw_o5 hI.1) (And.intro rfl ?_))
  rw [cw_p_first hI.1]
  obtain ⟨v2, ev2⟩ : ∃ z9, z9 = upd v 7 (-1 : Int32) := ⟨_, rfl⟩
  rw [← ev2]
  have hs2 : cw_S v2 f := by rw [ev2]; exact cw_S_v hs 7 _ (by decide)
  have ev2_0 : (v2 0).toInt = (v 0).toInt := by rw [ev2]; rfl
  refine Exists.intro _ (And.intro (cw_o5 hI.1) (And.intro rfl ?_))
  rw [cw_p_last hI.1]
  obtain ⟨v3, ev3⟩ : ∃ z9, z9 = upd v2 8 (-1 : Int32) := ⟨_, rfl⟩
  rw [← ev3]
  have hs3 : cw_S v3 f := by rw [ev3]; exact cw_S_v hs2 8 _ (by decide)
  have ev3_0 : (v3 0).toInt = (v2 0).toInt := by rw [ev3]; rfl
  exact ⟨rfl, rfl, v3, f, rfl, hs3, rfl, by first | trivial | omega | (dsimp only; omega)⟩

set_option maxRecDepth 100000 in
set_option maxHeartbeats 2000000 in
theorem c_X6_offerLonger (hI : cw_I K nn dn q w e) (hs : cw_S v f) (x1 : Int32) (x2 : Int32)  : pm_Mt l g 114 0 0 0 [.ref (q 5), .int x1, .int x2] (cw A0 g K nn dn q w e v f) (cw_Qs A0 g K nn dn q w e (fun r v2 f2 => r = none ∧ (True))) := by
  refine mt_X6_offerLonger rfl (fun J hC => ?_)
  have hu1 := hI.2.1
  unfold cw_W at hu1
  have ro_nn : cw_ro K nn := hI.2.1.2.1
  have ro_dn : cw_ro K dn := hI.2.1.2.2.1
  have rg_x1 := pm_rng x1
  have rg_x2 := pm_rng x2
  refine hC.1 0 0 _ _ rfl _ _ _ _ _ ?_
  refine Exists.intro _ (And.intro (cw_o5 hI.1) ?_)
  have km1 : (-1 : Int32).toInt = -1 := rfl
  refine And.intro (fun c2 => ?_) (fun c2 => ?_)
  · skip
    have dc2 : ((v 7)).toInt = ((-1 : Int32) : Int32).toInt := congrArg Int32.toInt c2
    refine hC.1 1 23 _ _ rfl _ _ _ _ _ ?_
    refine Exists.intro _ (And.intro (cw_o5 hI.1) (And.intro rfl ?_))
    rw [cw_p_first hI.1]
    obtain ⟨v3, ev3⟩ : ∃ z9, z9 = upd v 7 x1 := ⟨_, rfl⟩
    rw [← ev3]
    have hs3 : cw_S v3 f := by rw [ev3]; exact cw_S_v hs 7 _ (by decide)
    have ev3_0 : (v3 0).toInt = (v 0).toInt := by rw [ev3]; rfl
    refine Exists.intro _ (And.intro (cw_o5 hI.1) (And.intro rfl ?_))
    rw [cw_p_last hI.1]
    obtain ⟨v4, ev4⟩ : ∃ z9, z9 = upd v3 8 x2 := ⟨_, rfl⟩
    rw [← ev4]
    have hs4 : cw_S v4 f := by rw [ev4]; exact cw_S_v hs3 8 _ (by decide)
    have ev4_0 : (v4 0).toInt = (v3 0).toInt := by rw [ev4]; rfl
    refine hC.1 2 33 _ _ rfl _ _ _ _ _ ?_
    exact ⟨rfl, rfl, v4, f, rfl, hs4, rfl, by first | trivial | omega | (dsimp only; omega)⟩
  · skip
    have dc2 := pm_neI c2
    intro m5 em_10
    try have e5 : m5.toInt = (x2).toInt - (x1).toInt := by rw [em_10]; exact pm_sub _ _ (by omega) (by omega)
    refine Exists.intro _ (And.intro (cw_o5 hI.1) ?_)
    refine Exists.intro _ (And.intro (cw_o5 hI.1) ?_)
    intro m6 em_19
    try have e6 : m6.toInt = ((v 8)).toInt - ((v 7)).toInt := by rw [em_19]; exact pm_sub _ _ (by omega) (by omega)
    refine And.intro (fun c7 => ?_) (fun c7 => ?_)
    · skip
      refine hC.1 2 33 _ _ rfl _ _ _ _ _ ?_
      exact ⟨rfl, rfl, v, f, rfl, hs, rfl, by first | trivial | omega | (dsimp only; omega)⟩
    · skip
      refine hC.1 1 23 _ _ rfl _ _ _ _ _ ?_
      refine Exists.intro _ (And.intro (cw_o5 hI.1) (And.intro rfl ?_))
      rw [cw_p_first hI.1]
      obtain ⟨v8, ev8⟩ : ∃ z9, z9 = upd v 7 x1 := ⟨_, rfl⟩
      rw [← ev8]
      have hs8 : cw_S v8 f := by rw [ev8]; exact cw_S_v hs 7 _ (by decide)
      have ev8_0 : (v8 0).toInt = (v 0).toInt := by rw [ev8]; rfl
      refine Exists.intro _ (And.intro (cw_o5 hI.1) (And.intro rfl ?_))
      rw [cw_p_last hI.1]
      obtain ⟨v9, ev9⟩ : ∃ z9, z9 = upd v8 8 x2 := ⟨_, rfl⟩
      rw [← ev9]
      have hs9 : cw_S v9 f := by rw [ev9]; exact cw_S_v hs8 8 _ (by decide)
      have ev9_0 : (v9 0).toInt = (v8 0).toInt := by rw [ev9]; rfl
      refine hC.1 2 33 _ _ rfl _ _ _ _ _ ?_
      exact ⟨rfl, rfl, v9, f, rfl, hs9, rfl, by first | trivial | omega | (dsimp only; omega)⟩

set_option maxRecDepth 100000 in
set_option maxHeartbeats 2000000 in
theorem c_X6_forColours (hI : cw_I K nn dn q w e) (hs : cw_S v f) {o1 : Nat} (ho1 : cw_ro K o1) (x3 : Int32) (x4 : Int32) (p0 : 0 ≤ x3.toInt ∧ x3.toInt < 160) : pm_Mt l g 101 2 0 0 [.ref (q 5), .ref (q o1), .ref (q 2), .int x3, .int x4] (cw A0 g K nn dn q w e v f) (cw_Qs A0 g K nn dn q w e (fun r v2 f2 => ∃ x : Int32, r = some (.int x) ∧ (True))) := by
  refine mt_X6_forColours rfl (fun J hC => ?_)
  have hu1 := hI.2.1
  unfold cw_W at hu1
  have ro_nn : cw_ro K nn := hI.2.1.2.1
  have ro_dn : cw_ro K dn := hI.2.1.2.2.1
  have rg_x3 := pm_rng x3
  have rg_x4 := pm_rng x4
  have zz0 := cw_sz hI ho1
  refine hC.1 0 0 _ _ rfl _ _ _ _ _ ?_
  refine And.intro (Exists.intro _ (cw_o2 hI.1)) (Exists.intro _ (Exists.intro _ (Exists.intro _ (Exists.intro _ (And.intro (c_X2_clear hI hs  ) (And.intro rfl (fun r9 A9 h9 => ?_)))))))
  rcases h9 with ⟨v3, f3, rfl, hs3, rfl, by2⟩
  have lp5 : ∀ (n : Nat) (z5_7 : Int32) (v4 : Nat → Int32) (f4 : Nat → Nat → Int32), cw_S v4 f4 → (0 ≤ z5_7.toInt ∧ z5_7.toInt ≤ 160) → 200 - z5_7.toInt < (n : Int) → J 7 [some (.ref (q 5)), some (.ref (q o1)), some (.ref (q 2)), some (.int x3), some (.int x4), some (.int z5_7)] [] (cw A0 g K nn dn q w e v4 f4) 0 0 := by
    intro n
    induction n with
    | zero =>
      intro z5_7 v4 f4 hs4 j0_7 j1_7
      omega
    | succ n ih6 =>
      intro z5_7 v4 f4 hs4 j0_7 j1_7
      refine hC.1 1 7 _ _ rfl _ _ _ _ _ ?_
      refine Exists.intro _ (And.intro (cw_ro_o hI.1 ho1) ?_)
      have z7 := cw_sz hI ho1
      refine And.intro (fun c8 => ?_) (fun c8 => ?_)
      · skip
        refine hC.1 3 45 _ _ rfl _ _ _ _ _ ?_
        have km1 : (-1 : Int32).toInt = -1 := rfl
        exact ⟨rfl, fun e9 => absurd e9 (by decide), rfl, v4, f4, rfl, hs4, (-1 : Int32), rfl, by first | trivial | omega | (dsimp only; omega)⟩
      · skip
        refine Exists.intro _ (And.intro (cw_ro_o hI.1 ho1) ?_)
        refine Exists.intro _ (Exists.intro _ (And.intro (Or.inl (cw_ro_1 hI.1 ho1)) (And.intro (by omega) ?_)))
        have w9 := cw_col hI ho1 (z5_7).toInt.toNat
        refine And.intro (Exists.intro _ (cw_o2 hI.1)) (Exists.intro _ (Exists.intro _ (Exists.intro _ (Exists.intro _ (And.intro (c_X2_take hI hs4 (e (o1 + 1) (z5_7).toInt.toNat) (by omega)) (And.intro rfl (fun r9 A9 h9 => ?_)))))))
        rcases h9 with ⟨v11, f11, rfl, hs11, rfl, by10⟩
        refine Exists.intro _ (And.intro (cw_o2 hI.1) ?_)
        refine And.intro (fun c12 => ?_) (fun c12 => ?_)
        · skip
          refine hC.1 2 39 _ _ rfl _ _ _ _ _ ?_
          have k1 : (1 : Int32).toInt = 1 := rfl
          intro m13 em_39
          try have e13 : m13.toInt = (z5_7).toInt + (1) := by rw [em_39]; exact pm_addc _ _ (1) rfl (by omega) (by omega)
          exact ih6 m13 v11 f11 hs11 (by omega) (by omega)
        · skip
          exact ⟨rfl, fun e9 => absurd e9 (by decide), rfl, v11, f11, rfl, hs11, z5_7, rfl, by first | trivial | omega | (dsimp only; omega)⟩
  exact lp5 (200 - x3.toInt).toNat.succ x3 v3 f3 hs3 (by omega) (by omega)

set_option maxRecDepth 100000 in
set_option maxHeartbeats 2000000 in
theorem c_X6_backForColours (hI : cw_I K nn dn q w e) (hs : cw_S v f) {o1 : Nat} (ho1 : cw_ro K o1) (x3 : Int32) (x4 : Int32) (p0 : 0 ≤ x3.toInt ∧ x3.toInt < 160) : pm_Mt l g 103 2 0 0 [.ref (q 5), .ref (q o1), .ref (q 2), .int x3, .int x4] (cw A0 g K nn dn q w e v f) (cw_Qs A0 g K nn dn q w e (fun r v2 f2 => ∃ x : Int32, r = some (.int x) ∧ (True))) := by
  refine mt_X6_backForColours rfl (fun J hC => ?_)
  have hu1 := hI.2.1
  unfold cw_W at hu1
  have ro_nn : cw_ro K nn := hI.2.1.2.1
  have ro_dn : cw_ro K dn := hI.2.1.2.2.1
  have rg_x3 := pm_rng x3
  have rg_x4 := pm_rng x4
  have zz0 := cw_sz hI ho1
  refine hC.1 0 0 _ _ rfl _ _ _ _ _ ?_
  refine And.intro (Exists.intro _ (cw_o2 hI.1)) (Exists.intro _ (Exists.intro _ (Exists.intro _ (Exists.intro _ (And.intro (c_X2_clear hI hs  ) (And.intro rfl (fun r9 A9 h9 => ?_)))))))
  rcases h9 with ⟨v3, f3, rfl, hs3, rfl, by2⟩
  have lp5 : ∀ (n : Nat) (z5_7 : Int32) (v4 : Nat → Int32) (f4 : Nat → Nat → Int32), cw_S v4 f4 → (-1 ≤ z5_7.toInt ∧ z5_7.toInt < 160) → z5_7.toInt + 1 < (n : Int) → J 7 [some (.ref (q 5)), some (.ref (q o1)), some (.ref (q 2)), some (.int x3), some (.int x4), some (.int z5_7)] [] (cw A0 g K nn dn q w e v4 f4) 0 0 := by
    intro n
    induction n with
    | zero =>
      intro z5_7 v4 f4 hs4 j0_7 j1_7
      omega
    | succ n ih6 =>
      intro z5_7 v4 f4 hs4 j0_7 j1_7
      refine hC.1 1 7 _ _ rfl _ _ _ _ _ ?_
      refine And.intro (fun c7 => ?_) (fun c7 => ?_)
      · skip
        refine hC.1 3 41 _ _ rfl _ _ _ _ _ ?_
        have km1 : (-1 : Int32).toInt = -1 := rfl
        exact ⟨rfl, fun e9 => absurd e9 (by decide), rfl, v4, f4, rfl, hs4, (-1 : Int32), rfl, by first | trivial | omega | (dsimp only; omega)⟩
      · skip
        refine Exists.intro _ (And.intro (cw_ro_o hI.1 ho1) ?_)
        refine Exists.intro _ (Exists.intro _ (And.intro (Or.inl (cw_ro_1 hI.1 ho1)) (And.intro (by omega) ?_)))
        have w8 := cw_col hI ho1 (z5_7).toInt.toNat
        refine And.intro (Exists.intro _ (cw_o2 hI.1)) (Exists.intro _ (Exists.intro _ (Exists.intro _ (Exists.intro _ (And.intro (c_X2_take hI hs4 (e (o1 + 1) (z5_7).toInt.toNat) (by omega)) (And.intro rfl (fun r9 A9 h9 => ?_)))))))
        rcases h9 with ⟨v10, f10, rfl, hs10, rfl, by9⟩
        refine Exists.intro _ (And.intro (cw_o2 hI.1) ?_)
        refine And.intro (fun c11 => ?_) (fun c11 => ?_)
        · skip
          refine hC.1 2 35 _ _ rfl _ _ _ _ _ ?_
          have km1 : (-1 : Int32).toInt = -1 := rfl
          intro m12 em_35
          try have e12 : m12.toInt = (z5_7).toInt + (-1) := by rw [em_35]; exact pm_addc _ _ (-1) rfl (by omega) (by omega)
          exact ih6 m12 v10 f10 hs10 (by omega) (by omega)
        · skip
          exact ⟨rfl, fun e9 => absurd e9 (by decide), rfl, v10, f10, rfl, hs10, z5_7, rfl, by first | trivial | omega | (dsimp only; omega)⟩
  exact lp5 (x3.toInt + 1).toNat.succ x3 v3 f3 hs3 (by omega) (by omega)

set_option maxRecDepth 100000 in
set_option maxHeartbeats 2000000 in
theorem c_X6_forMass (hI : cw_I K nn dn q w e) (hs : cw_S v f) {o1 : Nat} (ho1 : cw_ro K o1) (x3 : Int32) (x4 : Int32) (p0 : 0 ≤ x3.toInt ∧ x3.toInt < 160) : pm_Mt l g 105 2 0 0 [.ref (q 5), .ref (q o1), .ref (q 2), .int x3, .int x4] (cw A0 g K nn dn q w e v f) (cw_Qs A0 g K nn dn q w e (fun r v2 f2 => ∃ x : Int32, r = some (.int x) ∧ (True))) := by
  refine mt_X6_forMass rfl (fun J hC => ?_)
  have hu1 := hI.2.1
  unfold cw_W at hu1
  have ro_nn : cw_ro K nn := hI.2.1.2.1
  have ro_dn : cw_ro K dn := hI.2.1.2.2.1
  have rg_x3 := pm_rng x3
  have rg_x4 := pm_rng x4
  have zz0 := cw_sz hI ho1
  refine hC.1 0 0 _ _ rfl _ _ _ _ _ ?_
  refine And.intro (Exists.intro _ (cw_o2 hI.1)) (Exists.intro _ (Exists.intro _ (Exists.intro _ (Exists.intro _ (And.intro (c_X2_clear hI hs  ) (And.intro rfl (fun r9 A9 h9 => ?_)))))))
  rcases h9 with ⟨v3, f3, rfl, hs3, rfl, by2⟩
  have lp5 : ∀ (n : Nat) (z5_7 : Int32) (v4 : Nat → Int32) (f4 : Nat → Nat → Int32), cw_S v4 f4 → (0 ≤ z5_7.toInt ∧ z5_7.toInt ≤ 160) → 200 - z5_7.toInt < (n : Int) → J 7 [some (.ref (q 5)), some (.ref (q o1)), some (.ref (q 2)), some (.int x3), some (.int x4), some (.int z5_7)] [] (cw A0 g K nn dn q w e v4 f4) 0 0 := by
    intro n
    induction n with
    | zero =>
      intro z5_7 v4 f4 hs4 j0_7 j1_7
      omega
    | succ n ih6 =>
      intro z5_7 v4 f4 hs4 j0_7 j1_7
      refine hC.1 1 7 _ _ rfl _ _ _ _ _ ?_
      refine Exists.intro _ (And.intro (cw_ro_o hI.1 ho1) ?_)
      have z7 := cw_sz hI ho1
      refine And.intro (fun c8 => ?_) (fun c8 => ?_)
      · skip
        refine hC.1 3 45 _ _ rfl _ _ _ _ _ ?_
        have km1 : (-1 : Int32).toInt = -1 := rfl
        exact ⟨rfl, fun e9 => absurd e9 (by decide), rfl, v4, f4, rfl, hs4, (-1 : Int32), rfl, by first | trivial | omega | (dsimp only; omega)⟩
      · skip
        refine Exists.intro _ (And.intro (cw_ro_o hI.1 ho1) ?_)
        refine Exists.intro _ (Exists.intro _ (And.intro (Or.inl (cw_ro_1 hI.1 ho1)) (And.intro (by omega) ?_)))
        have w9 := cw_col hI ho1 (z5_7).toInt.toNat
        refine And.intro (Exists.intro _ (cw_o2 hI.1)) (Exists.intro _ (Exists.intro _ (Exists.intro _ (Exists.intro _ (And.intro (c_X2_take hI hs4 (e (o1 + 1) (z5_7).toInt.toNat) (by omega)) (And.intro rfl (fun r9 A9 h9 => ?_)))))))
        rcases h9 with ⟨v11, f11, rfl, hs11, rfl, by10⟩
        refine Exists.intro _ (And.intro (cw_o2 hI.1) ?_)
        refine And.intro (fun c12 => ?_) (fun c12 => ?_)
        · skip
          refine hC.1 2 39 _ _ rfl _ _ _ _ _ ?_
          have k1 : (1 : Int32).toInt = 1 := rfl
          intro m13 em_39
          try have e13 : m13.toInt = (z5_7).toInt + (1) := by rw [em_39]; exact pm_addc _ _ (1) rfl (by omega) (by omega)
          exact ih6 m13 v11 f11 hs11 (by omega) (by omega)
        · skip
          exact ⟨rfl, fun e9 => absurd e9 (by decide), rfl, v11, f11, rfl, hs11, z5_7, rfl, by first | trivial | omega | (dsimp only; omega)⟩
  exact lp5 (200 - x3.toInt).toNat.succ x3 v3 f3 hs3 (by omega) (by omega)

set_option maxRecDepth 100000 in
set_option maxHeartbeats 2000000 in
theorem c_X6_earliestLatest (hI : cw_I K nn dn q w e) (hs : cw_S v f) (x1 : Int32) (x2 : Int32)  : pm_Mt l g 109 1 0 0 [.ref (q 5), .int x1, .int x2] (cw A0 g K nn dn q w e v f) (md_Qp (cw A0 g K nn dn q w e v f) (fun r => True)) := by
  refine mt_X6_earliestLatest rfl (fun J hC => ?_)
  have hu1 := hI.2.1
  unfold cw_W at hu1
  have ro_nn : cw_ro K nn := hI.2.1.2.1
  have ro_dn : cw_ro K dn := hI.2.1.2.2.1
  have rg_x1 := pm_rng x1
  have rg_x2 := pm_rng x2
  refine hC.1 0 0 _ _ rfl _ _ _ _ _ ?_
  have k0 : (0 : Int32).toInt = 0 := rfl
  have lp3 : ∀ (n : Nat) (z3_5 : Int32) (z4_5 : Int32), (0 ≤ z4_5.toInt ∧ z4_5.toInt ≤ 24) → 200 - z4_5.toInt < (n : Int) → J 5 [some (.ref (q 5)), some (.int x1), some (.int x2), some (.int z3_5), some (.int z4_5)] [] (cw A0 g K nn dn q w e v f) 0 0 := by
    intro n
    induction n with
    | zero =>
      intro z3_5 z4_5 j0_5 j1_5
      omega
    | succ n ih4 =>
      intro z3_5 z4_5 j0_5 j1_5
      refine hC.1 1 5 _ _ rfl _ _ _ _ _ ?_
      have k24 : (24 : Int32).toInt = 24 := rfl
      refine And.intro (fun c5 => ?_) (fun c5 => ?_)
      · skip
        refine hC.1 3 39 _ _ rfl _ _ _ _ _ ?_
        exact ⟨rfl, fun e9 => absurd e9 (by decide), rfl, z3_5, rfl, rfl, by first | trivial | omega | (dsimp only; omega)⟩
      · skip
        have k1 : (1 : Int32).toInt = 1 := rfl
        refine And.intro (fun c6 => ?_) (fun c6 => ?_)
        · skip
          have dc6 : ((x1 &&& ((1 : Int32) <<< (z4_5 &&& 31)))).toInt = (0 : Int32).toInt := congrArg Int32.toInt c6
          refine hC.1 2 33 _ _ rfl _ _ _ _ _ ?_
          intro m7 em_33
          try have e7 : m7.toInt = (z4_5).toInt + (1) := by rw [em_33]; exact pm_addc _ _ (1) rfl (by omega) (by omega)
          exact ih4 z3_5 m7 (by omega) (by omega)
        · skip
          have dc6 := pm_neI c6
          refine Exists.intro _ (And.intro (cw_o5 hI.1) ?_)
          refine Exists.intro _ (Exists.intro _ (And.intro (Or.inl (cw_a21 hI.1)) (And.intro (by omega) ?_)))
          refine Exists.intro _ (Exists.intro _ (Exists.intro _ (Exists.intro _ (And.intro (c_J9_min_7cf53 (cw A0 g K nn dn q w e v f) z3_5 (f 21 (z4_5).toInt.toNat) ) (And.intro rfl (fun r9 A9 h9 => ?_))))))
          obtain ⟨y8, rfl, rfl, by8⟩ := h9
          refine hC.1 2 33 _ _ rfl _ _ _ _ _ ?_
          intro m10 em_33
          try have e10 : m10.toInt = (z4_5).toInt + (1) := by rw [em_33]; exact pm_addc _ _ (1) rfl (by omega) (by omega)
          exact ih4 y8 m10 (by omega) (by omega)
  exact lp3 (200 - (0 : Int32).toInt).toNat.succ x2 (0 : Int32) (by omega) (by omega)

set_option maxRecDepth 100000 in
set_option maxHeartbeats 2000000 in
theorem c_X6_findShortestWith (hI : cw_I K nn dn q w e) (hs : cw_S v f) {o1 : Nat} (ho1 : cw_ro K o1) (x2 : Int32)  : pm_Mt l g 107 2 0 0 [.ref (q 5), .ref (q o1), .int x2] (cw A0 g K nn dn q w e v f) (cw_Qs A0 g K nn dn q w e (fun r v2 f2 => r = none ∧ (True))) := by
  refine mt_X6_findShortestWith rfl (fun J hC => ?_)
  have hu1 := hI.2.1
  unfold cw_W at hu1
  have ro_nn : cw_ro K nn := hI.2.1.2.1
  have ro_dn : cw_ro K dn := hI.2.1.2.2.1
  have rg_x2 := pm_rng x2
  have zz0 := cw_sz hI ho1
  refine hC.1 0 0 _ _ rfl _ _ _ _ _ ?_
  refine And.intro (Exists.intro _ (cw_o5 hI.1)) (Exists.intro _ (Exists.intro _ (Exists.intro _ (Exists.intro _ (And.intro (c_X6_clearFound hI hs  ) (And.intro rfl (fun r9 A9 h9 => ?_)))))))
  rcases h9 with ⟨v3, f3, rfl, hs3, rfl, by2⟩
  have k0 : (0 : Int32).toInt = 0 := rfl
  refine Exists.intro _ (And.intro (cw_o5 hI.1) (And.intro rfl ?_))
  rw [cw_p_spansWithAll hI.1]
  obtain ⟨v4, ev4⟩ : ∃ z9, z9 = upd v3 10 (0 : Int32) := ⟨_, rfl⟩
  rw [← ev4]
  have hs4 : cw_S v4 f3 := by rw [ev4]; exact cw_S_v hs3 10 _ (by decide)
  have ev4_0 : (v4 0).toInt = (v3 0).toInt := by rw [ev4]; rfl
  refine Exists.intro _ (And.intro (cw_o5 hI.1) ?_)
  have km1 : (-1 : Int32).toInt = -1 := rfl
  refine Exists.intro _ (Exists.intro _ (Exists.intro _ (Exists.intro _ (And.intro (c_fill (cw_a21 hI.1) (by decide) (-1 : Int32)) (And.intro rfl (fun r9 A9 h9 => ?_))))))
  obtain ⟨rfl, rfl⟩ := h9
  rw [cw_s21 hI.1]
  obtain ⟨f5, ef5⟩ : ∃ z9, z9 = va_up f3 21 (fun j => if j < 24 then (-1 : Int32) else f3 21 j) := ⟨_, rfl⟩
  rw [← ef5]
  have hs5 : cw_S v4 f5 := by rw [ef5]; exact cw_S_fr hs4 _ _ (by decide) (by decide)
  have lp7 : ∀ (n : Nat) (z3_19 : Int32) (v6 : Nat → Int32) (f6 : Nat → Nat → Int32), cw_S v6 f6 → (0 ≤ z3_19.toInt ∧ z3_19.toInt ≤ 160) → 200 - z3_19.toInt < (n : Int) → J 19 [some (.ref (q 5)), some (.ref (q o1)), some (.int x2), some (.int z3_19), none] [] (cw A0 g K nn dn q w e v6 f6) 0 0 := by
    intro n
    induction n with
    | zero =>
      intro z3_19 v6 f6 hs6 j0_19 j1_19
      omega
    | succ n ih8 =>
      intro z3_19 v6 f6 hs6 j0_19 j1_19
      refine hC.1 1 19 _ _ rfl _ _ _ _ _ ?_
      refine Exists.intro _ (And.intro (cw_ro_o hI.1 ho1) ?_)
      have z9 := cw_sz hI ho1
      refine And.intro (fun c10 => ?_) (fun c10 => ?_)
      · skip
        refine hC.1 4 107 _ _ rfl _ _ _ _ _ ?_
        exact ⟨rfl, rfl, v6, f6, rfl, hs6, rfl, by first | trivial | omega | (dsimp only; omega)⟩
      · skip
        refine Exists.intro _ (And.intro (cw_o5 hI.1) ?_)
        refine Exists.intro _ (And.intro (cw_ro_o hI.1 ho1) ?_)
        refine Exists.intro _ (Exists.intro _ (And.intro (Or.inl (cw_ro_1 hI.1 ho1)) (And.intro (by omega) ?_)))
        have w11 := cw_col hI ho1 (z3_19).toInt.toNat
        refine Exists.intro _ (Exists.intro _ (And.intro (cw_a21 hI.1) (And.intro (by omega) ?_)))
        rw [cw_s21 hI.1]
        obtain ⟨f12, ef12⟩ : ∃ z9, z9 = va_up f6 21 (upd (f6 21) ((e (o1 + 1) (z3_19).toInt.toNat)).toInt.toNat z3_19) := ⟨_, rfl⟩
        rw [← ef12]
        have hs12 : cw_S v6 f12 := by rw [ef12]; exact cw_S_fr hs6 _ _ (by decide) (by decide)
        refine And.intro (Exists.intro _ (cw_o5 hI.1)) (Exists.intro _ (Exists.intro _ (Exists.intro _ (Exists.intro _ (And.intro (c_X6_earliestLatest hI hs12 x2 z3_19 ) (And.intro rfl (fun r9 A9 h9 => ?_)))))))
        obtain ⟨y13, rfl, rfl, by13⟩ := h9
        refine Exists.intro _ (And.intro (cw_o5 hI.1) ?_)
        have k1 : (1 : Int32).toInt = 1 := rfl
        intro m15 em_55
        try have e15 : m15.toInt = (y13).toInt + (1) := by rw [em_55]; exact pm_addc _ _ (1) rfl (by omega) (by omega)
        intro m16 em_56
        try have e16 : m16.toInt = ((v6 10)).toInt + (m15).toInt := by rw [em_56]; exact pm_add _ _ (by omega) (by omega)
        refine Exists.intro _ (And.intro (cw_o5 hI.1) (And.intro rfl ?_))
        rw [cw_p_spansWithAll hI.1]
        obtain ⟨v17, ev17⟩ : ∃ z9, z9 = upd v6 10 m16 := ⟨_, rfl⟩
        rw [← ev17]
        have hs17 : cw_S v17 f12 := by rw [ev17]; exact cw_S_v hs12 10 _ (by decide)
        have ev17_0 : (v17 0).toInt = (v6 0).toInt := by rw [ev17]; rfl
        refine And.intro (fun c18 => ?_) (fun c18 => ?_)
        · skip
          have dc18 : (y13).toInt = ((-1 : Int32) : Int32).toInt := congrArg Int32.toInt c18
          refine hC.1 3 101 _ _ rfl _ _ _ _ _ ?_
          intro m19 em_101
          try have e19 : m19.toInt = (z3_19).toInt + (1) := by rw [em_101]; exact pm_addc _ _ (1) rfl (by omega) (by omega)
          exact hC.2 [false, false, false, false, true] _ _ _ _ _ _ (ih8 m19 v17 f12 hs17 (by omega) (by omega))
        · skip
          have dc18 := pm_neI c18
          refine Exists.intro _ (And.intro (cw_o5 hI.1) ?_)
          refine And.intro (fun c20 => ?_) (fun c20 => ?_)
          · skip
            have dc20 : ((v17 7)).toInt = ((-1 : Int32) : Int32).toInt := congrArg Int32.toInt c20
            refine hC.1 2 90 _ _ rfl _ _ _ _ _ ?_
            refine Exists.intro _ (And.intro (cw_o5 hI.1) (And.intro rfl ?_))
            rw [cw_p_first hI.1]
            obtain ⟨v21, ev21⟩ : ∃ z9, z9 = upd v17 7 y13 := ⟨_, rfl⟩
            rw [← ev21]
            have hs21 : cw_S v21 f12 := by rw [ev21]; exact cw_S_v hs17 7 _ (by decide)
            have ev21_0 : (v21 0).toInt = (v17 0).toInt := by rw [ev21]; rfl
            refine Exists.intro _ (And.intro (cw_o5 hI.1) (And.intro rfl ?_))
            rw [cw_p_last hI.1]
            obtain ⟨v22, ev22⟩ : ∃ z9, z9 = upd v21 8 z3_19 := ⟨_, rfl⟩
            rw [← ev22]
            have hs22 : cw_S v22 f12 := by rw [ev22]; exact cw_S_v hs21 8 _ (by decide)
            have ev22_0 : (v22 0).toInt = (v21 0).toInt := by rw [ev22]; rfl
            refine hC.1 3 101 _ _ rfl _ _ _ _ _ ?_
            intro m23 em_101
            try have e23 : m23.toInt = (z3_19).toInt + (1) := by rw [em_101]; exact pm_addc _ _ (1) rfl (by omega) (by omega)
            exact hC.2 [false, false, false, false, true] _ _ _ _ _ _ (ih8 m23 v22 f12 hs22 (by omega) (by omega))
          · skip
            have dc20 := pm_neI c20
            intro m24 em_77
            try have e24 : m24.toInt = (z3_19).toInt - (y13).toInt := by rw [em_77]; exact pm_sub _ _ (by omega) (by omega)
            refine Exists.intro _ (And.intro (cw_o5 hI.1) ?_)
            refine Exists.intro _ (And.intro (cw_o5 hI.1) ?_)
            intro m25 em_86
            try have e25 : m25.toInt = ((v17 8)).toInt - ((v17 7)).toInt := by rw [em_86]; exact pm_sub _ _ (by omega) (by omega)
            refine And.intro (fun c26 => ?_) (fun c26 => ?_)
            · skip
              refine hC.1 3 101 _ _ rfl _ _ _ _ _ ?_
              intro m27 em_101
              try have e27 : m27.toInt = (z3_19).toInt + (1) := by rw [em_101]; exact pm_addc _ _ (1) rfl (by omega) (by omega)
              exact hC.2 [false, false, false, false, true] _ _ _ _ _ _ (ih8 m27 v17 f12 hs17 (by omega) (by omega))
            · skip
              refine hC.1 2 90 _ _ rfl _ _ _ _ _ ?_
              refine Exists.intro _ (And.intro (cw_o5 hI.1) (And.intro rfl ?_))
              rw [cw_p_first hI.1]
              obtain ⟨v28, ev28⟩ : ∃ z9, z9 = upd v17 7 y13 := ⟨_, rfl⟩
              rw [← ev28]
              have hs28 : cw_S v28 f12 := by rw [ev28]; exact cw_S_v hs17 7 _ (by decide)
              have ev28_0 : (v28 0).toInt = (v17 0).toInt := by rw [ev28]; rfl
              refine Exists.intro _ (And.intro (cw_o5 hI.1) (And.intro rfl ?_))
              rw [cw_p_last hI.1]
              obtain ⟨v29, ev29⟩ : ∃ z9, z9 = upd v28 8 z3_19 := ⟨_, rfl⟩
              rw [← ev29]
              have hs29 : cw_S v29 f12 := by rw [ev29]; exact cw_S_v hs28 8 _ (by decide)
              have ev29_0 : (v29 0).toInt = (v28 0).toInt := by rw [ev29]; rfl
              refine hC.1 3 101 _ _ rfl _ _ _ _ _ ?_
              intro m30 em_101
              try have e30 : m30.toInt = (z3_19).toInt + (1) := by rw [em_101]; exact pm_addc _ _ (1) rfl (by omega) (by omega)
              exact hC.2 [false, false, false, false, true] _ _ _ _ _ _ (ih8 m30 v29 f12 hs29 (by omega) (by omega))
  exact lp7 (200 - (0 : Int32).toInt).toNat.succ (0 : Int32) v4 f5 hs5 (by omega) (by omega)

set_option maxRecDepth 100000 in
set_option maxHeartbeats 2000000 in
theorem c_X6_findLongestOf (hI : cw_I K nn dn q w e) (hs : cw_S v f) {o1 : Nat} (ho1 : cw_ro K o1) (x3 : Int32)  : pm_Mt l g 112 2 0 0 [.ref (q 5), .ref (q o1), .ref (q 2), .int x3] (cw A0 g K nn dn q w e v f) (cw_Qs A0 g K nn dn q w e (fun r v2 f2 => r = none ∧ (True))) := by
  refine mt_X6_findLongestOf rfl (fun J hC => ?_)
  have hu1 := hI.2.1
  unfold cw_W at hu1
  have ro_nn : cw_ro K nn := hI.2.1.2.1
  have ro_dn : cw_ro K dn := hI.2.1.2.2.1
  have rg_x3 := pm_rng x3
  have zz0 := cw_sz hI ho1
  refine hC.1 0 0 _ _ rfl _ _ _ _ _ ?_
  refine And.intro (Exists.intro _ (cw_o5 hI.1)) (Exists.intro _ (Exists.intro _ (Exists.intro _ (Exists.intro _ (And.intro (c_X6_clearFound hI hs  ) (And.intro rfl (fun r9 A9 h9 => ?_)))))))
  rcases h9 with ⟨v3, f3, rfl, hs3, rfl, by2⟩
  refine And.intro (Exists.intro _ (cw_o2 hI.1)) (Exists.intro _ (Exists.intro _ (Exists.intro _ (Exists.intro _ (And.intro (c_X2_clear hI hs3  ) (And.intro rfl (fun r9 A9 h9 => ?_)))))))
  rcases h9 with ⟨v5, f5, rfl, hs5, rfl, by4⟩
  have k0 : (0 : Int32).toInt = 0 := rfl
  have lp7 : ∀ (n : Nat) (z4_14 : Int32) (z5_14 : Int32) (v6 : Nat → Int32) (f6 : Nat → Nat → Int32), cw_S v6 f6 → (0 ≤ z5_14.toInt ∧ z5_14.toInt ≤ 160) → (0 ≤ z4_14.toInt ∧ z4_14.toInt ≤ z5_14.toInt) → 200 - z5_14.toInt < (n : Int) → J 14 [some (.ref (q 5)), some (.ref (q o1)), some (.ref (q 2)), some (.int x3), some (.int z4_14), some (.int z5_14)] [] (cw A0 g K nn dn q w e v6 f6) 0 0 := by
    intro n
    induction n with
    | zero =>
      intro z4_14 z5_14 v6 f6 hs6 j0_14 j1_14 j2_14
      omega
    | succ n ih8 =>
      intro z4_14 z5_14 v6 f6 hs6 j0_14 j1_14 j2_14
      refine hC.1 1 14 _ _ rfl _ _ _ _ _ ?_
      refine Exists.intro _ (And.intro (cw_ro_o hI.1 ho1) ?_)
      have z9 := cw_sz hI ho1
      refine And.intro (fun c10 => ?_) (fun c10 => ?_)
      · skip
        refine hC.1 4 80 _ _ rfl _ _ _ _ _ ?_
        exact ⟨rfl, rfl, v6, f6, rfl, hs6, rfl, by first | trivial | omega | (dsimp only; omega)⟩
      · skip
        refine Exists.intro _ (And.intro (cw_ro_o hI.1 ho1) ?_)
        refine Exists.intro _ (Exists.intro _ (And.intro (Or.inl (cw_ro_1 hI.1 ho1)) (And.intro (by omega) ?_)))
        have w11 := cw_col hI ho1 (z5_14).toInt.toNat
        refine And.intro (Exists.intro _ (cw_o2 hI.1)) (Exists.intro _ (Exists.intro _ (Exists.intro _ (Exists.intro _ (And.intro (c_X2_take hI hs6 (e (o1 + 1) (z5_14).toInt.toNat) (by omega)) (And.intro rfl (fun r9 A9 h9 => ?_)))))))
        rcases h9 with ⟨v13, f13, rfl, hs13, rfl, by12⟩
        have lp15 : ∀ (n : Nat) (z4_34 : Int32) (v14 : Nat → Int32) (f14 : Nat → Nat → Int32), cw_S v14 f14 → (0 ≤ z4_34.toInt ∧ z4_34.toInt ≤ z5_14.toInt) → 200 - z4_34.toInt < (n : Int) → J 34 [some (.ref (q 5)), some (.ref (q o1)), some (.ref (q 2)), some (.int x3), some (.int z4_34), some (.int z5_14)] [] (cw A0 g K nn dn q w e v14 f14) 0 0 := by
          intro n
          induction n with
          | zero =>
            intro z4_34 v14 f14 hs14 j0_34 j1_34
            omega
          | succ n ih16 =>
            intro z4_34 v14 f14 hs14 j0_34 j1_34
            refine hC.1 2 34 _ _ rfl _ _ _ _ _ ?_
            refine Exists.intro _ (And.intro (cw_o2 hI.1) ?_)
            refine And.intro (fun c17 => ?_) (fun c17 => ?_)
            · skip
              refine hC.1 3 66 _ _ rfl _ _ _ _ _ ?_
              refine And.intro (Exists.intro _ (cw_o5 hI.1)) (Exists.intro _ (Exists.intro _ (Exists.intro _ (Exists.intro _ (And.intro (c_X6_offerLonger hI hs14 z4_34 z5_14 ) (And.intro rfl (fun r9 A9 h9 => ?_)))))))
              rcases h9 with ⟨v19, f19, rfl, hs19, rfl, by18⟩
              have k1 : (1 : Int32).toInt = 1 := rfl
              intro m20 em_74
              try have e20 : m20.toInt = (z5_14).toInt + (1) := by rw [em_74]; exact pm_addc _ _ (1) rfl (by omega) (by omega)
              exact ih8 z4_34 m20 v19 f19 hs19 (by omega) (by omega) (by omega)
            · skip
              refine And.intro (fun c21 => ?_) (fun c21 => ?_)
              · skip
                refine hC.1 3 66 _ _ rfl _ _ _ _ _ ?_
                refine And.intro (Exists.intro _ (cw_o5 hI.1)) (Exists.intro _ (Exists.intro _ (Exists.intro _ (Exists.intro _ (And.intro (c_X6_offerLonger hI hs14 z4_34 z5_14 ) (And.intro rfl (fun r9 A9 h9 => ?_)))))))
                rcases h9 with ⟨v23, f23, rfl, hs23, rfl, by22⟩
                have k1 : (1 : Int32).toInt = 1 := rfl
                intro m24 em_74
                try have e24 : m24.toInt = (z5_14).toInt + (1) := by rw [em_74]; exact pm_addc _ _ (1) rfl (by omega) (by omega)
                exact ih8 z4_34 m24 v23 f23 hs23 (by omega) (by omega) (by omega)
              · skip
                refine Exists.intro _ (And.intro (cw_ro_o hI.1 ho1) ?_)
                refine Exists.intro _ (Exists.intro _ (And.intro (Or.inl (cw_ro_1 hI.1 ho1)) (And.intro (by omega) ?_)))
                have w25 := cw_col hI ho1 (z4_34).toInt.toNat
                refine And.intro (Exists.intro _ (cw_o2 hI.1)) (Exists.intro _ (Exists.intro _ (Exists.intro _ (Exists.intro _ (And.intro (c_X2_drop hI hs14 (e (o1 + 1) (z4_34).toInt.toNat) (by omega)) (And.intro rfl (fun r9 A9 h9 => ?_)))))))
                rcases h9 with ⟨v27, f27, rfl, hs27, rfl, by26⟩
                have k1 : (1 : Int32).toInt = 1 := rfl
                intro m28 em_60
                try have e28 : m28.toInt = (z4_34).toInt + (1) := by rw [em_60]; exact pm_addc _ _ (1) rfl (by omega) (by omega)
                exact ih16 m28 v27 f27 hs27 (by omega) (by omega)
        exact lp15 (200 - z4_14.toInt).toNat.succ z4_14 v13 f13 hs13 (by omega) (by omega)
  exact lp7 (200 - (0 : Int32).toInt).toNat.succ (0 : Int32) (0 : Int32) v5 f5 hs5 (by omega) (by omega) (by omega)

end
