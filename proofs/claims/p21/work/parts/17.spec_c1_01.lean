section
variable {l : Launch} {g : pm_G} {A0 : pm_H} {K nn dn : Nat} {q : Nat → Nat} {w : Nat → Int32} {e : Nat → Nat → Int32} {v : Nat → Int32} {f : Nat → Nat → Int32}
set_option maxRecDepth 100000 in
set_option maxHeartbeats 2000000 in
theorem c_X7_nextAlike (hI : cw_I K nn dn q w e) (hs : cw_S v f) {o0 : Nat} (ho0 : cw_ro K o0) (x1 : Int32)  : pm_Mt l g 43 1 0 0 [.ref (q o0), .int x1] (cw A0 g K nn dn q w e v f) (md_Qp (cw A0 g K nn dn q w e v f) (fun r => True)) := by
  refine mt_X7_nextAlike rfl (fun J hC => ?_)
  have hu1 := hI.2.1
  unfold cw_W at hu1
  have ro_nn : cw_ro K nn := hI.2.1.2.1
  have ro_dn : cw_ro K dn := hI.2.1.2.2.1
  have rg_x1 := pm_rng x1
  have zz0 := cw_sz hI ho0
  refine hC.1 0 0 _ _ rfl _ _ _ _ _ ?_
  refine And.intro (Exists.intro _ (cw_ro_o hI.1 ho0)) (Exists.intro _ (Exists.intro _ (Exists.intro _ (Exists.intro _ (And.intro (c_X7_has hI hs ho0 x1 ) (And.intro rfl (fun r9 A9 h9 => ?_)))))))
  rcases h9 with ⟨y2, rfl, rfl, ⟨rfl, by2⟩ | ⟨rfl, by2⟩⟩
  · skip
    have k1 : (1 : Int32).toInt = 1 := rfl
    refine And.intro (fun _ => ?_) (fun c9 => absurd c9 (by decide))
    refine hC.1 1 10 _ _ rfl _ _ _ _ _ ?_
    intro m4 em_12
    try have e4 : m4.toInt = (x1).toInt + (1) := by rw [em_12]; exact pm_addc _ _ (1) rfl (by omega) (by omega)
    have lp6 : ∀ (n : Nat) (z2_14 : Int32), (0 ≤ z2_14.toInt ∧ z2_14.toInt ≤ 160) → 200 - z2_14.toInt < (n : Int) → J 14 [some (.ref (q o0)), some (.int x1), some (.int z2_14)] [] (cw A0 g K nn dn q w e v f) 0 0 := by
      intro n
      induction n with
      | zero =>
        intro z2_14 j0_14 j1_14
        omega
      | succ n ih7 =>
        intro z2_14 j0_14 j1_14
        refine hC.1 2 14 _ _ rfl _ _ _ _ _ ?_
        refine Exists.intro _ (And.intro (cw_ro_o hI.1 ho0) ?_)
        have z8 := cw_sz hI ho0
        refine And.intro (fun c9 => ?_) (fun c9 => ?_)
        · skip
          refine hC.1 4 45 _ _ rfl _ _ _ _ _ ?_
          have km1 : (-1 : Int32).toInt = -1 := rfl
          exact ⟨rfl, fun e9 => absurd e9 (by decide), rfl, (-1 : Int32), rfl, rfl, by first | trivial | omega | (dsimp only; omega)⟩
        · skip
          refine Exists.intro _ (And.intro (cw_ro_o hI.1 ho0) ?_)
          refine Exists.intro _ (Exists.intro _ (And.intro (Or.inl (cw_ro_1 hI.1 ho0)) (And.intro (by omega) ?_)))
          have w10 := cw_col hI ho0 (z2_14).toInt.toNat
          refine Exists.intro _ (And.intro (cw_ro_o hI.1 ho0) ?_)
          refine Exists.intro _ (Exists.intro _ (And.intro (Or.inl (cw_ro_1 hI.1 ho0)) (And.intro (by omega) ?_)))
          have w11 := cw_col hI ho0 (x1).toInt.toNat
          refine And.intro (fun c12 => ?_) (fun c12 => ?_)
          · skip
            have dc12 := pm_neI c12
            refine hC.1 3 39 _ _ rfl _ _ _ _ _ ?_
            intro m13 em_39
            try have e13 : m13.toInt = (z2_14).toInt + (1) := by rw [em_39]; exact pm_addc _ _ (1) rfl (by omega) (by omega)
            exact ih7 m13 (by omega) (by omega)
          · skip
            have dc12 : ((e (o0 + 1) (z2_14).toInt.toNat)).toInt = ((e (o0 + 1) (x1).toInt.toNat) : Int32).toInt := congrArg Int32.toInt c12
            exact ⟨rfl, fun e9 => absurd e9 (by decide), rfl, z2_14, rfl, rfl, by first | trivial | omega | (dsimp only; omega)⟩
    exact lp6 (200 - m4.toInt).toNat.succ m4 (by omega) (by omega)
  · skip
    have k0 : (0 : Int32).toInt = 0 := rfl
    refine And.intro (fun c9 => absurd c9 (by decide)) (fun _ => ?_)
    have km1 : (-1 : Int32).toInt = -1 := rfl
    exact ⟨rfl, fun e9 => absurd e9 (by decide), rfl, (-1 : Int32), rfl, rfl, by first | trivial | omega | (dsimp only; omega)⟩

set_option maxRecDepth 100000 in
set_option maxHeartbeats 2000000 in
theorem c_X7_howMany (hI : cw_I K nn dn q w e) (hs : cw_S v f) {o0 : Nat} (ho0 : cw_ro K o0) (x1 : Int32)  : pm_Mt l g 48 0 0 0 [.ref (q o0), .int x1] (cw A0 g K nn dn q w e v f) (md_Qp (cw A0 g K nn dn q w e v f) (fun r => True)) := by
  refine mt_X7_howMany rfl (fun J hC => ?_)
  have hu1 := hI.2.1
  unfold cw_W at hu1
  have ro_nn : cw_ro K nn := hI.2.1.2.1
  have ro_dn : cw_ro K dn := hI.2.1.2.2.1
  have rg_x1 := pm_rng x1
  have zz0 := cw_sz hI ho0
  refine hC.1 0 0 _ _ rfl _ _ _ _ _ ?_
  have k0 : (0 : Int32).toInt = 0 := rfl
  have lp3 : ∀ (n : Nat) (z2_4 : Int32) (z3_4 : Int32), (0 ≤ z3_4.toInt ∧ z3_4.toInt ≤ 160) → 200 - z3_4.toInt < (n : Int) → J 4 [some (.ref (q o0)), some (.int x1), some (.int z2_4), some (.int z3_4)] [] (cw A0 g K nn dn q w e v f) 0 0 := by
    intro n
    induction n with
    | zero =>
      intro z2_4 z3_4 j0_4 j1_4
      omega
    | succ n ih4 =>
      intro z2_4 z3_4 j0_4 j1_4
      refine hC.1 1 4 _ _ rfl _ _ _ _ _ ?_
      refine Exists.intro _ (And.intro (cw_ro_o hI.1 ho0) ?_)
      have z5 := cw_sz hI ho0
      refine And.intro (fun c6 => ?_) (fun c6 => ?_)
      · skip
        refine hC.1 3 31 _ _ rfl _ _ _ _ _ ?_
        exact ⟨rfl, fun e9 => absurd e9 (by decide), rfl, z2_4, rfl, rfl, by first | trivial | omega | (dsimp only; omega)⟩
      · skip
        refine Exists.intro _ (And.intro (cw_ro_o hI.1 ho0) ?_)
        refine Exists.intro _ (Exists.intro _ (And.intro (Or.inl (cw_ro_1 hI.1 ho0)) (And.intro (by omega) ?_)))
        have w7 := cw_col hI ho0 (z3_4).toInt.toNat
        refine And.intro (fun c8 => ?_) (fun c8 => ?_)
        · skip
          have dc8 := pm_neI c8
          refine hC.1 2 25 _ _ rfl _ _ _ _ _ ?_
          have k1 : (1 : Int32).toInt = 1 := rfl
          intro m9 em_25
          try have e9 : m9.toInt = (z3_4).toInt + (1) := by rw [em_25]; exact pm_addc _ _ (1) rfl (by omega) (by omega)
          exact ih4 z2_4 m9 (by omega) (by omega)
        · skip
          have dc8 : ((e (o0 + 1) (z3_4).toInt.toNat)).toInt = (x1 : Int32).toInt := congrArg Int32.toInt c8
          have k1 : (1 : Int32).toInt = 1 := rfl
          intro m10 em_22
          try have e10 : m10.toInt = (z2_4).toInt + (1) := by rw [em_22]; exact pm_addc _ _ (1) rfl (by omega) (by omega)
          refine hC.1 2 25 _ _ rfl _ _ _ _ _ ?_
          intro m11 em_25
          try have e11 : m11.toInt = (z3_4).toInt + (1) := by rw [em_25]; exact pm_addc _ _ (1) rfl (by omega) (by omega)
          exact ih4 m10 m11 (by omega) (by omega)
  exact lp3 (200 - (0 : Int32).toInt).toNat.succ (0 : Int32) (0 : Int32) (by omega) (by omega)

set_option maxRecDepth 100000 in
set_option maxHeartbeats 2000000 in
theorem c_X7_placeOfNth (hI : cw_I K nn dn q w e) (hs : cw_S v f) {o0 : Nat} (ho0 : cw_ro K o0) (x1 : Int32) (x2 : Int32)  : pm_Mt l g 49 0 0 0 [.ref (q o0), .int x1, .int x2] (cw A0 g K nn dn q w e v f) (md_Qp (cw A0 g K nn dn q w e v f) (fun r => True)) := by
  refine mt_X7_placeOfNth rfl (fun J hC => ?_)
  have hu1 := hI.2.1
  unfold cw_W at hu1
  have ro_nn : cw_ro K nn := hI.2.1.2.1
  have ro_dn : cw_ro K dn := hI.2.1.2.2.1
  have rg_x1 := pm_rng x1
  have rg_x2 := pm_rng x2
  have zz0 := cw_sz hI ho0
  refine hC.1 0 0 _ _ rfl _ _ _ _ _ ?_
  have k0 : (0 : Int32).toInt = 0 := rfl
  have lp3 : ∀ (n : Nat) (z3_5 : Int32) (z4_5 : Int32), (0 ≤ z4_5.toInt ∧ z4_5.toInt ≤ 160) → 200 - z4_5.toInt < (n : Int) → J 5 [some (.ref (q o0)), some (.int x1), some (.int x2), some (.int z3_5), some (.int z4_5)] [] (cw A0 g K nn dn q w e v f) 0 0 := by
    intro n
    induction n with
    | zero =>
      intro z3_5 z4_5 j0_5 j1_5
      omega
    | succ n ih4 =>
      intro z3_5 z4_5 j0_5 j1_5
      refine hC.1 1 5 _ _ rfl _ _ _ _ _ ?_
      refine Exists.intro _ (And.intro (cw_ro_o hI.1 ho0) ?_)
      have z5 := cw_sz hI ho0
      refine And.intro (fun c6 => ?_) (fun c6 => ?_)
      · skip
        refine hC.1 4 42 _ _ rfl _ _ _ _ _ ?_
        have km1 : (-1 : Int32).toInt = -1 := rfl
        exact ⟨rfl, fun e9 => absurd e9 (by decide), rfl, (-1 : Int32), rfl, rfl, by first | trivial | omega | (dsimp only; omega)⟩
      · skip
        refine Exists.intro _ (And.intro (cw_ro_o hI.1 ho0) ?_)
        refine Exists.intro _ (Exists.intro _ (And.intro (Or.inl (cw_ro_1 hI.1 ho0)) (And.intro (by omega) ?_)))
        have w7 := cw_col hI ho0 (z4_5).toInt.toNat
        refine And.intro (fun c8 => ?_) (fun c8 => ?_)
        · skip
          have dc8 := pm_neI c8
          refine hC.1 3 36 _ _ rfl _ _ _ _ _ ?_
          have k1 : (1 : Int32).toInt = 1 := rfl
          intro m9 em_36
          try have e9 : m9.toInt = (z4_5).toInt + (1) := by rw [em_36]; exact pm_addc _ _ (1) rfl (by omega) (by omega)
          exact ih4 z3_5 m9 (by omega) (by omega)
        · skip
          have dc8 : ((e (o0 + 1) (z4_5).toInt.toNat)).toInt = (x1 : Int32).toInt := congrArg Int32.toInt c8
          refine And.intro (fun c10 => ?_) (fun c10 => ?_)
          · skip
            have dc10 := pm_neI c10
            refine hC.1 2 33 _ _ rfl _ _ _ _ _ ?_
            have k1 : (1 : Int32).toInt = 1 := rfl
            intro m11 em_33
            try have e11 : m11.toInt = (z3_5).toInt + (1) := by rw [em_33]; exact pm_addc _ _ (1) rfl (by omega) (by omega)
            refine hC.1 3 36 _ _ rfl _ _ _ _ _ ?_
            intro m12 em_36
            try have e12 : m12.toInt = (z4_5).toInt + (1) := by rw [em_36]; exact pm_addc _ _ (1) rfl (by omega) (by omega)
            exact ih4 m11 m12 (by omega) (by omega)
          · skip
            have dc10 : (z3_5).toInt = (x2 : Int32).toInt := congrArg Int32.toInt c10
            exact ⟨rfl, fun e9 => absurd e9 (by decide), rfl, z4_5, rfl, rfl, by first | trivial | omega | (dsimp only; omega)⟩
  exact lp3 (200 - (0 : Int32).toInt).toNat.succ (0 : Int32) (0 : Int32) (by omega) (by omega)

set_option maxRecDepth 100000 in
set_option maxHeartbeats 2000000 in
theorem c_X7_widestGap (hI : cw_I K nn dn q w e) (hs : cw_S v f) {o0 : Nat} (ho0 : cw_ro K o0) (x1 : Int32)  : pm_Mt l g 50 1 0 0 [.ref (q o0), .int x1] (cw A0 g K nn dn q w e v f) (md_Qp (cw A0 g K nn dn q w e v f) (fun r => True)) := by
  refine mt_X7_widestGap rfl (fun J hC => ?_)
  have hu1 := hI.2.1
  unfold cw_W at hu1
  have ro_nn : cw_ro K nn := hI.2.1.2.1
  have ro_dn : cw_ro K dn := hI.2.1.2.2.1
  have rg_x1 := pm_rng x1
  have zz0 := cw_sz hI ho0
  refine hC.1 0 0 _ _ rfl _ _ _ _ _ ?_
  have km1 : (-1 : Int32).toInt = -1 := rfl
  have k0 : (0 : Int32).toInt = 0 := rfl
  have lp3 : ∀ (n : Nat) (z2_4 : Int32) (z3_4 : Int32), (0 ≤ z3_4.toInt ∧ z3_4.toInt ≤ 160) → 200 - z3_4.toInt < (n : Int) → J 4 [some (.ref (q o0)), some (.int x1), some (.int z2_4), some (.int z3_4)] [] (cw A0 g K nn dn q w e v f) 0 0 := by
    intro n
    induction n with
    | zero =>
      intro z2_4 z3_4 j0_4 j1_4
      omega
    | succ n ih4 =>
      intro z2_4 z3_4 j0_4 j1_4
      refine hC.1 1 4 _ _ rfl _ _ _ _ _ ?_
      refine Exists.intro _ (And.intro (cw_ro_o hI.1 ho0) ?_)
      have z5 := cw_sz hI ho0
      refine And.intro (fun c6 => ?_) (fun c6 => ?_)
      · skip
        refine hC.1 3 53 _ _ rfl _ _ _ _ _ ?_
        exact ⟨rfl, fun e9 => absurd e9 (by decide), rfl, z2_4, rfl, rfl, by first | trivial | omega | (dsimp only; omega)⟩
      · skip
        refine Exists.intro _ (And.intro (cw_ro_o hI.1 ho0) ?_)
        refine Exists.intro _ (Exists.intro _ (And.intro (Or.inl (cw_ro_1 hI.1 ho0)) (And.intro (by omega) ?_)))
        have w7 := cw_col hI ho0 (z3_4).toInt.toNat
        refine And.intro (fun c8 => ?_) (fun c8 => ?_)
        · skip
          have dc8 := pm_neI c8
          refine hC.1 2 47 _ _ rfl _ _ _ _ _ ?_
          have k1 : (1 : Int32).toInt = 1 := rfl
          intro m9 em_47
          try have e9 : m9.toInt = (z3_4).toInt + (1) := by rw [em_47]; exact pm_addc _ _ (1) rfl (by omega) (by omega)
          exact ih4 z2_4 m9 (by omega) (by omega)
        · skip
          have dc8 : ((e (o0 + 1) (z3_4).toInt.toNat)).toInt = (x1 : Int32).toInt := congrArg Int32.toInt c8
          refine Exists.intro _ (And.intro (cw_ro_o hI.1 ho0) ?_)
          refine Exists.intro _ (Exists.intro _ (And.intro (Or.inl (cw_ro_3 hI.1 ho0)) (And.intro (by omega) ?_)))
          have w10 := cw_ahd hI ho0 (z3_4).toInt.toNat
          refine And.intro (fun c11 => ?_) (fun c11 => ?_)
          · skip
            have dc11 : ((e (o0 + 3) (z3_4).toInt.toNat)).toInt = ((-1 : Int32) : Int32).toInt := congrArg Int32.toInt c11
            refine hC.1 2 47 _ _ rfl _ _ _ _ _ ?_
            have k1 : (1 : Int32).toInt = 1 := rfl
            intro m12 em_47
            try have e12 : m12.toInt = (z3_4).toInt + (1) := by rw [em_47]; exact pm_addc _ _ (1) rfl (by omega) (by omega)
            exact ih4 z2_4 m12 (by omega) (by omega)
          · skip
            have dc11 := pm_neI c11
            refine Exists.intro _ (And.intro (cw_ro_o hI.1 ho0) ?_)
            refine Exists.intro _ (Exists.intro _ (And.intro (Or.inl (cw_ro_3 hI.1 ho0)) (And.intro (by omega) ?_)))
            have w13 := cw_ahd hI ho0 (z3_4).toInt.toNat
            intro m14 em_40
            try have e14 : m14.toInt = (z3_4).toInt - ((e (o0 + 3) (z3_4).toInt.toNat)).toInt := by rw [em_40]; exact pm_sub _ _ (by omega) (by omega)
            have k1 : (1 : Int32).toInt = 1 := rfl
            intro m15 em_42
            try have e15 : m15.toInt = (m14).toInt - (1) := by rw [em_42]; exact pm_subc _ _ (1) rfl (by omega) (by omega)
            refine Exists.intro _ (Exists.intro _ (Exists.intro _ (Exists.intro _ (And.intro (c_J9_max_7cf53 (cw A0 g K nn dn q w e v f) z2_4 m15 ) (And.intro rfl (fun r9 A9 h9 => ?_))))))
            obtain ⟨y16, rfl, rfl, by16⟩ := h9
            refine hC.1 2 47 _ _ rfl _ _ _ _ _ ?_
            intro m18 em_47
            try have e18 : m18.toInt = (z3_4).toInt + (1) := by rw [em_47]; exact pm_addc _ _ (1) rfl (by omega) (by omega)
            exact ih4 y16 m18 (by omega) (by omega)
  exact lp3 (200 - (0 : Int32).toInt).toNat.succ (-1 : Int32) (0 : Int32) (by omega) (by omega)

set_option maxRecDepth 100000 in
set_option maxHeartbeats 2000000 in
theorem c_X9_behind (hI : cw_I K nn dn q w e) (hs : cw_S v f) (x1 : Int32)  : pm_Mt l g 149 0 0 0 [.ref (q 1), .int x1] (cw A0 g K nn dn q w e v f) (fun r A9 => A9 = (cw A0 g K nn dn q w e v f) ∧ (r = some .null ∨ ∃ o9, r = some (.ref (q o9)) ∧ cw_ro K o9)) := by
  refine mt_X9_behind rfl (fun J hC => ?_)
  have hu1 := hI.2.1
  unfold cw_W at hu1
  have ro_nn : cw_ro K nn := hI.2.1.2.1
  have ro_dn : cw_ro K dn := hI.2.1.2.2.1
  have rg_x1 := pm_rng x1
  refine hC.1 0 0 _ _ rfl _ _ _ _ _ ?_
  refine And.intro (fun c2 => ?_) (fun c2 => ?_)
  · skip
    refine hC.1 1 27 _ _ rfl _ _ _ _ _ ?_
    have k0 : (0 : Int32).toInt = 0 := rfl
    refine hC.1 2 28 _ _ rfl _ _ _ _ _ ?_
    refine And.intro (fun _ => ?_) (fun c9 => absurd c9 (by decide))
    refine hC.1 3 45 _ _ rfl _ _ _ _ _ ?_
    refine hC.1 4 46 _ _ rfl _ _ _ _ _ ?_
    exact ⟨rfl, rfl, rfl, Or.inl rfl⟩
  · skip
    refine Exists.intro _ (And.intro (cw_o1 hI.1) ?_)
    refine And.intro (fun c3 => ?_) (fun c3 => ?_)
    · skip
      refine hC.1 1 27 _ _ rfl _ _ _ _ _ ?_
      have k0 : (0 : Int32).toInt = 0 := rfl
      refine hC.1 2 28 _ _ rfl _ _ _ _ _ ?_
      refine And.intro (fun _ => ?_) (fun c9 => absurd c9 (by decide))
      refine hC.1 3 45 _ _ rfl _ _ _ _ _ ?_
      refine hC.1 4 46 _ _ rfl _ _ _ _ _ ?_
      exact ⟨rfl, rfl, rfl, Or.inl rfl⟩
    · skip
      refine Exists.intro _ (And.intro (cw_o1 hI.1) ?_)
      have k40 : (40 : Int32).toInt = 40 := rfl
      intro m4 em_19
      try have e4 : m4.toInt = ((w 0)).toInt - (40) := by rw [em_19]; exact pm_subc _ _ (40) rfl (by omega) (by omega)
      refine And.intro (fun c5 => ?_) (fun c5 => ?_)
      · skip
        refine hC.1 1 27 _ _ rfl _ _ _ _ _ ?_
        have k0 : (0 : Int32).toInt = 0 := rfl
        refine hC.1 2 28 _ _ rfl _ _ _ _ _ ?_
        refine And.intro (fun _ => ?_) (fun c9 => absurd c9 (by decide))
        refine hC.1 3 45 _ _ rfl _ _ _ _ _ ?_
        refine hC.1 4 46 _ _ rfl _ _ _ _ _ ?_
        exact ⟨rfl, rfl, rfl, Or.inl rfl⟩
      · skip
        have k1 : (1 : Int32).toInt = 1 := rfl
        refine hC.1 2 28 _ _ rfl _ _ _ _ _ ?_
        refine And.intro (fun c9 => absurd c9 (by decide)) (fun _ => ?_)
        refine Exists.intro _ (And.intro (cw_o1 hI.1) ?_)
        have k41 : (41 : Int32).toInt = 41 := rfl
        refine And.intro (by decide) ?_
        intro m6 em_40
        try have e6 := pm_rem x1 (41 : Int32) (by omega) (by omega)
        try rw [← em_40] at e6
        refine Exists.intro _ (Exists.intro _ (And.intro (Or.inl (cw_rows hI.1)) (And.intro (by omega) ?_)))
        rcases cw_rr_c (K := K) q (m6).toInt.toNat with hr7 | ⟨o7, hr7, ho7⟩
        · skip
          rw [hr7]
          refine hC.1 4 46 _ _ rfl _ _ _ _ _ ?_
          exact ⟨rfl, rfl, rfl, Or.inl rfl⟩
        · skip
          rw [hr7]
          refine hC.1 4 46 _ _ rfl _ _ _ _ _ ?_
          exact ⟨rfl, rfl, rfl, Or.inr ⟨o7, rfl, ho7⟩⟩

set_option maxRecDepth 100000 in
set_option maxHeartbeats 2000000 in
theorem c_X9_hasRoomFor (hI : cw_I K nn dn q w e) (hs : cw_S v f) (x1 : Int32) (p0 : -1000000 ≤ x1.toInt ∧ x1.toInt ≤ 1000000) : pm_Mt l g 27 0 0 0 [.ref (q 1), .int x1] (cw A0 g K nn dn q w e v f) (md_Qp (cw A0 g K nn dn q w e v f) (fun r => (r = 1 ∧ ((w nn).toInt + x1.toInt ≤ 160 ∧ (w 1).toInt + x1.toInt ≤ 10000)) ∨ (r = 0 ∧ (¬ ((w nn).toInt + x1.toInt ≤ 160 ∧ (w 1).toInt + x1.toInt ≤ 10000))))) := by
  refine mt_X9_hasRoomFor rfl (fun J hC => ?_)
  have hu1 := hI.2.1
  unfold cw_W at hu1
  have ro_nn : cw_ro K nn := hI.2.1.2.1
  have ro_dn : cw_ro K dn := hI.2.1.2.2.1
  have rg_x1 := pm_rng x1
  refine hC.1 0 0 _ _ rfl _ _ _ _ _ ?_
  refine Exists.intro _ (And.intro (cw_o1 hI.1) ?_)
  refine Exists.intro _ (And.intro (cw_ro_o hI.1 ro_nn) ?_)
  have z2 := cw_sz hI ro_nn
  intro m3 em_8
  try have e3 : m3.toInt = ((w nn)).toInt + (x1).toInt := by rw [em_8]; exact pm_add _ _ (by omega) (by omega)
  have k160 : (160 : Int32).toInt = 160 := rfl
  refine And.intro (fun c4 => ?_) (fun c4 => ?_)
  · skip
    refine hC.1 1 31 _ _ rfl _ _ _ _ _ ?_
    have k0 : (0 : Int32).toInt = 0 := rfl
    refine hC.1 2 32 _ _ rfl _ _ _ _ _ ?_
    exact ⟨rfl, fun _ => (by decide), rfl, (0 : Int32), rfl, rfl, Or.inr ⟨rfl, by first | trivial | omega | (dsimp only; omega)⟩⟩
  · skip
    refine Exists.intro _ (And.intro (cw_o1 hI.1) ?_)
    intro m5 em_20
    try have e5 : m5.toInt = ((w 1)).toInt + (x1).toInt := by rw [em_20]; exact pm_add _ _ (by omega) (by omega)
    have k10000 : (10000 : Int32).toInt = 10000 := rfl
    refine And.intro (fun c6 => ?_) (fun c6 => ?_)
    · skip
      refine hC.1 1 31 _ _ rfl _ _ _ _ _ ?_
      have k0 : (0 : Int32).toInt = 0 := rfl
      refine hC.1 2 32 _ _ rfl _ _ _ _ _ ?_
      exact ⟨rfl, fun _ => (by decide), rfl, (0 : Int32), rfl, rfl, Or.inr ⟨rfl, by first | trivial | omega | (dsimp only; omega)⟩⟩
    · skip
      have k1 : (1 : Int32).toInt = 1 := rfl
      refine hC.1 2 32 _ _ rfl _ _ _ _ _ ?_
      exact ⟨rfl, fun _ => (by decide), rfl, (1 : Int32), rfl, rfl, Or.inl ⟨rfl, by first | trivial | omega | (dsimp only; omega)⟩⟩

set_option maxRecDepth 100000 in
set_option maxHeartbeats 2000000 in
theorem c_X9_steadySince (hI : cw_I K nn dn q w e) (hs : cw_S v f) (x1 : Int32)  : pm_Mt l g 153 3 0 0 [.ref (q 1), .int x1] (cw A0 g K nn dn q w e v f) (md_Qp (cw A0 g K nn dn q w e v f) (fun r => True)) := by
  refine mt_X9_steadySince rfl (fun J hC => ?_)
  have hu1 := hI.2.1
  unfold cw_W at hu1
  have ro_nn : cw_ro K nn := hI.2.1.2.1
  have ro_dn : cw_ro K dn := hI.2.1.2.2.1
  have rg_x1 := pm_rng x1
  refine hC.1 0 0 _ _ rfl _ _ _ _ _ ?_
  refine Exists.intro _ (And.intro (cw_o1 hI.1) ?_)
  refine And.intro (Exists.intro _ (cw_ro_o hI.1 ro_nn)) (Exists.intro _ (Exists.intro _ (Exists.intro _ (Exists.intro _ (And.intro (c_X7_placeOf hI hs ro_nn x1 ) (And.intro rfl (fun r9 A9 h9 => ?_)))))))
  obtain ⟨y2, rfl, rfl, by2⟩ := h9
  have km1 : (-1 : Int32).toInt = -1 := rfl
  refine And.intro (fun c4 => ?_) (fun c4 => ?_)
  · skip
    have dc4 := pm_neI c4
    refine hC.1 1 16 _ _ rfl _ _ _ _ _ ?_
    refine Exists.intro _ (And.intro (cw_o1 hI.1) ?_)
    refine And.intro (Exists.intro _ (cw_ro_o hI.1 ro_nn)) (Exists.intro _ (Exists.intro _ (Exists.intro _ (Exists.intro _ (And.intro (c_X7_bondAt hI hs ro_nn y2 ) (And.intro rfl (fun r9 A9 h9 => ?_)))))))
    obtain ⟨y5, rfl, rfl, by5⟩ := h9
    refine Exists.intro _ (And.intro (cw_o1 hI.1) ?_)
    have k1 : (1 : Int32).toInt = 1 := rfl
    intro m7 em_30
    try have e7 : m7.toInt = ((w 0)).toInt - (1) := by rw [em_30]; exact pm_subc _ _ (1) rfl (by omega) (by omega)
    have lp9 : ∀ (n : Nat) (z4_33 : Int32), (-1 ≤ z4_33.toInt ∧ z4_33.toInt ≤ (w 0).toInt) → z4_33.toInt + 1 < (n : Int) → J 33 [some (.ref (q 1)), some (.int x1), some (.int y2), some (.int y5), some (.int z4_33), none] [] (cw A0 g K nn dn q w e v f) 0 0 := by
      intro n
      induction n with
      | zero =>
        intro z4_33 j0_33 j1_33
        omega
      | succ n ih10 =>
        intro z4_33 j0_33 j1_33
        refine hC.1 2 33 _ _ rfl _ _ _ _ _ ?_
        refine And.intro (fun c11 => ?_) (fun c11 => ?_)
        · skip
          refine hC.1 5 86 _ _ rfl _ _ _ _ _ ?_
          have k0 : (0 : Int32).toInt = 0 := rfl
          exact ⟨rfl, fun e9 => absurd e9 (by decide), rfl, (0 : Int32), rfl, rfl, by first | trivial | omega | (dsimp only; omega)⟩
        · skip
          refine And.intro (Exists.intro _ (cw_o1 hI.1)) (Exists.intro _ (Exists.intro _ (Exists.intro _ (Exists.intro _ (And.intro (c_X9_behind hI hs z4_33 ) (And.intro rfl (fun r9 A9 h9 => ?_)))))))
          rcases h9 with ⟨rfl, rfl | ⟨o13, rfl, ho13⟩⟩
          · skip
            refine hC.1 3 75 _ _ rfl _ _ _ _ _ ?_
            intro m14 em_78
            try have e14 : m14.toInt = (z4_33).toInt + (1) := by rw [em_78]; exact pm_addc _ _ (1) rfl (by omega) (by omega)
            exact ⟨rfl, fun e9 => absurd e9 (by decide), rfl, m14, rfl, rfl, by first | trivial | omega | (dsimp only; omega)⟩
          · skip
            refine And.intro (Exists.intro _ (cw_ro_o hI.1 ho13)) (Exists.intro _ (Exists.intro _ (Exists.intro _ (Exists.intro _ (And.intro (c_X7_hasName hI hs ho13 x1 ) (And.intro rfl (fun r9 A9 h9 => ?_)))))))
            rcases h9 with ⟨y15, rfl, rfl, ⟨rfl, by15⟩ | ⟨rfl, by15⟩⟩
            · skip
              refine And.intro (fun c9 => absurd c9 (by decide)) (fun _ => ?_)
              refine And.intro (Exists.intro _ (cw_ro_o hI.1 ho13)) (Exists.intro _ (Exists.intro _ (Exists.intro _ (Exists.intro _ (And.intro (c_X7_placeOf hI hs ho13 x1 ) (And.intro rfl (fun r9 A9 h9 => ?_)))))))
              obtain ⟨y17, rfl, rfl, by17⟩ := h9
              refine And.intro (Exists.intro _ (cw_ro_o hI.1 ho13)) (Exists.intro _ (Exists.intro _ (Exists.intro _ (Exists.intro _ (And.intro (c_X7_bondAt hI hs ho13 y17 ) (And.intro rfl (fun r9 A9 h9 => ?_)))))))
              obtain ⟨y19, rfl, rfl, by19⟩ := h9
              refine And.intro (fun c21 => ?_) (fun c21 => ?_)
              · skip
                have dc21 : (y19).toInt = (y5 : Int32).toInt := congrArg Int32.toInt c21
                refine hC.1 4 80 _ _ rfl _ _ _ _ _ ?_
                intro m22 em_80
                try have e22 : m22.toInt = (z4_33).toInt + (-1) := by rw [em_80]; exact pm_addc _ _ (-1) rfl (by omega) (by omega)
                exact hC.2 [false, false, false, false, false, true] _ _ _ _ _ _ (ih10 m22 (by omega) (by omega))
              · skip
                have dc21 := pm_neI c21
                refine hC.1 3 75 _ _ rfl _ _ _ _ _ ?_
                intro m23 em_78
                try have e23 : m23.toInt = (z4_33).toInt + (1) := by rw [em_78]; exact pm_addc _ _ (1) rfl (by omega) (by omega)
                exact ⟨rfl, fun e9 => absurd e9 (by decide), rfl, m23, rfl, rfl, by first | trivial | omega | (dsimp only; omega)⟩
            · skip
              have k0 : (0 : Int32).toInt = 0 := rfl
              refine And.intro (fun _ => ?_) (fun c9 => absurd c9 (by decide))
              refine hC.1 3 75 _ _ rfl _ _ _ _ _ ?_
              intro m24 em_78
              try have e24 : m24.toInt = (z4_33).toInt + (1) := by rw [em_78]; exact pm_addc _ _ (1) rfl (by omega) (by omega)
              exact ⟨rfl, fun e9 => absurd e9 (by decide), rfl, m24, rfl, rfl, by first | trivial | omega | (dsimp only; omega)⟩
    exact lp9 (m7.toInt + 1).toNat.succ m7 (by omega) (by omega)
  · skip
    have dc4 : (y2).toInt = ((-1 : Int32) : Int32).toInt := congrArg Int32.toInt c4
    exact ⟨rfl, fun e9 => absurd e9 (by decide), rfl, (-1 : Int32), rfl, rfl, by first | trivial | omega | (dsimp only; omega)⟩

set_option maxRecDepth 100000 in
set_option maxHeartbeats 2000000 in
theorem c_X9_isUnlike (hI : cw_I K nn dn q w e) (hs : cw_S v f) {o1 : Nat} (ho1 : cw_ro K o1) (x2 : Int32) (x3 : Int32) (x4 : Int32)  : pm_Mt l g 157 4 0 0 [.ref (q 1), .ref (q o1), .int x2, .int x3, .int x4] (cw A0 g K nn dn q w e v f) (md_Qp (cw A0 g K nn dn q w e v f) (fun r => (r = 1 ∧ (True)) ∨ (r = 0 ∧ (True)))) := by
  refine mt_X9_isUnlike rfl (fun J hC => ?_)
  have hu1 := hI.2.1
  unfold cw_W at hu1
  have ro_nn : cw_ro K nn := hI.2.1.2.1
  have ro_dn : cw_ro K dn := hI.2.1.2.2.1
  have rg_x2 := pm_rng x2
  have rg_x3 := pm_rng x3
  have rg_x4 := pm_rng x4
  refine hC.1 0 0 _ _ rfl _ _ _ _ _ ?_
  refine pm_swc 3 rfl (by decide) ?_ ?_
  · intro _
    refine hC.1 8 65 _ _ rfl _ _ _ _ _ ?_
    refine And.intro (Exists.intro _ (cw_ro_o hI.1 ho1)) (Exists.intro _ (Exists.intro _ (Exists.intro _ (Exists.intro _ (And.intro (c_X7_bondAt hI hs ho1 x2 ) (And.intro rfl (fun r9 A9 h9 => ?_)))))))
    obtain ⟨y4, rfl, rfl, by4⟩ := h9
    refine Exists.intro _ (And.intro (cw_o1 hI.1) ?_)
    refine And.intro (Exists.intro _ (cw_ro_o hI.1 ro_nn)) (Exists.intro _ (Exists.intro _ (Exists.intro _ (Exists.intro _ (And.intro (c_X7_bondAt hI hs ro_nn x3 ) (And.intro rfl (fun r9 A9 h9 => ?_)))))))
    obtain ⟨y6, rfl, rfl, by6⟩ := h9
    refine And.intro (fun c8 => ?_) (fun c8 => ?_)
    · skip
      have dc8 : (y4).toInt = (y6 : Int32).toInt := congrArg Int32.toInt c8
      refine hC.1 9 85 _ _ rfl _ _ _ _ _ ?_
      have k0 : (0 : Int32).toInt = 0 := rfl
      refine hC.1 10 86 _ _ rfl _ _ _ _ _ ?_
      exact ⟨rfl, fun _ => (by decide), rfl, (0 : Int32), rfl, rfl, Or.inr ⟨rfl, by first | trivial | omega | (dsimp only; omega)⟩⟩
    · skip
      have dc8 := pm_neI c8
      have k1 : (1 : Int32).toInt = 1 := rfl
      refine hC.1 10 86 _ _ rfl _ _ _ _ _ ?_
      exact ⟨rfl, fun _ => (by decide), rfl, (1 : Int32), rfl, rfl, Or.inl ⟨rfl, by first | trivial | omega | (dsimp only; omega)⟩⟩
  · intro i9 hi9 he9
    rcases (show i9 = 0 ∨ i9 = 1 ∨ i9 = 2 by omega) with rfl | rfl | rfl
    · skip
      refine hC.1 1 28 _ _ rfl _ _ _ _ _ ?_
      have k1 : (1 : Int32).toInt = 1 := rfl
      exact ⟨rfl, fun _ => (by decide), rfl, (1 : Int32), rfl, rfl, Or.inl ⟨rfl, by first | trivial | omega | (dsimp only; omega)⟩⟩
    · skip
      refine hC.1 2 30 _ _ rfl _ _ _ _ _ ?_
      refine And.intro (fun c9 => ?_) (fun c9 => ?_)
      · skip
        have dc9 : (x2).toInt = (x3 : Int32).toInt := congrArg Int32.toInt c9
        refine hC.1 3 39 _ _ rfl _ _ _ _ _ ?_
        have k0 : (0 : Int32).toInt = 0 := rfl
        refine hC.1 4 40 _ _ rfl _ _ _ _ _ ?_
        exact ⟨rfl, fun _ => (by decide), rfl, (0 : Int32), rfl, rfl, Or.inr ⟨rfl, by first | trivial | omega | (dsimp only; omega)⟩⟩
      · skip
        have dc9 := pm_neI c9
        have k1 : (1 : Int32).toInt = 1 := rfl
        refine hC.1 4 40 _ _ rfl _ _ _ _ _ ?_
        exact ⟨rfl, fun _ => (by decide), rfl, (1 : Int32), rfl, rfl, Or.inl ⟨rfl, by first | trivial | omega | (dsimp only; omega)⟩⟩
    · skip
      refine hC.1 5 41 _ _ rfl _ _ _ _ _ ?_
      have k0 : (0 : Int32).toInt = 0 := rfl
      refine And.intro (Exists.intro _ (cw_ro_o hI.1 ho1)) (Exists.intro _ (Exists.intro _ (Exists.intro _ (Exists.intro _ (And.intro (c_X7_tell hI hs ho1 x2 (0 : Int32) ) (And.intro rfl (fun r9 A9 h9 => ?_)))))))
      obtain ⟨y10, rfl, rfl, by10⟩ := h9
      refine Exists.intro _ (And.intro (cw_o1 hI.1) ?_)
      refine And.intro (Exists.intro _ (cw_ro_o hI.1 ro_nn)) (Exists.intro _ (Exists.intro _ (Exists.intro _ (Exists.intro _ (And.intro (c_X7_tell hI hs ro_nn x3 (0 : Int32) ) (And.intro rfl (fun r9 A9 h9 => ?_)))))))
      obtain ⟨y12, rfl, rfl, by12⟩ := h9
      refine And.intro (fun c14 => ?_) (fun c14 => ?_)
      · skip
        have dc14 : (y10).toInt = (y12 : Int32).toInt := congrArg Int32.toInt c14
        refine hC.1 6 63 _ _ rfl _ _ _ _ _ ?_
        refine hC.1 7 64 _ _ rfl _ _ _ _ _ ?_
        exact ⟨rfl, fun _ => (by decide), rfl, (0 : Int32), rfl, rfl, Or.inr ⟨rfl, by first | trivial | omega | (dsimp only; omega)⟩⟩
      · skip
        have dc14 := pm_neI c14
        have k1 : (1 : Int32).toInt = 1 := rfl
        refine hC.1 7 64 _ _ rfl _ _ _ _ _ ?_
        exact ⟨rfl, fun _ => (by decide), rfl, (1 : Int32), rfl, rfl, Or.inl ⟨rfl, by first | trivial | omega | (dsimp only; omega)⟩⟩

end
