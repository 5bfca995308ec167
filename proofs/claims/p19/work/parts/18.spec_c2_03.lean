section
section
variable {l : Launch} {g : pm_G} {A0 : pm_H} {K nn dn : Nat} {q : Nat → Nat} {w : Nat → Int32} {e : Nat → Nat → Int32} {v : Nat → Int32} {f : Nat → Nat → Int32}
set_option maxRecDepth 100000 in
set_option maxHeartbeats 2000000 in
theorem c_X6_findLongestUnlike (hI : cw_I K nn dn q w e) (hs : cw_S v f) {o1 : Nat} (ho1 : cw_ro K o1)  : pm_Mt l g 116 1 0 0 [.ref (q 5), .ref (q o1)] (cw A0 g K nn dn q w e v f) (cw_Qs A0 g K nn dn q w e (fun r v2 f2 => r = none ∧ (True))) := by
  refine mt_X6_findLongestUnlike rfl (fun J hC => ?_)
  have ro_nn : cw_ro K nn := hI.2.1.2.1
  have ro_dn : cw_ro K dn := hI.2.1.2.2.1
  have hu1 := hI.2.1
  unfold cw_W at hu1
  have zz0 := cw_sz hI ho1
  refine hC.1 0 0 _ _ rfl _ _ _ _ _ ?_
  refine And.intro (Exists.intro _ (cw_o5 hI.1)) (Exists.intro _ (Exists.intro _ (Exists.intro _ (Exists.intro _ (And.intro (c_X6_clearFound hI hs  ) (And.intro rfl (fun r9 A9 h9 => ?_)))))))
  rcases h9 with ⟨v3, f3, rfl, hs3, rfl, by2⟩
  have k0 : (0 : Int32).toInt = 0 := rfl
  have lp5 : ∀ (n : Nat) (z2_8 : Int32) (z3_8 : Int32) (v4 : Nat → Int32) (f4 : Nat → Nat → Int32), cw_S v4 f4 → (0 ≤ z3_8.toInt ∧ z3_8.toInt ≤ 160) → 200 - z3_8.toInt < (n : Int) → J 8 [some (.ref (q 5)), some (.ref (q o1)), some (.int z2_8), some (.int z3_8)] [] (cw A0 g K nn dn q w e v4 f4) 0 0 := by
    intro n
    induction n with
    | zero =>
      intro z2_8 z3_8 v4 f4 hs4 j0_8 j1_8
      omega
    | succ n ih6 =>
      intro z2_8 z3_8 v4 f4 hs4 j0_8 j1_8
      refine hC.1 1 8 _ _ rfl _ _ _ _ _ ?_
      refine Exists.intro _ (And.intro (cw_ro_o hI.1 ho1) ?_)
      have z7 := cw_sz hI ho1
      refine And.intro (fun c8 => ?_) (fun c8 => ?_)
      · skip
        refine hC.1 2 41 _ _ rfl _ _ _ _ _ ?_
        exact ⟨rfl, rfl, v4, f4, rfl, hs4, rfl, by exact True.intro⟩
      · skip
        refine Exists.intro _ (And.intro (cw_ro_o hI.1 ho1) ?_)
        refine Exists.intro _ (Exists.intro _ (And.intro (Or.inl (cw_ro_3 hI.1 ho1)) (And.intro (by omega) ?_)))
        have w9 := cw_ahd hI ho1 (z3_8).toInt.toNat
        have k1 : (1 : Int32).toInt = 1 := rfl
        intro m10 em_24
        try have e10 : m10.toInt = ((e (o1 + 3) (z3_8).toInt.toNat)).toInt + (1) := by rw [em_24]; exact pm_addc _ _ (1) rfl (by omega) (by omega)
        refine Exists.intro _ (Exists.intro _ (Exists.intro _ (Exists.intro _ (And.intro (c_J9_max_7cf53 (cw A0 g K nn dn q w e v4 f4) z2_8 m10 ) (And.intro rfl (fun r9 A9 h9 => ?_))))))
        obtain ⟨y11, rfl, rfl, by11⟩ := h9
        refine And.intro (Exists.intro _ (cw_o5 hI.1)) (Exists.intro _ (Exists.intro _ (Exists.intro _ (Exists.intro _ (And.intro (c_X6_offerLonger hI hs4 y11 z3_8 ) (And.intro rfl (fun r9 A9 h9 => ?_)))))))
        rcases h9 with ⟨v14, f14, rfl, hs14, rfl, by13⟩
        intro m15 em_35
        try have e15 : m15.toInt = (z3_8).toInt + (1) := by rw [em_35]; exact pm_addc _ _ (1) rfl (by omega) (by omega)
        exact ih6 y11 m15 v14 f14 hs14 (by omega) (by omega)
  exact lp5 (200 - (0 : Int32).toInt).toNat.succ (0 : Int32) (0 : Int32) v3 f3 hs3 (by omega) (by omega)

set_option maxRecDepth 100000 in
set_option maxHeartbeats 2000000 in
theorem c_X6_findHeaviest (hI : cw_I K nn dn q w e) (hs : cw_S v f) {o1 : Nat} (ho1 : cw_ro K o1) (x3 : Int32) (p0 : 1 ≤ x3.toInt ∧ x3.toInt ≤ (w o1).toInt) : pm_Mt l g 118 3 0 0 [.ref (q 5), .ref (q o1), .ref (q 2), .int x3] (cw A0 g K nn dn q w e v f) (cw_Qs A0 g K nn dn q w e (fun r v2 f2 => r = none ∧ (True))) := by
  refine mt_X6_findHeaviest rfl (fun J hC => ?_)
  have ro_nn : cw_ro K nn := hI.2.1.2.1
  have ro_dn : cw_ro K dn := hI.2.1.2.2.1
  have hu1 := hI.2.1
  unfold cw_W at hu1
  have rg_x3 := pm_rng x3
  have zz0 := cw_sz hI ho1
  refine hC.1 0 0 _ _ rfl _ _ _ _ _ ?_
  have k0 : (0 : Int32).toInt = 0 := rfl
  have k1 : (1 : Int32).toInt = 1 := rfl
  intro m2 em_5
  try have e2 : m2.toInt = (x3).toInt - (1) := by rw [em_5]; exact pm_subc _ _ (1) rfl (by omega) (by omega)
  refine And.intro (Exists.intro _ (cw_o2 hI.1)) (Exists.intro _ (Exists.intro _ (Exists.intro _ (Exists.intro _ (And.intro (c_X2_read hI hs ho1 (0 : Int32) m2 ) (And.intro rfl (fun r9 A9 h9 => ?_)))))))
  rcases h9 with ⟨v4, f4, rfl, hs4, rfl, by3⟩
  refine Exists.intro _ (And.intro (cw_o5 hI.1) (And.intro rfl ?_))
  rw [cw_p_first hI.1]
  obtain ⟨v5, ev5⟩ : ∃ z9, z9 = upd v4 7 (0 : Int32) := ⟨_, rfl⟩
  rw [← ev5]
  have hs5 : cw_S v5 f4 := by rw [ev5]; exact cw_S_v hs4 7 _ (by decide)
  have ev5_0 : (v5 0).toInt = (v4 0).toInt := by rw [ev5]; rfl
  refine Exists.intro _ (And.intro (cw_o2 hI.1) ?_)
  refine Exists.intro _ (And.intro (cw_o5 hI.1) (And.intro rfl ?_))
  rw [cw_p_massFound hI.1]
  obtain ⟨v6, ev6⟩ : ∃ z9, z9 = upd v5 9 (v5 4) := ⟨_, rfl⟩
  rw [← ev6]
  have hs6 : cw_S v6 f4 := by rw [ev6]; exact cw_S_v hs5 9 _ (by decide)
  have ev6_0 : (v6 0).toInt = (v5 0).toInt := by rw [ev6]; rfl
  have lp8 : ∀ (n : Nat) (z4_25 : Int32) (v7 : Nat → Int32) (f7 : Nat → Nat → Int32), cw_S v7 f7 → (1 ≤ z4_25.toInt ∧ z4_25.toInt ≤ 161) → 200 - z4_25.toInt < (n : Int) → J 25 [some (.ref (q 5)), some (.ref (q o1)), some (.ref (q 2)), some (.int x3), some (.int z4_25)] [] (cw A0 g K nn dn q w e v7 f7) 0 0 := by
    intro n
    induction n with
    | zero =>
      intro z4_25 v7 f7 hs7 j0_25 j1_25
      omega
    | succ n ih9 =>
      intro z4_25 v7 f7 hs7 j0_25 j1_25
      refine hC.1 1 25 _ _ rfl _ _ _ _ _ ?_
      intro m10 em_28
      try have e10 : m10.toInt = (z4_25).toInt + (x3).toInt := by rw [em_28]; exact pm_add _ _ (by omega) (by omega)
      refine Exists.intro _ (And.intro (cw_ro_o hI.1 ho1) ?_)
      have z11 := cw_sz hI ho1
      refine And.intro (fun c12 => ?_) (fun c12 => ?_)
      · skip
        refine hC.1 3 95 _ _ rfl _ _ _ _ _ ?_
        exact ⟨rfl, rfl, v7, f7, rfl, hs7, rfl, by exact True.intro⟩
      · skip
        refine Exists.intro _ (And.intro (cw_ro_o hI.1 ho1) ?_)
        intro m13 em_44
        try have e13 : m13.toInt = (z4_25).toInt - (1) := by rw [em_44]; exact pm_subc _ _ (1) rfl (by omega) (by omega)
        refine Exists.intro _ (Exists.intro _ (And.intro (Or.inl (cw_ro_1 hI.1 ho1)) (And.intro (by omega) ?_)))
        have w14 := cw_col hI ho1 (m13).toInt.toNat
        refine And.intro (Exists.intro _ (cw_o2 hI.1)) (Exists.intro _ (Exists.intro _ (Exists.intro _ (Exists.intro _ (And.intro (c_X2_drop hI hs7 (e (o1 + 1) (m13).toInt.toNat) (by omega)) (And.intro rfl (fun r9 A9 h9 => ?_)))))))
        rcases h9 with ⟨v16, f16, rfl, hs16, rfl, by15⟩
        refine Exists.intro _ (And.intro (cw_ro_o hI.1 ho1) ?_)
        intro m17 em_57
        try have e17 : m17.toInt = (z4_25).toInt + (x3).toInt := by rw [em_57]; exact pm_add _ _ (by omega) (by omega)
        intro m18 em_59
        try have e18 : m18.toInt = (m17).toInt - (1) := by rw [em_59]; exact pm_subc _ _ (1) rfl (by omega) (by omega)
        refine Exists.intro _ (Exists.intro _ (And.intro (Or.inl (cw_ro_1 hI.1 ho1)) (And.intro (by omega) ?_)))
        have w19 := cw_col hI ho1 (m18).toInt.toNat
        refine And.intro (Exists.intro _ (cw_o2 hI.1)) (Exists.intro _ (Exists.intro _ (Exists.intro _ (Exists.intro _ (And.intro (c_X2_take hI hs16 (e (o1 + 1) (m18).toInt.toNat) (by omega)) (And.intro rfl (fun r9 A9 h9 => ?_)))))))
        rcases h9 with ⟨v21, f21, rfl, hs21, rfl, by20⟩
        refine Exists.intro _ (And.intro (cw_o2 hI.1) ?_)
        refine Exists.intro _ (And.intro (cw_o5 hI.1) ?_)
        refine And.intro (fun c22 => ?_) (fun c22 => ?_)
        · skip
          refine hC.1 2 89 _ _ rfl _ _ _ _ _ ?_
          intro m23 em_89
          try have e23 : m23.toInt = (z4_25).toInt + (1) := by rw [em_89]; exact pm_addc _ _ (1) rfl (by omega) (by omega)
          exact ih9 m23 v21 f21 hs21 (by omega) (by omega)
        · skip
          refine Exists.intro _ (And.intro (cw_o5 hI.1) (And.intro rfl ?_))
          rw [cw_p_first hI.1]
          obtain ⟨v24, ev24⟩ : ∃ z9, z9 = upd v21 7 z4_25 := ⟨_, rfl⟩
          rw [← ev24]
          have hs24 : cw_S v24 f21 := by rw [ev24]; exact cw_S_v hs21 7 _ (by decide)
          have ev24_0 : (v24 0).toInt = (v21 0).toInt := by rw [ev24]; rfl
          refine Exists.intro _ (And.intro (cw_o2 hI.1) ?_)
          refine Exists.intro _ (And.intro (cw_o5 hI.1) (And.intro rfl ?_))
          rw [cw_p_massFound hI.1]
          obtain ⟨v25, ev25⟩ : ∃ z9, z9 = upd v24 9 (v24 4) := ⟨_, rfl⟩
          rw [← ev25]
          have hs25 : cw_S v25 f21 := by rw [ev25]; exact cw_S_v hs24 9 _ (by decide)
          have ev25_0 : (v25 0).toInt = (v24 0).toInt := by rw [ev25]; rfl
          refine hC.1 2 89 _ _ rfl _ _ _ _ _ ?_
          intro m26 em_89
          try have e26 : m26.toInt = (z4_25).toInt + (1) := by rw [em_89]; exact pm_addc _ _ (1) rfl (by omega) (by omega)
          exact ih9 m26 v25 f21 hs25 (by omega) (by omega)
  exact lp8 (200 - (1 : Int32).toInt).toNat.succ (1 : Int32) v6 f4 hs6 (by omega) (by omega)

set_option maxRecDepth 100000 in
set_option maxHeartbeats 2000000 in
theorem c_X8_findNextAlike (hI : cw_I K nn dn q w e) (hs : cw_S v f) {o1 : Nat} (ho1 : cw_ro K o1)  : pm_Mt l g 123 1 0 0 [.ref (q 6), .ref (q o1)] (cw A0 g K nn dn q w e v f) (cw_Qs A0 g K nn dn q w e (fun r v2 f2 => r = none ∧ (True))) := by
  refine mt_X8_findNextAlike rfl (fun J hC => ?_)
  have ro_nn : cw_ro K nn := hI.2.1.2.1
  have ro_dn : cw_ro K dn := hI.2.1.2.2.1
  have hu1 := hI.2.1
  unfold cw_W at hu1
  have zz0 := cw_sz hI ho1
  refine hC.1 0 0 _ _ rfl _ _ _ _ _ ?_
  refine Exists.intro _ (And.intro (cw_o6 hI.1) ?_)
  have k160 : (160 : Int32).toInt = 160 := rfl
  refine Exists.intro _ (Exists.intro _ (Exists.intro _ (Exists.intro _ (And.intro (c_fill (cw_a22 hI.1) (by decide) (160 : Int32)) (And.intro rfl (fun r9 A9 h9 => ?_))))))
  obtain ⟨rfl, rfl⟩ := h9
  rw [cw_s22 hI.1]
  obtain ⟨f2, ef2⟩ : ∃ z9, z9 = va_up f 22 (fun j => if j < 160 then (160 : Int32) else f 22 j) := ⟨_, rfl⟩
  rw [← ef2]
  have hs2 : cw_S v f2 := by rw [ef2]; exact cw_S_fr hs _ _ (by decide) (by decide)
  have k0 : (0 : Int32).toInt = 0 := rfl
  have lp4 : ∀ (n : Nat) (z2_12 : Int32) (v3 : Nat → Int32) (f3 : Nat → Nat → Int32), cw_S v3 f3 → (0 ≤ z2_12.toInt ∧ z2_12.toInt ≤ 160) → 200 - z2_12.toInt < (n : Int) → J 12 [some (.ref (q 6)), some (.ref (q o1)), some (.int z2_12)] [] (cw A0 g K nn dn q w e v3 f3) 0 0 := by
    intro n
    induction n with
    | zero =>
      intro z2_12 v3 f3 hs3 j0_12 j1_12
      omega
    | succ n ih5 =>
      intro z2_12 v3 f3 hs3 j0_12 j1_12
      refine hC.1 1 12 _ _ rfl _ _ _ _ _ ?_
      refine Exists.intro _ (And.intro (cw_ro_o hI.1 ho1) ?_)
      have z6 := cw_sz hI ho1
      refine And.intro (fun c7 => ?_) (fun c7 => ?_)
      · skip
        refine hC.1 3 48 _ _ rfl _ _ _ _ _ ?_
        exact ⟨rfl, rfl, v3, f3, rfl, hs3, rfl, by exact True.intro⟩
      · skip
        refine Exists.intro _ (And.intro (cw_ro_o hI.1 ho1) ?_)
        refine Exists.intro _ (Exists.intro _ (And.intro (Or.inl (cw_ro_3 hI.1 ho1)) (And.intro (by omega) ?_)))
        have w8 := cw_ahd hI ho1 (z2_12).toInt.toNat
        have km1 : (-1 : Int32).toInt = -1 := rfl
        refine And.intro (fun c9 => ?_) (fun c9 => ?_)
        · skip
          have dc9 : ((e (o1 + 3) (z2_12).toInt.toNat)).toInt = ((-1 : Int32) : Int32).toInt := congrArg Int32.toInt c9
          refine hC.1 2 42 _ _ rfl _ _ _ _ _ ?_
          have k1 : (1 : Int32).toInt = 1 := rfl
          intro m10 em_42
          try have e10 : m10.toInt = (z2_12).toInt + (1) := by rw [em_42]; exact pm_addc _ _ (1) rfl (by omega) (by omega)
          exact ih5 m10 v3 f3 hs3 (by omega) (by omega)
        · skip
          have dc9 := pm_neI c9
          refine Exists.intro _ (And.intro (cw_o6 hI.1) ?_)
          refine Exists.intro _ (And.intro (cw_ro_o hI.1 ho1) ?_)
          refine Exists.intro _ (Exists.intro _ (And.intro (Or.inl (cw_ro_3 hI.1 ho1)) (And.intro (by omega) ?_)))
          have w11 := cw_ahd hI ho1 (z2_12).toInt.toNat
          refine Exists.intro _ (Exists.intro _ (And.intro (cw_a22 hI.1) (And.intro (by omega) ?_)))
          rw [cw_s22 hI.1]
          obtain ⟨f12, ef12⟩ : ∃ z9, z9 = va_up f3 22 (upd (f3 22) ((e (o1 + 3) (z2_12).toInt.toNat)).toInt.toNat z2_12) := ⟨_, rfl⟩
          rw [← ef12]
          have hs12 : cw_S v3 f12 := by rw [ef12]; exact cw_S_fr hs3 _ _ (by decide) (by decide)
          refine hC.1 2 42 _ _ rfl _ _ _ _ _ ?_
          have k1 : (1 : Int32).toInt = 1 := rfl
          intro m13 em_42
          try have e13 : m13.toInt = (z2_12).toInt + (1) := by rw [em_42]; exact pm_addc _ _ (1) rfl (by omega) (by omega)
          exact ih5 m13 v3 f12 hs12 (by omega) (by omega)
  exact lp4 (200 - (0 : Int32).toInt).toNat.succ (0 : Int32) v f2 hs2 (by omega) (by omega)

set_option maxRecDepth 100000 in
set_option maxHeartbeats 2000000 in
theorem c_X8_goesRather (hI : cw_I K nn dn q w e) (hs : cw_S v f) (x1 : Int32) (x2 : Int32) (x3 : Int32) (p0 : 0 ≤ x1.toInt ∧ x1.toInt ≤ 23) (p1 : 0 ≤ x2.toInt ∧ x2.toInt ≤ 23) : pm_Mt l g 125 0 0 0 [.ref (q 6), .int x1, .int x2, .int x3] (cw A0 g K nn dn q w e v f) (md_Qp (cw A0 g K nn dn q w e v f) (fun r => (r = 1 ∧ (True)) ∨ (r = 0 ∧ (True)))) := by
  refine mt_X8_goesRather rfl (fun J hC => ?_)
  have ro_nn : cw_ro K nn := hI.2.1.2.1
  have ro_dn : cw_ro K dn := hI.2.1.2.2.1
  have hu1 := hI.2.1
  unfold cw_W at hu1
  have rg_x1 := pm_rng x1
  have rg_x2 := pm_rng x2
  have rg_x3 := pm_rng x3
  refine hC.1 0 0 _ _ rfl _ _ _ _ _ ?_
  refine And.intro (fun c2 => ?_) (fun c2 => ?_)
  · skip
    have dc2 := pm_neI c2
    have k0 : (0 : Int32).toInt = 0 := rfl
    refine hC.1 3 25 _ _ rfl _ _ _ _ _ ?_
    refine Exists.intro _ (And.intro (cw_o6 hI.1) ?_)
    refine Exists.intro _ (Exists.intro _ (And.intro (Or.inl (cw_a24 hI.1)) (And.intro (by omega) ?_)))
    refine Exists.intro _ (And.intro (cw_o6 hI.1) ?_)
    refine Exists.intro _ (Exists.intro _ (And.intro (Or.inl (cw_a24 hI.1)) (And.intro (by omega) ?_)))
    refine And.intro (fun c3 => ?_) (fun c3 => ?_)
    · skip
      refine hC.1 4 44 _ _ rfl _ _ _ _ _ ?_
      refine hC.1 5 45 _ _ rfl _ _ _ _ _ ?_
      exact ⟨rfl, fun _ => (by decide), rfl, (0 : Int32), rfl, rfl, Or.inr ⟨rfl, by first | omega | (dsimp only; omega) | trivial⟩⟩
    · skip
      have k1 : (1 : Int32).toInt = 1 := rfl
      refine hC.1 5 45 _ _ rfl _ _ _ _ _ ?_
      exact ⟨rfl, fun _ => (by decide), rfl, (1 : Int32), rfl, rfl, Or.inl ⟨rfl, by first | omega | (dsimp only; omega) | trivial⟩⟩
  · skip
    have dc2 : (x3).toInt = (0 : Int32).toInt := congrArg Int32.toInt c2
    have k0 : (0 : Int32).toInt = 0 := rfl
    refine Exists.intro _ (And.intro (cw_o6 hI.1) ?_)
    refine Exists.intro _ (Exists.intro _ (And.intro (Or.inl (cw_a23 hI.1)) (And.intro (by omega) ?_)))
    refine Exists.intro _ (And.intro (cw_o6 hI.1) ?_)
    refine Exists.intro _ (Exists.intro _ (And.intro (Or.inl (cw_a23 hI.1)) (And.intro (by omega) ?_)))
    refine And.intro (fun c4 => ?_) (fun c4 => ?_)
    · skip
      refine hC.1 1 23 _ _ rfl _ _ _ _ _ ?_
      refine hC.1 2 24 _ _ rfl _ _ _ _ _ ?_
      exact ⟨rfl, fun _ => (by decide), rfl, (0 : Int32), rfl, rfl, Or.inr ⟨rfl, by first | omega | (dsimp only; omega) | trivial⟩⟩
    · skip
      have k1 : (1 : Int32).toInt = 1 := rfl
      refine hC.1 2 24 _ _ rfl _ _ _ _ _ ?_
      exact ⟨rfl, fun _ => (by decide), rfl, (1 : Int32), rfl, rfl, Or.inl ⟨rfl, by first | omega | (dsimp only; omega) | trivial⟩⟩

set_option maxRecDepth 100000 in
set_option maxHeartbeats 2000000 in
theorem c_X8_oneToGo (hI : cw_I K nn dn q w e) (hs : cw_S v f) (x1 : Int32)  : pm_Mt l g 124 1 0 0 [.ref (q 6), .int x1] (cw A0 g K nn dn q w e v f) (md_Qp (cw A0 g K nn dn q w e v f) (fun r => 0 ≤ r.toInt ∧ r.toInt ≤ 23)) := by
  refine mt_X8_oneToGo rfl (fun J hC => ?_)
  have ro_nn : cw_ro K nn := hI.2.1.2.1
  have ro_dn : cw_ro K dn := hI.2.1.2.2.1
  have hu1 := hI.2.1
  unfold cw_W at hu1
  have rg_x1 := pm_rng x1
  refine hC.1 0 0 _ _ rfl _ _ _ _ _ ?_
  have km1 : (-1 : Int32).toInt = -1 := rfl
  have k0 : (0 : Int32).toInt = 0 := rfl
  have lp3 : ∀ (n : Nat) (z2_4 : Int32) (z3_4 : Int32), (0 ≤ z3_4.toInt ∧ z3_4.toInt ≤ 24) → (-1 ≤ z2_4.toInt ∧ z2_4.toInt ≤ 23) → 200 - z3_4.toInt < (n : Int) → J 4 [some (.ref (q 6)), some (.int x1), some (.int z2_4), some (.int z3_4)] [] (cw A0 g K nn dn q w e v f) 0 0 := by
    intro n
    induction n with
    | zero =>
      intro z2_4 z3_4 j0_4 j1_4 j2_4
      omega
    | succ n ih4 =>
      intro z2_4 z3_4 j0_4 j1_4 j2_4
      refine hC.1 1 4 _ _ rfl _ _ _ _ _ ?_
      have k24 : (24 : Int32).toInt = 24 := rfl
      refine And.intro (fun c5 => ?_) (fun c5 => ?_)
      · skip
        refine hC.1 4 44 _ _ rfl _ _ _ _ _ ?_
        refine Exists.intro _ (Exists.intro _ (Exists.intro _ (Exists.intro _ (And.intro (c_J9_max_7cf53 (cw A0 g K nn dn q w e v f) z2_4 (0 : Int32) ) (And.intro rfl (fun r9 A9 h9 => ?_))))))
        obtain ⟨y6, rfl, rfl, by6⟩ := h9
        exact ⟨rfl, fun e9 => absurd e9 (by decide), rfl, y6, rfl, rfl, by first | omega | (dsimp only; omega) | trivial⟩
      · skip
        refine Exists.intro _ (And.intro (cw_o6 hI.1) ?_)
        have k1 : (1 : Int32).toInt = 1 := rfl
        refine And.intro (fun c8 => ?_) (fun c8 => ?_)
        · skip
          have dc8 : (((v 12) &&& ((1 : Int32) <<< (z3_4 &&& 31)))).toInt = (0 : Int32).toInt := congrArg Int32.toInt c8
          refine hC.1 3 38 _ _ rfl _ _ _ _ _ ?_
          intro m9 em_38
          try have e9 : m9.toInt = (z3_4).toInt + (1) := by rw [em_38]; exact pm_addc _ _ (1) rfl (by omega) (by omega)
          exact ih4 z2_4 m9 (by omega) (by omega) (by omega)
        · skip
          have dc8 := pm_neI c8
          refine And.intro (fun c10 => ?_) (fun c10 => ?_)
          · skip
            have dc10 : (z2_4).toInt = ((-1 : Int32) : Int32).toInt := congrArg Int32.toInt c10
            refine hC.1 2 36 _ _ rfl _ _ _ _ _ ?_
            refine hC.1 3 38 _ _ rfl _ _ _ _ _ ?_
            intro m11 em_38
            try have e11 : m11.toInt = (z3_4).toInt + (1) := by rw [em_38]; exact pm_addc _ _ (1) rfl (by omega) (by omega)
            exact ih4 z3_4 m11 (by omega) (by omega) (by omega)
          · skip
            have dc10 := pm_neI c10
            refine And.intro (Exists.intro _ (cw_o6 hI.1)) (Exists.intro _ (Exists.intro _ (Exists.intro _ (Exists.intro _ (And.intro (c_X8_goesRather hI hs z3_4 z2_4 x1 (by omega) (by omega)) (And.intro rfl (fun r9 A9 h9 => ?_)))))))
            rcases h9 with ⟨y12, rfl, rfl, ⟨rfl, by12⟩ | ⟨rfl, by12⟩⟩
            · skip
              refine And.intro (fun c9 => absurd c9 (by decide)) (fun _ => ?_)
              refine hC.1 2 36 _ _ rfl _ _ _ _ _ ?_
              refine hC.1 3 38 _ _ rfl _ _ _ _ _ ?_
              intro m14 em_38
              try have e14 : m14.toInt = (z3_4).toInt + (1) := by rw [em_38]; exact pm_addc _ _ (1) rfl (by omega) (by omega)
              exact ih4 z3_4 m14 (by omega) (by omega) (by omega)
            · skip
              refine And.intro (fun _ => ?_) (fun c9 => absurd c9 (by decide))
              refine hC.1 3 38 _ _ rfl _ _ _ _ _ ?_
              intro m15 em_38
              try have e15 : m15.toInt = (z3_4).toInt + (1) := by rw [em_38]; exact pm_addc _ _ (1) rfl (by omega) (by omega)
              exact ih4 z2_4 m15 (by omega) (by omega) (by omega)
  exact lp3 (200 - (0 : Int32).toInt).toNat.succ (-1 : Int32) (0 : Int32) (by omega) (by omega) (by omega)

set_option maxRecDepth 100000 in
set_option maxHeartbeats 2000000 in
theorem c_X8_goThrough (hI : cw_I K nn dn q w e) (hs : cw_S v f) {o1 : Nat} (ho1 : cw_ro K o1) (x2 : Int32) (x3 : Int32) (x4 : Int32)  : pm_Mt l g 122 2 0 0 [.ref (q 6), .ref (q o1), .int x2, .int x3, .int x4] (cw A0 g K nn dn q w e v f) (cw_Qs A0 g K nn dn q w e (fun r v2 f2 => r = none ∧ (True))) := by
  refine mt_X8_goThrough rfl (fun J hC => ?_)
  have ro_nn : cw_ro K nn := hI.2.1.2.1
  have ro_dn : cw_ro K dn := hI.2.1.2.2.1
  have hu1 := hI.2.1
  unfold cw_W at hu1
  have rg_x2 := pm_rng x2
  have rg_x3 := pm_rng x3
  have rg_x4 := pm_rng x4
  have zz0 := cw_sz hI ho1
  refine hC.1 0 0 _ _ rfl _ _ _ _ _ ?_
  refine And.intro (Exists.intro _ (cw_o6 hI.1)) (Exists.intro _ (Exists.intro _ (Exists.intro _ (Exists.intro _ (And.intro (c_X8_findNextAlike hI hs ho1 ) (And.intro rfl (fun r9 A9 h9 => ?_)))))))
  rcases h9 with ⟨v3, f3, rfl, hs3, rfl, by2⟩
  have k0 : (0 : Int32).toInt = 0 := rfl
  refine Exists.intro _ (And.intro (cw_o6 hI.1) (And.intro rfl ?_))
  rw [cw_p_missed hI.1]
  obtain ⟨v4, ev4⟩ : ∃ z9, z9 = upd v3 11 (0 : Int32) := ⟨_, rfl⟩
  rw [← ev4]
  have hs4 : cw_S v4 f3 := by rw [ev4]; exact cw_S_v hs3 11 _ (by decide)
  have ev4_0 : (v4 0).toInt = (v3 0).toInt := by rw [ev4]; rfl
  refine Exists.intro _ (And.intro (cw_o6 hI.1) (And.intro rfl ?_))
  rw [cw_p_sbits hI.1]
  obtain ⟨v5, ev5⟩ : ∃ z9, z9 = upd v4 12 (0 : Int32) := ⟨_, rfl⟩
  rw [← ev5]
  have hs5 : cw_S v5 f3 := by rw [ev5]; exact cw_S_v hs4 12 _ (by decide)
  have ev5_0 : (v5 0).toInt = (v4 0).toInt := by rw [ev5]; rfl
  have lp7 : ∀ (n : Nat) (z5_18 : Int32) (v6 : Nat → Int32) (f6 : Nat → Nat → Int32), cw_S v6 f6 → (0 ≤ z5_18.toInt ∧ z5_18.toInt ≤ 160) → 200 - z5_18.toInt < (n : Int) → J 18 [some (.ref (q 6)), some (.ref (q o1)), some (.int x2), some (.int x3), some (.int x4), some (.int z5_18), none] [] (cw A0 g K nn dn q w e v6 f6) 0 0 := by
    intro n
    induction n with
    | zero =>
      intro z5_18 v6 f6 hs6 j0_18 j1_18
      omega
    | succ n ih8 =>
      intro z5_18 v6 f6 hs6 j0_18 j1_18
      refine hC.1 1 18 _ _ rfl _ _ _ _ _ ?_
      refine And.intro (fun c9 => ?_) (fun c9 => ?_)
      · skip
        refine hC.1 4 136 _ _ rfl _ _ _ _ _ ?_
        exact ⟨rfl, rfl, v6, f6, rfl, hs6, rfl, by exact True.intro⟩
      · skip
        refine And.intro (Exists.intro _ (cw_ro_o hI.1 ho1)) (Exists.intro _ (Exists.intro _ (Exists.intro _ (Exists.intro _ (And.intro (c_X7_has hI hs6 ho1 z5_18 ) (And.intro rfl (fun r9 A9 h9 => ?_)))))))
        rcases h9 with ⟨y10, rfl, rfl, ⟨rfl, by10⟩ | ⟨rfl, by10⟩⟩
        · skip
          have k1 : (1 : Int32).toInt = 1 := rfl
          refine And.intro (fun c9 => absurd c9 (by decide)) (fun _ => ?_)
          refine Exists.intro _ (And.intro (cw_ro_o hI.1 ho1) ?_)
          refine Exists.intro _ (Exists.intro _ (And.intro (Or.inl (cw_ro_1 hI.1 ho1)) (And.intro (by omega) ?_)))
          have w12 := cw_col hI ho1 (z5_18).toInt.toNat
          refine Exists.intro _ (And.intro (cw_o6 hI.1) ?_)
          refine And.intro (fun c13 => ?_) (fun c13 => ?_)
          · skip
            have dc13 := pm_neI c13
            refine hC.1 3 107 _ _ rfl _ _ _ _ _ ?_
            refine Exists.intro _ (And.intro (cw_o6 hI.1) ?_)
            refine Exists.intro _ (Exists.intro _ (And.intro (cw_a23 hI.1) (And.intro (by omega) ?_)))
            rw [cw_s23 hI.1]
            obtain ⟨f14, ef14⟩ : ∃ z9, z9 = va_up f6 23 (upd (f6 23) ((e (o1 + 1) (z5_18).toInt.toNat)).toInt.toNat z5_18) := ⟨_, rfl⟩
            rw [← ef14]
            have hs14 : cw_S v6 f14 := by rw [ef14]; exact cw_S_fr hs6 _ _ (by decide) (by decide)
            refine Exists.intro _ (And.intro (cw_o6 hI.1) ?_)
            refine Exists.intro _ (And.intro (cw_o6 hI.1) ?_)
            refine Exists.intro _ (Exists.intro _ (And.intro (Or.inl (cw_a22 hI.1)) (And.intro (by omega) ?_)))
            refine Exists.intro _ (Exists.intro _ (And.intro (cw_a24 hI.1) (And.intro (by omega) ?_)))
            rw [cw_s24 hI.1]
            obtain ⟨f15, ef15⟩ : ∃ z9, z9 = va_up f14 24 (upd (f14 24) ((e (o1 + 1) (z5_18).toInt.toNat)).toInt.toNat (f14 22 (z5_18).toInt.toNat)) := ⟨_, rfl⟩
            rw [← ef15]
            have hs15 : cw_S v6 f15 := by rw [ef15]; exact cw_S_fr hs14 _ _ (by decide) (by decide)
            intro m16 em_130
            try have e16 : m16.toInt = (z5_18).toInt + (1) := by rw [em_130]; exact pm_addc _ _ (1) rfl (by omega) (by omega)
            exact hC.2 [false, false, false, false, false, false, true] _ _ _ _ _ _ (ih8 m16 v6 f15 hs15 (by omega) (by omega))
          · skip
            have dc13 : (((v6 12) &&& ((1 : Int32) <<< ((e (o1 + 1) (z5_18).toInt.toNat) &&& 31)))).toInt = (0 : Int32).toInt := congrArg Int32.toInt c13
            refine Exists.intro _ (And.intro (cw_o6 hI.1) ?_)
            intro m17 em_60
            try have e17 : m17.toInt = ((v6 11)).toInt + (1) := by rw [em_60]; exact pm_addc _ _ (1) rfl (by omega) (by omega)
            refine Exists.intro _ (And.intro (cw_o6 hI.1) (And.intro rfl ?_))
            rw [cw_p_missed hI.1]
            obtain ⟨v18, ev18⟩ : ∃ z9, z9 = upd v6 11 m17 := ⟨_, rfl⟩
            rw [← ev18]
            have hs18 : cw_S v18 f6 := by rw [ev18]; exact cw_S_v hs6 11 _ (by decide)
            have ev18_0 : (v18 0).toInt = (v6 0).toInt := by rw [ev18]; rfl
            refine Exists.intro _ (And.intro (cw_o6 hI.1) ?_)
            refine Exists.intro _ (Exists.intro _ (Exists.intro _ (Exists.intro _ (And.intro (c_J6_bitCount_0f7a4 (cw A0 g K nn dn q w e v18 f6) (v18 12) ) (And.intro rfl (fun r9 A9 h9 => ?_))))))
            obtain ⟨y19, rfl, rfl, by19⟩ := h9
            refine And.intro (fun c21 => ?_) (fun c21 => ?_)
            · skip
              refine hC.1 2 94 _ _ rfl _ _ _ _ _ ?_
              refine Exists.intro _ (And.intro (cw_o6 hI.1) ?_)
              refine Exists.intro _ (And.intro (cw_o6 hI.1) (And.intro rfl ?_))
              rw [cw_p_sbits hI.1]
              obtain ⟨v22, ev22⟩ : ∃ z9, z9 = upd v18 12 ((v18 12) ||| ((1 : Int32) <<< ((e (o1 + 1) (z5_18).toInt.toNat) &&& 31))) := ⟨_, rfl⟩
              rw [← ev22]
              have hs22 : cw_S v22 f6 := by rw [ev22]; exact cw_S_v hs18 12 _ (by decide)
              have ev22_0 : (v22 0).toInt = (v18 0).toInt := by rw [ev22]; rfl
              refine hC.1 3 107 _ _ rfl _ _ _ _ _ ?_
              refine Exists.intro _ (And.intro (cw_o6 hI.1) ?_)
              refine Exists.intro _ (Exists.intro _ (And.intro (cw_a23 hI.1) (And.intro (by omega) ?_)))
              rw [cw_s23 hI.1]
              obtain ⟨f23, ef23⟩ : ∃ z9, z9 = va_up f6 23 (upd (f6 23) ((e (o1 + 1) (z5_18).toInt.toNat)).toInt.toNat z5_18) := ⟨_, rfl⟩
              rw [← ef23]
              have hs23 : cw_S v22 f23 := by rw [ef23]; exact cw_S_fr hs22 _ _ (by decide) (by decide)
              refine Exists.intro _ (And.intro (cw_o6 hI.1) ?_)
              refine Exists.intro _ (And.intro (cw_o6 hI.1) ?_)
              refine Exists.intro _ (Exists.intro _ (And.intro (Or.inl (cw_a22 hI.1)) (And.intro (by omega) ?_)))
              refine Exists.intro _ (Exists.intro _ (And.intro (cw_a24 hI.1) (And.intro (by omega) ?_)))
              rw [cw_s24 hI.1]
              obtain ⟨f24, ef24⟩ : ∃ z9, z9 = va_up f23 24 (upd (f23 24) ((e (o1 + 1) (z5_18).toInt.toNat)).toInt.toNat (f23 22 (z5_18).toInt.toNat)) := ⟨_, rfl⟩
              rw [← ef24]
              have hs24 : cw_S v22 f24 := by rw [ef24]; exact cw_S_fr hs23 _ _ (by decide) (by decide)
              intro m25 em_130
              try have e25 : m25.toInt = (z5_18).toInt + (1) := by rw [em_130]; exact pm_addc _ _ (1) rfl (by omega) (by omega)
              exact hC.2 [false, false, false, false, false, false, true] _ _ _ _ _ _ (ih8 m25 v22 f24 hs24 (by omega) (by omega))
            · skip
              refine Exists.intro _ (And.intro (cw_o6 hI.1) ?_)
              refine And.intro (Exists.intro _ (cw_o6 hI.1)) (Exists.intro _ (Exists.intro _ (Exists.intro _ (Exists.intro _ (And.intro (c_X8_oneToGo hI hs18 x4 ) (And.intro rfl (fun r9 A9 h9 => ?_)))))))
              obtain ⟨y26, rfl, rfl, by26⟩ := h9
              have km1 : (-1 : Int32).toInt = -1 := rfl
              refine Exists.intro _ (And.intro (cw_o6 hI.1) (And.intro rfl ?_))
              rw [cw_p_sbits hI.1]
              obtain ⟨v28, ev28⟩ : ∃ z9, z9 = upd v18 12 ((v18 12) &&& (((1 : Int32) <<< (y26 &&& 31)) ^^^ (-1 : Int32))) := ⟨_, rfl⟩
              rw [← ev28]
              have hs28 : cw_S v28 f6 := by rw [ev28]; exact cw_S_v hs18 12 _ (by decide)
              have ev28_0 : (v28 0).toInt = (v18 0).toInt := by rw [ev28]; rfl
              refine hC.1 2 94 _ _ rfl _ _ _ _ _ ?_
              refine Exists.intro _ (And.intro (cw_o6 hI.1) ?_)
              refine Exists.intro _ (And.intro (cw_o6 hI.1) (And.intro rfl ?_))
              rw [cw_p_sbits hI.1]
              obtain ⟨v29, ev29⟩ : ∃ z9, z9 = upd v28 12 ((v28 12) ||| ((1 : Int32) <<< ((e (o1 + 1) (z5_18).toInt.toNat) &&& 31))) := ⟨_, rfl⟩
              rw [← ev29]
              have hs29 : cw_S v29 f6 := by rw [ev29]; exact cw_S_v hs28 12 _ (by decide)
              have ev29_0 : (v29 0).toInt = (v28 0).toInt := by rw [ev29]; rfl
              refine hC.1 3 107 _ _ rfl _ _ _ _ _ ?_
              refine Exists.intro _ (And.intro (cw_o6 hI.1) ?_)
              refine Exists.intro _ (Exists.intro _ (And.intro (cw_a23 hI.1) (And.intro (by omega) ?_)))
              rw [cw_s23 hI.1]
              obtain ⟨f30, ef30⟩ : ∃ z9, z9 = va_up f6 23 (upd (f6 23) ((e (o1 + 1) (z5_18).toInt.toNat)).toInt.toNat z5_18) := ⟨_, rfl⟩
              rw [← ef30]
              have hs30 : cw_S v29 f30 := by rw [ef30]; exact cw_S_fr hs29 _ _ (by decide) (by decide)
              refine Exists.intro _ (And.intro (cw_o6 hI.1) ?_)
              refine Exists.intro _ (And.intro (cw_o6 hI.1) ?_)
              refine Exists.intro _ (Exists.intro _ (And.intro (Or.inl (cw_a22 hI.1)) (And.intro (by omega) ?_)))
              refine Exists.intro _ (Exists.intro _ (And.intro (cw_a24 hI.1) (And.intro (by omega) ?_)))
              rw [cw_s24 hI.1]
              obtain ⟨f31, ef31⟩ : ∃ z9, z9 = va_up f30 24 (upd (f30 24) ((e (o1 + 1) (z5_18).toInt.toNat)).toInt.toNat (f30 22 (z5_18).toInt.toNat)) := ⟨_, rfl⟩
              rw [← ef31]
              have hs31 : cw_S v29 f31 := by rw [ef31]; exact cw_S_fr hs30 _ _ (by decide) (by decide)
              intro m32 em_130
              try have e32 : m32.toInt = (z5_18).toInt + (1) := by rw [em_130]; exact pm_addc _ _ (1) rfl (by omega) (by omega)
              exact hC.2 [false, false, false, false, false, false, true] _ _ _ _ _ _ (ih8 m32 v29 f31 hs31 (by omega) (by omega))
        · skip
          refine And.intro (fun _ => ?_) (fun c9 => absurd c9 (by decide))
          refine hC.1 4 136 _ _ rfl _ _ _ _ _ ?_
          exact ⟨rfl, rfl, v6, f6, rfl, hs6, rfl, by exact True.intro⟩
  exact lp7 (200 - (0 : Int32).toInt).toNat.succ (0 : Int32) v5 f3 hs5 (by omega) (by omega)

set_option maxRecDepth 100000 in
set_option maxHeartbeats 2000000 in
theorem c_X4_stepWithin (hI : cw_I K nn dn q w e) (hs : cw_S v f) {o0 : Nat} (ho0 : cw_ro K o0) (x1 : Int32) (x2 : Int32) (p0 : 0 ≤ x2.toInt ∧ x2.toInt < 160) : pm_Mt l g 137 0 0 0 [.ref (q o0), .int x1, .int x2] (cw A0 g K nn dn q w e v f) (md_Qp (cw A0 g K nn dn q w e v f) (fun r => True)) := by
  refine mt_X4_stepWithin rfl (fun J hC => ?_)
  have ro_nn : cw_ro K nn := hI.2.1.2.1
  have ro_dn : cw_ro K dn := hI.2.1.2.2.1
  have hu1 := hI.2.1
  unfold cw_W at hu1
  have rg_x1 := pm_rng x1
  have rg_x2 := pm_rng x2
  refine hC.1 0 0 _ _ rfl _ _ _ _ _ ?_
  refine Exists.intro _ (And.intro (cw_ro_o hI.1 ho0) ?_)
  refine Exists.intro _ (Exists.intro _ (And.intro (Or.inl (cw_ro_3 hI.1 ho0)) (And.intro (by omega) ?_)))
  have w2 := cw_ahd hI ho0 (x2).toInt.toNat
  refine And.intro (fun c3 => ?_) (fun c3 => ?_)
  · skip
    refine hC.1 1 21 _ _ rfl _ _ _ _ _ ?_
    have k0 : (0 : Int32).toInt = 0 := rfl
    refine hC.1 2 22 _ _ rfl _ _ _ _ _ ?_
    exact ⟨rfl, fun e9 => absurd e9 (by decide), rfl, (0 : Int32), rfl, rfl, by exact True.intro⟩
  · skip
    refine Exists.intro _ (And.intro (cw_ro_o hI.1 ho0) ?_)
    refine Exists.intro _ (Exists.intro _ (And.intro (Or.inl (cw_ro_3 hI.1 ho0)) (And.intro (by omega) ?_)))
    have w4 := cw_ahd hI ho0 (x2).toInt.toNat
    intro m5 em_17
    try have e5 : m5.toInt = (x2).toInt - ((e (o0 + 3) (x2).toInt.toNat)).toInt := by rw [em_17]; exact pm_sub _ _ (by omega) (by omega)
    refine hC.1 2 22 _ _ rfl _ _ _ _ _ ?_
    exact ⟨rfl, fun e9 => absurd e9 (by decide), rfl, m5, rfl, rfl, by exact True.intro⟩

set_option maxRecDepth 100000 in
set_option maxHeartbeats 2000000 in
theorem c_X4_areMatching (hI : cw_I K nn dn q w e) (hs : cw_S v f) {o0 : Nat} (ho0 : cw_ro K o0) (x1 : Int32) (x2 : Int32) (x3 : Int32) (p0 : 0 ≤ x1.toInt ∧ x1.toInt + x3.toInt ≤ 160) (p1 : 0 ≤ x2.toInt ∧ x2.toInt + x3.toInt ≤ 160) : pm_Mt l g 136 1 0 0 [.ref (q o0), .int x1, .int x2, .int x3] (cw A0 g K nn dn q w e v f) (md_Qp (cw A0 g K nn dn q w e v f) (fun r => (r = 1 ∧ (True)) ∨ (r = 0 ∧ (True)))) := by
  refine mt_X4_areMatching rfl (fun J hC => ?_)
  have ro_nn : cw_ro K nn := hI.2.1.2.1
  have ro_dn : cw_ro K dn := hI.2.1.2.2.1
  have hu1 := hI.2.1
  unfold cw_W at hu1
  have rg_x1 := pm_rng x1
  have rg_x2 := pm_rng x2
  have rg_x3 := pm_rng x3
  refine hC.1 0 0 _ _ rfl _ _ _ _ _ ?_
  have k0 : (0 : Int32).toInt = 0 := rfl
  have lp3 : ∀ (n : Nat) (z4_3 : Int32), (0 ≤ z4_3.toInt ∧ z4_3.toInt ≤ 161) → 200 - z4_3.toInt < (n : Int) → J 3 [some (.ref (q o0)), some (.int x1), some (.int x2), some (.int x3), some (.int z4_3)] [] (cw A0 g K nn dn q w e v f) 0 0 := by
    intro n
    induction n with
    | zero =>
      intro z4_3 j0_3 j1_3
      omega
    | succ n ih4 =>
      intro z4_3 j0_3 j1_3
      refine hC.1 1 3 _ _ rfl _ _ _ _ _ ?_
      refine And.intro (fun c5 => ?_) (fun c5 => ?_)
      · skip
        refine hC.1 3 38 _ _ rfl _ _ _ _ _ ?_
        have k1 : (1 : Int32).toInt = 1 := rfl
        exact ⟨rfl, fun _ => (by decide), rfl, (1 : Int32), rfl, rfl, Or.inl ⟨rfl, by first | omega | (dsimp only; omega) | trivial⟩⟩
      · skip
        intro m6 em_14
        try have e6 : m6.toInt = (x1).toInt + (z4_3).toInt := by rw [em_14]; exact pm_add _ _ (by omega) (by omega)
        refine Exists.intro _ (Exists.intro _ (Exists.intro _ (Exists.intro _ (And.intro (c_X4_stepWithin hI hs ho0 x1 m6 (by omega)) (And.intro rfl (fun r9 A9 h9 => ?_))))))
        obtain ⟨y7, rfl, rfl, by7⟩ := h9
        intro m9 em_23
        try have e9 : m9.toInt = (x2).toInt + (z4_3).toInt := by rw [em_23]; exact pm_add _ _ (by omega) (by omega)
        refine Exists.intro _ (Exists.intro _ (Exists.intro _ (Exists.intro _ (And.intro (c_X4_stepWithin hI hs ho0 x2 m9 (by omega)) (And.intro rfl (fun r9 A9 h9 => ?_))))))
        obtain ⟨y10, rfl, rfl, by10⟩ := h9
        refine And.intro (fun c12 => ?_) (fun c12 => ?_)
        · skip
          have dc12 : (y7).toInt = (y10 : Int32).toInt := congrArg Int32.toInt c12
          refine hC.1 2 32 _ _ rfl _ _ _ _ _ ?_
          have k1 : (1 : Int32).toInt = 1 := rfl
          intro m13 em_32
          try have e13 : m13.toInt = (z4_3).toInt + (1) := by rw [em_32]; exact pm_addc _ _ (1) rfl (by omega) (by omega)
          exact ih4 m13 (by omega) (by omega)
        · skip
          have dc12 := pm_neI c12
          exact ⟨rfl, fun _ => (by decide), rfl, (0 : Int32), rfl, rfl, Or.inr ⟨rfl, by first | omega | (dsimp only; omega) | trivial⟩⟩
  exact lp3 (200 - (0 : Int32).toInt).toNat.succ (0 : Int32) (by omega) (by omega)

end
end
section
section
variable {l : Launch} {g : pm_G} {A0 : pm_H} {K nn dn : Nat} {q : Nat → Nat} {w : Nat → Int32} {e : Nat → Nat → Int32} {v : Nat → Int32} {f : Nat → Nat → Int32}
set_option maxRecDepth 100000 in
set_option maxHeartbeats 2000000 in
theorem c_X4_matching (hI : cw_I K nn dn q w e) (hs : cw_S v f) {o1 : Nat} (ho1 : cw_ro K o1) (x2 : Int32) (x3 : Int32) (x4 : Int32) (p0 : 0 ≤ x2.toInt ∧ x2.toInt ≤ x3.toInt ∧ x3.toInt < (w o1).toInt) : pm_Mt l g 135 2 0 0 [.ref (q 7), .ref (q o1), .int x2, .int x3, .int x4] (cw A0 g K nn dn q w e v f) (md_Qp (cw A0 g K nn dn q w e v f) (fun r => True)) := by
  refine mt_X4_matching rfl (fun J hC => ?_)
  have ro_nn : cw_ro K nn := hI.2.1.2.1
  have ro_dn : cw_ro K dn := hI.2.1.2.2.1
  have hu1 := hI.2.1
  unfold cw_W at hu1
  have rg_x2 := pm_rng x2
  have rg_x3 := pm_rng x3
  have rg_x4 := pm_rng x4
  have zz0 := cw_sz hI ho1
  refine hC.1 0 0 _ _ rfl _ _ _ _ _ ?_
  have k0 : (0 : Int32).toInt = 0 := rfl
  have lp3 : ∀ (n : Nat) (z5_6 : Int32) (z6_6 : Int32), (0 ≤ z6_6.toInt ∧ z6_6.toInt ≤ 160) → 200 - z6_6.toInt < (n : Int) → J 6 [some (.ref (q 7)), some (.ref (q o1)), some (.int x2), some (.int x3), some (.int x4), some (.int z5_6), some (.int z6_6)] [] (cw A0 g K nn dn q w e v f) 0 0 := by
    intro n
    induction n with
    | zero =>
      intro z5_6 z6_6 j0_6 j1_6
      omega
    | succ n ih4 =>
      intro z5_6 z6_6 j0_6 j1_6
      refine hC.1 1 6 _ _ rfl _ _ _ _ _ ?_
      intro m5 em_9
      try have e5 : m5.toInt = (z6_6).toInt + (x3).toInt := by rw [em_9]; exact pm_add _ _ (by omega) (by omega)
      intro m6 em_11
      try have e6 : m6.toInt = (m5).toInt - (x2).toInt := by rw [em_11]; exact pm_sub _ _ (by omega) (by omega)
      refine Exists.intro _ (And.intro (cw_ro_o hI.1 ho1) ?_)
      have z7 := cw_sz hI ho1
      refine And.intro (fun c8 => ?_) (fun c8 => ?_)
      · skip
        refine hC.1 4 53 _ _ rfl _ _ _ _ _ ?_
        have km1 : (-1 : Int32).toInt = -1 := rfl
        refine And.intro (fun c9 => ?_) (fun c9 => ?_)
        · skip
          have dc9 := pm_neI c9
          refine hC.1 5 64 _ _ rfl _ _ _ _ _ ?_
          refine hC.1 6 65 _ _ rfl _ _ _ _ _ ?_
          exact ⟨rfl, fun e9 => absurd e9 (by decide), rfl, (-1 : Int32), rfl, rfl, by exact True.intro⟩
        · skip
          have dc9 : (x4).toInt = ((-1 : Int32) : Int32).toInt := congrArg Int32.toInt c9
          refine hC.1 6 65 _ _ rfl _ _ _ _ _ ?_
          exact ⟨rfl, fun e9 => absurd e9 (by decide), rfl, z5_6, rfl, rfl, by exact True.intro⟩
      · skip
        intro m10 em_25
        try have e10 : m10.toInt = (x3).toInt - (x2).toInt := by rw [em_25]; exact pm_sub _ _ (by omega) (by omega)
        have k1 : (1 : Int32).toInt = 1 := rfl
        intro m11 em_27
        try have e11 : m11.toInt = (m10).toInt + (1) := by rw [em_27]; exact pm_addc _ _ (1) rfl (by omega) (by omega)
        refine Exists.intro _ (Exists.intro _ (Exists.intro _ (Exists.intro _ (And.intro (c_X4_areMatching hI hs ho1 x2 z6_6 m11 (by omega) (by omega)) (And.intro rfl (fun r9 A9 h9 => ?_))))))
        rcases h9 with ⟨y12, rfl, rfl, ⟨rfl, by12⟩ | ⟨rfl, by12⟩⟩
        · skip
          refine And.intro (fun c9 => absurd c9 (by decide)) (fun _ => ?_)
          refine And.intro (fun c14 => ?_) (fun c14 => ?_)
          · skip
            have dc14 := pm_neI c14
            refine hC.1 2 44 _ _ rfl _ _ _ _ _ ?_
            intro m15 em_44
            try have e15 : m15.toInt = (z5_6).toInt + (1) := by rw [em_44]; exact pm_addc _ _ (1) rfl (by omega) (by omega)
            refine hC.1 3 47 _ _ rfl _ _ _ _ _ ?_
            intro m16 em_47
            try have e16 : m16.toInt = (z6_6).toInt + (1) := by rw [em_47]; exact pm_addc _ _ (1) rfl (by omega) (by omega)
            exact ih4 m15 m16 (by omega) (by omega)
          · skip
            have dc14 : (z5_6).toInt = (x4 : Int32).toInt := congrArg Int32.toInt c14
            exact ⟨rfl, fun e9 => absurd e9 (by decide), rfl, z6_6, rfl, rfl, by exact True.intro⟩
        · skip
          refine And.intro (fun _ => ?_) (fun c9 => absurd c9 (by decide))
          refine hC.1 3 47 _ _ rfl _ _ _ _ _ ?_
          intro m17 em_47
          try have e17 : m17.toInt = (z6_6).toInt + (1) := by rw [em_47]; exact pm_addc _ _ (1) rfl (by omega) (by omega)
          exact ih4 z5_6 m17 (by omega) (by omega)
  exact lp3 (200 - (0 : Int32).toInt).toNat.succ (0 : Int32) (0 : Int32) (by omega) (by omega)

set_option maxRecDepth 100000 in
set_option maxHeartbeats 2000000 in
theorem c_X4_findTwinApart (hI : cw_I K nn dn q w e) (hs : cw_S v f) {o1 : Nat} (ho1 : cw_ro K o1) (x2 : Int32) (p0 : 1 ≤ x2.toInt ∧ x2.toInt < 160) : pm_Mt l g 140 1 0 0 [.ref (q 7), .ref (q o1), .int x2] (cw A0 g K nn dn q w e v f) (cw_Qs A0 g K nn dn q w e (fun r v2 f2 => r = none ∧ (True))) := by
  refine mt_X4_findTwinApart rfl (fun J hC => ?_)
  have ro_nn : cw_ro K nn := hI.2.1.2.1
  have ro_dn : cw_ro K dn := hI.2.1.2.2.1
  have hu1 := hI.2.1
  unfold cw_W at hu1
  have rg_x2 := pm_rng x2
  have zz0 := cw_sz hI ho1
  refine hC.1 0 0 _ _ rfl _ _ _ _ _ ?_
  have k0 : (0 : Int32).toInt = 0 := rfl
  have lp3 : ∀ (n : Nat) (z3_5 : Int32) (z4_5 : Int32) (v2 : Nat → Int32) (f2 : Nat → Nat → Int32), cw_S v2 f2 → (0 ≤ z4_5.toInt ∧ z4_5.toInt ≤ 160) → (0 ≤ z3_5.toInt ∧ z3_5.toInt ≤ 160) → 200 - z4_5.toInt < (n : Int) → J 5 [some (.ref (q 7)), some (.ref (q o1)), some (.int x2), some (.int z3_5), some (.int z4_5), none] [] (cw A0 g K nn dn q w e v2 f2) 0 0 := by
    intro n
    induction n with
    | zero =>
      intro z3_5 z4_5 v2 f2 hs2 j0_5 j1_5 j2_5
      omega
    | succ n ih4 =>
      intro z3_5 z4_5 v2 f2 hs2 j0_5 j1_5 j2_5
      refine hC.1 1 5 _ _ rfl _ _ _ _ _ ?_
      intro m5 em_8
      try have e5 : m5.toInt = (z4_5).toInt + (x2).toInt := by rw [em_8]; exact pm_add _ _ (by omega) (by omega)
      refine Exists.intro _ (And.intro (cw_ro_o hI.1 ho1) ?_)
      have z6 := cw_sz hI ho1
      refine And.intro (fun c7 => ?_) (fun c7 => ?_)
      · skip
        refine hC.1 6 111 _ _ rfl _ _ _ _ _ ?_
        exact ⟨rfl, rfl, v2, f2, rfl, hs2, rfl, by exact True.intro⟩
      · skip
        refine Exists.intro _ (Exists.intro _ (Exists.intro _ (Exists.intro _ (And.intro (c_J9_max_7cf53 (cw A0 g K nn dn q w e v2 f2) z3_5 z4_5 ) (And.intro rfl (fun r9 A9 h9 => ?_))))))
        obtain ⟨y8, rfl, rfl, by8⟩ := h9
        have lp11 : ∀ (n : Nat) (z3_23 : Int32), (z4_5.toInt ≤ z3_23.toInt ∧ z3_23.toInt ≤ 160) → 200 - z3_23.toInt < (n : Int) → J 23 [some (.ref (q 7)), some (.ref (q o1)), some (.int x2), some (.int z3_23), some (.int z4_5), none] [] (cw A0 g K nn dn q w e v2 f2) 0 0 := by
          intro n
          induction n with
          | zero =>
            intro z3_23 j0_23 j1_23
            omega
          | succ n ih12 =>
            intro z3_23 j0_23 j1_23
            refine hC.1 2 23 _ _ rfl _ _ _ _ _ ?_
            intro m13 em_25
            try have e13 : m13.toInt = (z3_23).toInt + (x2).toInt := by rw [em_25]; exact pm_add _ _ (by omega) (by omega)
            refine Exists.intro _ (And.intro (cw_ro_o hI.1 ho1) ?_)
            have z14 := cw_sz hI ho1
            refine And.intro (fun c15 => ?_) (fun c15 => ?_)
            · skip
              refine hC.1 3 60 _ _ rfl _ _ _ _ _ ?_
              intro m16 em_63
              try have e16 : m16.toInt = (z3_23).toInt - (z4_5).toInt := by rw [em_63]; exact pm_sub _ _ (by omega) (by omega)
              refine Exists.intro _ (And.intro (cw_o7 hI.1) ?_)
              refine And.intro (fun c17 => ?_) (fun c17 => ?_)
              · skip
                refine hC.1 4 93 _ _ rfl _ _ _ _ _ ?_
                refine Exists.intro _ (And.intro (cw_o7 hI.1) (And.intro rfl ?_))
                rw [cw_p_twinFirst hI.1]
                obtain ⟨v18, ev18⟩ : ∃ z9, z9 = upd v2 13 z4_5 := ⟨_, rfl⟩
                rw [← ev18]
                have hs18 : cw_S v18 f2 := by rw [ev18]; exact cw_S_v hs2 13 _ (by decide)
                have ev18_0 : (v18 0).toInt = (v2 0).toInt := by rw [ev18]; rfl
                refine Exists.intro _ (And.intro (cw_o7 hI.1) (And.intro rfl ?_))
                rw [cw_p_twinLength hI.1]
                obtain ⟨v19, ev19⟩ : ∃ z9, z9 = upd v18 14 m16 := ⟨_, rfl⟩
                rw [← ev19]
                have hs19 : cw_S v19 f2 := by rw [ev19]; exact cw_S_v hs18 14 _ (by decide)
                have ev19_0 : (v19 0).toInt = (v18 0).toInt := by rw [ev19]; rfl
                refine hC.1 5 105 _ _ rfl _ _ _ _ _ ?_
                have k1 : (1 : Int32).toInt = 1 := rfl
                intro m20 em_105
                try have e20 : m20.toInt = (z4_5).toInt + (1) := by rw [em_105]; exact pm_addc _ _ (1) rfl (by omega) (by omega)
                exact hC.2 [false, false, false, false, false, true] _ _ _ _ _ _ (ih4 z3_23 m20 v19 f2 hs19 (by omega) (by omega) (by omega))
              · skip
                refine Exists.intro _ (And.intro (cw_o7 hI.1) ?_)
                refine And.intro (fun c21 => ?_) (fun c21 => ?_)
                · skip
                  have dc21 := pm_neI c21
                  refine hC.1 5 105 _ _ rfl _ _ _ _ _ ?_
                  have k1 : (1 : Int32).toInt = 1 := rfl
                  intro m22 em_105
                  try have e22 : m22.toInt = (z4_5).toInt + (1) := by rw [em_105]; exact pm_addc _ _ (1) rfl (by omega) (by omega)
                  exact hC.2 [false, false, false, false, false, true] _ _ _ _ _ _ (ih4 z3_23 m22 v2 f2 hs2 (by omega) (by omega) (by omega))
                · skip
                  have dc21 : (m16).toInt = ((v2 14) : Int32).toInt := congrArg Int32.toInt c21
                  refine Exists.intro _ (And.intro (cw_o7 hI.1) ?_)
                  refine And.intro (fun c23 => ?_) (fun c23 => ?_)
                  · skip
                    refine hC.1 5 105 _ _ rfl _ _ _ _ _ ?_
                    have k1 : (1 : Int32).toInt = 1 := rfl
                    intro m24 em_105
                    try have e24 : m24.toInt = (z4_5).toInt + (1) := by rw [em_105]; exact pm_addc _ _ (1) rfl (by omega) (by omega)
                    exact hC.2 [false, false, false, false, false, true] _ _ _ _ _ _ (ih4 z3_23 m24 v2 f2 hs2 (by omega) (by omega) (by omega))
                  · skip
                    refine hC.1 4 93 _ _ rfl _ _ _ _ _ ?_
                    refine Exists.intro _ (And.intro (cw_o7 hI.1) (And.intro rfl ?_))
                    rw [cw_p_twinFirst hI.1]
                    obtain ⟨v25, ev25⟩ : ∃ z9, z9 = upd v2 13 z4_5 := ⟨_, rfl⟩
                    rw [← ev25]
                    have hs25 : cw_S v25 f2 := by rw [ev25]; exact cw_S_v hs2 13 _ (by decide)
                    have ev25_0 : (v25 0).toInt = (v2 0).toInt := by rw [ev25]; rfl
                    refine Exists.intro _ (And.intro (cw_o7 hI.1) (And.intro rfl ?_))
                    rw [cw_p_twinLength hI.1]
                    obtain ⟨v26, ev26⟩ : ∃ z9, z9 = upd v25 14 m16 := ⟨_, rfl⟩
                    rw [← ev26]
                    have hs26 : cw_S v26 f2 := by rw [ev26]; exact cw_S_v hs25 14 _ (by decide)
                    have ev26_0 : (v26 0).toInt = (v25 0).toInt := by rw [ev26]; rfl
                    refine hC.1 5 105 _ _ rfl _ _ _ _ _ ?_
                    have k1 : (1 : Int32).toInt = 1 := rfl
                    intro m27 em_105
                    try have e27 : m27.toInt = (z4_5).toInt + (1) := by rw [em_105]; exact pm_addc _ _ (1) rfl (by omega) (by omega)
                    exact hC.2 [false, false, false, false, false, true] _ _ _ _ _ _ (ih4 z3_23 m27 v26 f2 hs26 (by omega) (by omega) (by omega))
            · skip
              refine Exists.intro _ (Exists.intro _ (Exists.intro _ (Exists.intro _ (And.intro (c_X4_stepWithin hI hs2 ho1 z4_5 z3_23 (by omega)) (And.intro rfl (fun r9 A9 h9 => ?_))))))
              obtain ⟨y28, rfl, rfl, by28⟩ := h9
              intro m30 em_44
              try have e30 : m30.toInt = (z4_5).toInt + (x2).toInt := by rw [em_44]; exact pm_add _ _ (by omega) (by omega)
              intro m31 em_47
              try have e31 : m31.toInt = (z3_23).toInt + (x2).toInt := by rw [em_47]; exact pm_add _ _ (by omega) (by omega)
              refine Exists.intro _ (Exists.intro _ (Exists.intro _ (Exists.intro _ (And.intro (c_X4_stepWithin hI hs2 ho1 m30 m31 (by omega)) (And.intro rfl (fun r9 A9 h9 => ?_))))))
              obtain ⟨y32, rfl, rfl, by32⟩ := h9
              refine And.intro (fun c34 => ?_) (fun c34 => ?_)
              · skip
                have dc34 := pm_neI c34
                refine hC.1 3 60 _ _ rfl _ _ _ _ _ ?_
                intro m35 em_63
                try have e35 : m35.toInt = (z3_23).toInt - (z4_5).toInt := by rw [em_63]; exact pm_sub _ _ (by omega) (by omega)
                refine Exists.intro _ (And.intro (cw_o7 hI.1) ?_)
                refine And.intro (fun c36 => ?_) (fun c36 => ?_)
                · skip
                  refine hC.1 4 93 _ _ rfl _ _ _ _ _ ?_
                  refine Exists.intro _ (And.intro (cw_o7 hI.1) (And.intro rfl ?_))
                  rw [cw_p_twinFirst hI.1]
                  obtain ⟨v37, ev37⟩ : ∃ z9, z9 = upd v2 13 z4_5 := ⟨_, rfl⟩
                  rw [← ev37]
                  have hs37 : cw_S v37 f2 := by rw [ev37]; exact cw_S_v hs2 13 _ (by decide)
                  have ev37_0 : (v37 0).toInt = (v2 0).toInt := by rw [ev37]; rfl
                  refine Exists.intro _ (And.intro (cw_o7 hI.1) (And.intro rfl ?_))
                  rw [cw_p_twinLength hI.1]
                  obtain ⟨v38, ev38⟩ : ∃ z9, z9 = upd v37 14 m35 := ⟨_, rfl⟩
                  rw [← ev38]
                  have hs38 : cw_S v38 f2 := by rw [ev38]; exact cw_S_v hs37 14 _ (by decide)
                  have ev38_0 : (v38 0).toInt = (v37 0).toInt := by rw [ev38]; rfl
                  refine hC.1 5 105 _ _ rfl _ _ _ _ _ ?_
                  have k1 : (1 : Int32).toInt = 1 := rfl
                  intro m39 em_105
                  try have e39 : m39.toInt = (z4_5).toInt + (1) := by rw [em_105]; exact pm_addc _ _ (1) rfl (by omega) (by omega)
                  exact hC.2 [false, false, false, false, false, true] _ _ _ _ _ _ (ih4 z3_23 m39 v38 f2 hs38 (by omega) (by omega) (by omega))
                · skip
                  refine Exists.intro _ (And.intro (cw_o7 hI.1) ?_)
                  refine And.intro (fun c40 => ?_) (fun c40 => ?_)
                  · skip
                    have dc40 := pm_neI c40
                    refine hC.1 5 105 _ _ rfl _ _ _ _ _ ?_
                    have k1 : (1 : Int32).toInt = 1 := rfl
                    intro m41 em_105
                    try have e41 : m41.toInt = (z4_5).toInt + (1) := by rw [em_105]; exact pm_addc _ _ (1) rfl (by omega) (by omega)
                    exact hC.2 [false, false, false, false, false, true] _ _ _ _ _ _ (ih4 z3_23 m41 v2 f2 hs2 (by omega) (by omega) (by omega))
                  · skip
                    have dc40 : (m35).toInt = ((v2 14) : Int32).toInt := congrArg Int32.toInt c40
                    refine Exists.intro _ (And.intro (cw_o7 hI.1) ?_)
                    refine And.intro (fun c42 => ?_) (fun c42 => ?_)
                    · skip
                      refine hC.1 5 105 _ _ rfl _ _ _ _ _ ?_
                      have k1 : (1 : Int32).toInt = 1 := rfl
                      intro m43 em_105
                      try have e43 : m43.toInt = (z4_5).toInt + (1) := by rw [em_105]; exact pm_addc _ _ (1) rfl (by omega) (by omega)
                      exact hC.2 [false, false, false, false, false, true] _ _ _ _ _ _ (ih4 z3_23 m43 v2 f2 hs2 (by omega) (by omega) (by omega))
                    · skip
                      refine hC.1 4 93 _ _ rfl _ _ _ _ _ ?_
                      refine Exists.intro _ (And.intro (cw_o7 hI.1) (And.intro rfl ?_))
                      rw [cw_p_twinFirst hI.1]
                      obtain ⟨v44, ev44⟩ : ∃ z9, z9 = upd v2 13 z4_5 := ⟨_, rfl⟩
                      rw [← ev44]
                      have hs44 : cw_S v44 f2 := by rw [ev44]; exact cw_S_v hs2 13 _ (by decide)
                      have ev44_0 : (v44 0).toInt = (v2 0).toInt := by rw [ev44]; rfl
                      refine Exists.intro _ (And.intro (cw_o7 hI.1) (And.intro rfl ?_))
                      rw [cw_p_twinLength hI.1]
                      obtain ⟨v45, ev45⟩ : ∃ z9, z9 = upd v44 14 m35 := ⟨_, rfl⟩
                      rw [← ev45]
                      have hs45 : cw_S v45 f2 := by rw [ev45]; exact cw_S_v hs44 14 _ (by decide)
                      have ev45_0 : (v45 0).toInt = (v44 0).toInt := by rw [ev45]; rfl
                      refine hC.1 5 105 _ _ rfl _ _ _ _ _ ?_
                      have k1 : (1 : Int32).toInt = 1 := rfl
                      intro m46 em_105
                      try have e46 : m46.toInt = (z4_5).toInt + (1) := by rw [em_105]; exact pm_addc _ _ (1) rfl (by omega) (by omega)
                      exact hC.2 [false, false, false, false, false, true] _ _ _ _ _ _ (ih4 z3_23 m46 v45 f2 hs45 (by omega) (by omega) (by omega))
              · skip
                have dc34 : (y28).toInt = (y32 : Int32).toInt := congrArg Int32.toInt c34
                have k1 : (1 : Int32).toInt = 1 := rfl
                intro m47 em_54
                try have e47 : m47.toInt = (z3_23).toInt + (1) := by rw [em_54]; exact pm_addc _ _ (1) rfl (by omega) (by omega)
                exact ih12 m47 (by omega) (by omega)
        exact lp11 (200 - y8.toInt).toNat.succ y8 (by omega) (by omega)
  exact lp3 (200 - (0 : Int32).toInt).toNat.succ (0 : Int32) (0 : Int32) v f hs (by omega) (by omega) (by omega)

set_option maxRecDepth 100000 in
set_option maxHeartbeats 2000000 in
theorem c_X4_findTwin (hI : cw_I K nn dn q w e) (hs : cw_S v f) {o1 : Nat} (ho1 : cw_ro K o1)  : pm_Mt l g 139 2 0 0 [.ref (q 7), .ref (q o1)] (cw A0 g K nn dn q w e v f) (cw_Qs A0 g K nn dn q w e (fun r v2 f2 => r = none ∧ (True))) := by
  refine mt_X4_findTwin rfl (fun J hC => ?_)
  have ro_nn : cw_ro K nn := hI.2.1.2.1
  have ro_dn : cw_ro K dn := hI.2.1.2.2.1
  have hu1 := hI.2.1
  unfold cw_W at hu1
  have zz0 := cw_sz hI ho1
  refine hC.1 0 0 _ _ rfl _ _ _ _ _ ?_
  have km1 : (-1 : Int32).toInt = -1 := rfl
  refine Exists.intro _ (And.intro (cw_o7 hI.1) (And.intro rfl ?_))
  rw [cw_p_twinFirst hI.1]
  obtain ⟨v2, ev2⟩ : ∃ z9, z9 = upd v 13 (-1 : Int32) := ⟨_, rfl⟩
  rw [← ev2]
  have hs2 : cw_S v2 f := by rw [ev2]; exact cw_S_v hs 13 _ (by decide)
  have ev2_0 : (v2 0).toInt = (v 0).toInt := by rw [ev2]; rfl
  have k0 : (0 : Int32).toInt = 0 := rfl
  refine Exists.intro _ (And.intro (cw_o7 hI.1) (And.intro rfl ?_))
  rw [cw_p_twinLength hI.1]
  obtain ⟨v3, ev3⟩ : ∃ z9, z9 = upd v2 14 (0 : Int32) := ⟨_, rfl⟩
  rw [← ev3]
  have hs3 : cw_S v3 f := by rw [ev3]; exact cw_S_v hs2 14 _ (by decide)
  have ev3_0 : (v3 0).toInt = (v2 0).toInt := by rw [ev3]; rfl
  have k1 : (1 : Int32).toInt = 1 := rfl
  have lp5 : ∀ (n : Nat) (z2_12 : Int32) (v4 : Nat → Int32) (f4 : Nat → Nat → Int32), cw_S v4 f4 → (1 ≤ z2_12.toInt ∧ z2_12.toInt ≤ 161) → 200 - z2_12.toInt < (n : Int) → J 12 [some (.ref (q 7)), some (.ref (q o1)), some (.int z2_12)] [] (cw A0 g K nn dn q w e v4 f4) 0 0 := by
    intro n
    induction n with
    | zero =>
      intro z2_12 v4 f4 hs4 j0_12 j1_12
      omega
    | succ n ih6 =>
      intro z2_12 v4 f4 hs4 j0_12 j1_12
      refine hC.1 1 12 _ _ rfl _ _ _ _ _ ?_
      refine Exists.intro _ (And.intro (cw_ro_o hI.1 ho1) ?_)
      have z7 := cw_sz hI ho1
      refine And.intro (fun c8 => ?_) (fun c8 => ?_)
      · skip
        refine hC.1 2 32 _ _ rfl _ _ _ _ _ ?_
        exact ⟨rfl, rfl, v4, f4, rfl, hs4, rfl, by exact True.intro⟩
      · skip
        refine And.intro (Exists.intro _ (cw_o7 hI.1)) (Exists.intro _ (Exists.intro _ (Exists.intro _ (Exists.intro _ (And.intro (c_X4_findTwinApart hI hs4 ho1 z2_12 (by omega)) (And.intro rfl (fun r9 A9 h9 => ?_)))))))
        rcases h9 with ⟨v10, f10, rfl, hs10, rfl, by9⟩
        intro m11 em_26
        try have e11 : m11.toInt = (z2_12).toInt + (1) := by rw [em_26]; exact pm_addc _ _ (1) rfl (by omega) (by omega)
        exact ih6 m11 v10 f10 hs10 (by omega) (by omega)
  exact lp5 (200 - (1 : Int32).toInt).toNat.succ (1 : Int32) v3 f hs3 (by omega) (by omega)

set_option maxRecDepth 100000 in
set_option maxHeartbeats 2000000 in
theorem c_X4_spansUpTo (hI : cw_I K nn dn q w e) (hs : cw_S v f) {o1 : Nat} (ho1 : cw_ro K o1) (x3 : Int32)  : pm_Mt l g 129 2 0 0 [.ref (q 7), .ref (q o1), .ref (q 2), .int x3] (cw A0 g K nn dn q w e v f) (cw_Qs A0 g K nn dn q w e (fun r v2 f2 => ∃ x : Int32, r = some (.int x) ∧ (True))) := by
  refine mt_X4_spansUpTo rfl (fun J hC => ?_)
  have ro_nn : cw_ro K nn := hI.2.1.2.1
  have ro_dn : cw_ro K dn := hI.2.1.2.2.1
  have hu1 := hI.2.1
  unfold cw_W at hu1
  have rg_x3 := pm_rng x3
  have zz0 := cw_sz hI ho1
  refine hC.1 0 0 _ _ rfl _ _ _ _ _ ?_
  refine And.intro (Exists.intro _ (cw_o2 hI.1)) (Exists.intro _ (Exists.intro _ (Exists.intro _ (Exists.intro _ (And.intro (c_X2_clear hI hs  ) (And.intro rfl (fun r9 A9 h9 => ?_)))))))
  rcases h9 with ⟨v3, f3, rfl, hs3, rfl, by2⟩
  have k0 : (0 : Int32).toInt = 0 := rfl
  have lp5 : ∀ (n : Nat) (z4_13 : Int32) (z5_13 : Int32) (z6_13 : Int32) (v4 : Nat → Int32) (f4 : Nat → Nat → Int32), cw_S v4 f4 → (0 ≤ z6_13.toInt ∧ z6_13.toInt ≤ 160) → (0 ≤ z5_13.toInt ∧ z5_13.toInt ≤ z6_13.toInt) → 200 - z6_13.toInt < (n : Int) → J 13 [some (.ref (q 7)), some (.ref (q o1)), some (.ref (q 2)), some (.int x3), some (.int z4_13), some (.int z5_13), some (.int z6_13)] [] (cw A0 g K nn dn q w e v4 f4) 0 0 := by
    intro n
    induction n with
    | zero =>
      intro z4_13 z5_13 z6_13 v4 f4 hs4 j0_13 j1_13 j2_13
      omega
    | succ n ih6 =>
      intro z4_13 z5_13 z6_13 v4 f4 hs4 j0_13 j1_13 j2_13
      refine hC.1 1 13 _ _ rfl _ _ _ _ _ ?_
      refine Exists.intro _ (And.intro (cw_ro_o hI.1 ho1) ?_)
      have z7 := cw_sz hI ho1
      refine And.intro (fun c8 => ?_) (fun c8 => ?_)
      · skip
        refine hC.1 4 83 _ _ rfl _ _ _ _ _ ?_
        exact ⟨rfl, fun e9 => absurd e9 (by decide), rfl, v4, f4, rfl, hs4, z4_13, rfl, by exact True.intro⟩
      · skip
        refine Exists.intro _ (And.intro (cw_ro_o hI.1 ho1) ?_)
        refine Exists.intro _ (Exists.intro _ (And.intro (Or.inl (cw_ro_1 hI.1 ho1)) (And.intro (by omega) ?_)))
        have w9 := cw_col hI ho1 (z6_13).toInt.toNat
        refine And.intro (Exists.intro _ (cw_o2 hI.1)) (Exists.intro _ (Exists.intro _ (Exists.intro _ (Exists.intro _ (And.intro (c_X2_take hI hs4 (e (o1 + 1) (z6_13).toInt.toNat) (by omega)) (And.intro rfl (fun r9 A9 h9 => ?_)))))))
        rcases h9 with ⟨v11, f11, rfl, hs11, rfl, by10⟩
        have lp13 : ∀ (n : Nat) (z5_33 : Int32) (v12 : Nat → Int32) (f12 : Nat → Nat → Int32), cw_S v12 f12 → (0 ≤ z5_33.toInt ∧ z5_33.toInt ≤ z6_13.toInt + 1) → 200 - z5_33.toInt < (n : Int) → J 33 [some (.ref (q 7)), some (.ref (q o1)), some (.ref (q 2)), some (.int x3), some (.int z4_13), some (.int z5_33), some (.int z6_13)] [] (cw A0 g K nn dn q w e v12 f12) 0 0 := by
          intro n
          induction n with
          | zero =>
            intro z5_33 v12 f12 hs12 j0_33 j1_33
            omega
          | succ n ih14 =>
            intro z5_33 v12 f12 hs12 j0_33 j1_33
            refine hC.1 2 33 _ _ rfl _ _ _ _ _ ?_
            refine Exists.intro _ (And.intro (cw_o2 hI.1) ?_)
            refine And.intro (fun c15 => ?_) (fun c15 => ?_)
            · skip
              refine hC.1 3 65 _ _ rfl _ _ _ _ _ ?_
              intro m16 em_71
              try have e16 : m16.toInt = (z6_13).toInt - (z5_33).toInt := by rw [em_71]; exact pm_sub _ _ (by omega) (by omega)
              have k1 : (1 : Int32).toInt = 1 := rfl
              intro m17 em_73
              try have e17 : m17.toInt = (m16).toInt + (1) := by rw [em_73]; exact pm_addc _ _ (1) rfl (by omega) (by omega)
              intro m18 em_74
              try have e18 : m18.toInt = (z4_13).toInt + (m17).toInt := by rw [em_74]; exact pm_add _ _ (by omega) (by omega)
              intro m19 em_77
              try have e19 : m19.toInt = (z6_13).toInt + (1) := by rw [em_77]; exact pm_addc _ _ (1) rfl (by omega) (by omega)
              exact ih6 m18 z5_33 m19 v12 f12 hs12 (by omega) (by omega) (by omega)
            · skip
              refine And.intro (fun c20 => ?_) (fun c20 => ?_)
              · skip
                refine hC.1 3 65 _ _ rfl _ _ _ _ _ ?_
                intro m21 em_71
                try have e21 : m21.toInt = (z6_13).toInt - (z5_33).toInt := by rw [em_71]; exact pm_sub _ _ (by omega) (by omega)
                have k1 : (1 : Int32).toInt = 1 := rfl
                intro m22 em_73
                try have e22 : m22.toInt = (m21).toInt + (1) := by rw [em_73]; exact pm_addc _ _ (1) rfl (by omega) (by omega)
                intro m23 em_74
                try have e23 : m23.toInt = (z4_13).toInt + (m22).toInt := by rw [em_74]; exact pm_add _ _ (by omega) (by omega)
                intro m24 em_77
                try have e24 : m24.toInt = (z6_13).toInt + (1) := by rw [em_77]; exact pm_addc _ _ (1) rfl (by omega) (by omega)
                exact ih6 m23 z5_33 m24 v12 f12 hs12 (by omega) (by omega) (by omega)
              · skip
                refine Exists.intro _ (And.intro (cw_ro_o hI.1 ho1) ?_)
                refine Exists.intro _ (Exists.intro _ (And.intro (Or.inl (cw_ro_1 hI.1 ho1)) (And.intro (by omega) ?_)))
                have w25 := cw_col hI ho1 (z5_33).toInt.toNat
                refine And.intro (Exists.intro _ (cw_o2 hI.1)) (Exists.intro _ (Exists.intro _ (Exists.intro _ (Exists.intro _ (And.intro (c_X2_drop hI hs12 (e (o1 + 1) (z5_33).toInt.toNat) (by omega)) (And.intro rfl (fun r9 A9 h9 => ?_)))))))
                rcases h9 with ⟨v27, f27, rfl, hs27, rfl, by26⟩
                have k1 : (1 : Int32).toInt = 1 := rfl
                intro m28 em_59
                try have e28 : m28.toInt = (z5_33).toInt + (1) := by rw [em_59]; exact pm_addc _ _ (1) rfl (by omega) (by omega)
                exact ih14 m28 v27 f27 hs27 (by omega) (by omega)
        exact lp13 (200 - z5_13.toInt).toNat.succ z5_13 v11 f11 hs11 (by omega) (by omega)
  exact lp5 (200 - (0 : Int32).toInt).toNat.succ (0 : Int32) (0 : Int32) (0 : Int32) v3 f3 hs3 (by omega) (by omega) (by omega)

set_option maxRecDepth 100000 in
set_option maxHeartbeats 2000000 in
theorem c_X4_isAmong (hI : cw_I K nn dn q w e) (hs : cw_S v f) (x1 : Int32) (x2 : Int32) (p0 : 0 ≤ x2.toInt ∧ x2.toInt ≤ 160) : pm_Mt l g 133 0 0 0 [.ref (q 7), .int x1, .int x2] (cw A0 g K nn dn q w e v f) (md_Qp (cw A0 g K nn dn q w e v f) (fun r => (r = 1 ∧ (True)) ∨ (r = 0 ∧ (True)))) := by
  refine mt_X4_isAmong rfl (fun J hC => ?_)
  have ro_nn : cw_ro K nn := hI.2.1.2.1
  have ro_dn : cw_ro K dn := hI.2.1.2.2.1
  have hu1 := hI.2.1
  unfold cw_W at hu1
  have rg_x1 := pm_rng x1
  have rg_x2 := pm_rng x2
  refine hC.1 0 0 _ _ rfl _ _ _ _ _ ?_
  have k0 : (0 : Int32).toInt = 0 := rfl
  have lp3 : ∀ (n : Nat) (z3_2 : Int32), (0 ≤ z3_2.toInt ∧ z3_2.toInt ≤ 160) → 200 - z3_2.toInt < (n : Int) → J 2 [some (.ref (q 7)), some (.int x1), some (.int x2), some (.int z3_2)] [] (cw A0 g K nn dn q w e v f) 0 0 := by
    intro n
    induction n with
    | zero =>
      intro z3_2 j0_2 j1_2
      omega
    | succ n ih4 =>
      intro z3_2 j0_2 j1_2
      refine hC.1 1 2 _ _ rfl _ _ _ _ _ ?_
      refine And.intro (fun c5 => ?_) (fun c5 => ?_)
      · skip
        refine hC.1 3 25 _ _ rfl _ _ _ _ _ ?_
        exact ⟨rfl, fun _ => (by decide), rfl, (0 : Int32), rfl, rfl, Or.inr ⟨rfl, by first | omega | (dsimp only; omega) | trivial⟩⟩
      · skip
        refine Exists.intro _ (And.intro (cw_o7 hI.1) ?_)
        refine Exists.intro _ (Exists.intro _ (And.intro (Or.inl (cw_a25 hI.1)) (And.intro (by omega) ?_)))
        refine And.intro (fun c6 => ?_) (fun c6 => ?_)
        · skip
          have dc6 := pm_neI c6
          refine hC.1 2 19 _ _ rfl _ _ _ _ _ ?_
          have k1 : (1 : Int32).toInt = 1 := rfl
          intro m7 em_19
          try have e7 : m7.toInt = (z3_2).toInt + (1) := by rw [em_19]; exact pm_addc _ _ (1) rfl (by omega) (by omega)
          exact ih4 m7 (by omega) (by omega)
        · skip
          have dc6 : ((f 25 (z3_2).toInt.toNat)).toInt = (x1 : Int32).toInt := congrArg Int32.toInt c6
          have k1 : (1 : Int32).toInt = 1 := rfl
          exact ⟨rfl, fun _ => (by decide), rfl, (1 : Int32), rfl, rfl, Or.inl ⟨rfl, by first | omega | (dsimp only; omega) | trivial⟩⟩
  exact lp3 (200 - (0 : Int32).toInt).toNat.succ (0 : Int32) (by omega) (by omega)

set_option maxRecDepth 100000 in
set_option maxHeartbeats 2000000 in
theorem c_X4_unlikeSets (hI : cw_I K nn dn q w e) (hs : cw_S v f) {o1 : Nat} (ho1 : cw_ro K o1) (x3 : Int32) (p0 : 1 ≤ x3.toInt ∧ x3.toInt ≤ (w o1).toInt) : pm_Mt l g 132 3 0 0 [.ref (q 7), .ref (q o1), .ref (q 2), .int x3] (cw A0 g K nn dn q w e v f) (cw_Qs A0 g K nn dn q w e (fun r v2 f2 => ∃ x : Int32, r = some (.int x) ∧ (True))) := by
  refine mt_X4_unlikeSets rfl (fun J hC => ?_)
  have ro_nn : cw_ro K nn := hI.2.1.2.1
  have ro_dn : cw_ro K dn := hI.2.1.2.2.1
  have hu1 := hI.2.1
  unfold cw_W at hu1
  have rg_x3 := pm_rng x3
  have zz0 := cw_sz hI ho1
  refine hC.1 0 0 _ _ rfl _ _ _ _ _ ?_
  have k0 : (0 : Int32).toInt = 0 := rfl
  have k1 : (1 : Int32).toInt = 1 := rfl
  intro m2 em_5
  try have e2 : m2.toInt = (x3).toInt - (1) := by rw [em_5]; exact pm_subc _ _ (1) rfl (by omega) (by omega)
  refine And.intro (Exists.intro _ (cw_o2 hI.1)) (Exists.intro _ (Exists.intro _ (Exists.intro _ (Exists.intro _ (And.intro (c_X2_read hI hs ho1 (0 : Int32) m2 ) (And.intro rfl (fun r9 A9 h9 => ?_)))))))
  rcases h9 with ⟨v4, f4, rfl, hs4, rfl, by3⟩
  have lp6 : ∀ (n : Nat) (z4_15 : Int32) (z5_15 : Int32) (v5 : Nat → Int32) (f5 : Nat → Nat → Int32), cw_S v5 f5 → (0 ≤ z5_15.toInt ∧ z5_15.toInt ≤ 161) → (0 ≤ z4_15.toInt ∧ z4_15.toInt ≤ z5_15.toInt) → 200 - z5_15.toInt < (n : Int) → J 15 [some (.ref (q 7)), some (.ref (q o1)), some (.ref (q 2)), some (.int x3), some (.int z4_15), some (.int z5_15)] [] (cw A0 g K nn dn q w e v5 f5) 0 0 := by
    intro n
    induction n with
    | zero =>
      intro z4_15 z5_15 v5 f5 hs5 j0_15 j1_15 j2_15
      omega
    | succ n ih7 =>
      intro z4_15 z5_15 v5 f5 hs5 j0_15 j1_15 j2_15
      refine hC.1 1 15 _ _ rfl _ _ _ _ _ ?_
      intro m8 em_18
      try have e8 : m8.toInt = (z5_15).toInt + (x3).toInt := by rw [em_18]; exact pm_add _ _ (by omega) (by omega)
      refine Exists.intro _ (And.intro (cw_ro_o hI.1 ho1) ?_)
      have z9 := cw_sz hI ho1
      refine And.intro (fun c10 => ?_) (fun c10 => ?_)
      · skip
        refine hC.1 4 92 _ _ rfl _ _ _ _ _ ?_
        exact ⟨rfl, fun e9 => absurd e9 (by decide), rfl, v5, f5, rfl, hs5, z4_15, rfl, by exact True.intro⟩
      · skip
        refine And.intro (fun c11 => ?_) (fun c11 => ?_)
        · skip
          refine hC.1 2 59 _ _ rfl _ _ _ _ _ ?_
          refine Exists.intro _ (And.intro (cw_o2 hI.1) ?_)
          refine And.intro (Exists.intro _ (cw_o7 hI.1)) (Exists.intro _ (Exists.intro _ (Exists.intro _ (Exists.intro _ (And.intro (c_X4_isAmong hI hs5 (v5 3) z4_15 (by omega)) (And.intro rfl (fun r9 A9 h9 => ?_)))))))
          rcases h9 with ⟨y12, rfl, rfl, ⟨rfl, by12⟩ | ⟨rfl, by12⟩⟩
          · skip
            refine And.intro (fun _ => ?_) (fun c9 => absurd c9 (by decide))
            refine hC.1 3 86 _ _ rfl _ _ _ _ _ ?_
            intro m14 em_86
            try have e14 : m14.toInt = (z5_15).toInt + (1) := by rw [em_86]; exact pm_addc _ _ (1) rfl (by omega) (by omega)
            exact ih7 z4_15 m14 v5 f5 hs5 (by omega) (by omega) (by omega)
          · skip
            refine And.intro (fun c9 => absurd c9 (by decide)) (fun _ => ?_)
            refine Exists.intro _ (And.intro (cw_o7 hI.1) ?_)
            refine Exists.intro _ (And.intro (cw_o2 hI.1) ?_)
            refine Exists.intro _ (Exists.intro _ (And.intro (cw_a25 hI.1) (And.intro (by omega) ?_)))
            rw [cw_s25 hI.1]
            obtain ⟨f15, ef15⟩ : ∃ z9, z9 = va_up f5 25 (upd (f5 25) (z4_15).toInt.toNat (v5 3)) := ⟨_, rfl⟩
            rw [← ef15]
            have hs15 : cw_S v5 f15 := by rw [ef15]; exact cw_S_fr hs5 _ _ (by decide) (by decide)
            intro m16 em_83
            try have e16 : m16.toInt = (z4_15).toInt + (1) := by rw [em_83]; exact pm_addc _ _ (1) rfl (by omega) (by omega)
            refine hC.1 3 86 _ _ rfl _ _ _ _ _ ?_
            intro m17 em_86
            try have e17 : m17.toInt = (z5_15).toInt + (1) := by rw [em_86]; exact pm_addc _ _ (1) rfl (by omega) (by omega)
            exact ih7 m16 m17 v5 f15 hs15 (by omega) (by omega) (by omega)
        · skip
          refine Exists.intro _ (And.intro (cw_ro_o hI.1 ho1) ?_)
          intro m18 em_39
          try have e18 : m18.toInt = (z5_15).toInt - (1) := by rw [em_39]; exact pm_subc _ _ (1) rfl (by omega) (by omega)
          refine Exists.intro _ (Exists.intro _ (And.intro (Or.inl (cw_ro_1 hI.1 ho1)) (And.intro (by omega) ?_)))
          have w19 := cw_col hI ho1 (m18).toInt.toNat
          refine And.intro (Exists.intro _ (cw_o2 hI.1)) (Exists.intro _ (Exists.intro _ (Exists.intro _ (Exists.intro _ (And.intro (c_X2_drop hI hs5 (e (o1 + 1) (m18).toInt.toNat) (by omega)) (And.intro rfl (fun r9 A9 h9 => ?_)))))))
          rcases h9 with ⟨v21, f21, rfl, hs21, rfl, by20⟩
          refine Exists.intro _ (And.intro (cw_ro_o hI.1 ho1) ?_)
          intro m22 em_52
          try have e22 : m22.toInt = (z5_15).toInt + (x3).toInt := by rw [em_52]; exact pm_add _ _ (by omega) (by omega)
          intro m23 em_54
          try have e23 : m23.toInt = (m22).toInt - (1) := by rw [em_54]; exact pm_subc _ _ (1) rfl (by omega) (by omega)
          refine Exists.intro _ (Exists.intro _ (And.intro (Or.inl (cw_ro_1 hI.1 ho1)) (And.intro (by omega) ?_)))
          have w24 := cw_col hI ho1 (m23).toInt.toNat
          refine And.intro (Exists.intro _ (cw_o2 hI.1)) (Exists.intro _ (Exists.intro _ (Exists.intro _ (Exists.intro _ (And.intro (c_X2_take hI hs21 (e (o1 + 1) (m23).toInt.toNat) (by omega)) (And.intro rfl (fun r9 A9 h9 => ?_)))))))
          rcases h9 with ⟨v26, f26, rfl, hs26, rfl, by25⟩
          refine hC.1 2 59 _ _ rfl _ _ _ _ _ ?_
          refine Exists.intro _ (And.intro (cw_o2 hI.1) ?_)
          refine And.intro (Exists.intro _ (cw_o7 hI.1)) (Exists.intro _ (Exists.intro _ (Exists.intro _ (Exists.intro _ (And.intro (c_X4_isAmong hI hs26 (v26 3) z4_15 (by omega)) (And.intro rfl (fun r9 A9 h9 => ?_)))))))
          rcases h9 with ⟨y27, rfl, rfl, ⟨rfl, by27⟩ | ⟨rfl, by27⟩⟩
          · skip
            refine And.intro (fun _ => ?_) (fun c9 => absurd c9 (by decide))
            refine hC.1 3 86 _ _ rfl _ _ _ _ _ ?_
            intro m29 em_86
            try have e29 : m29.toInt = (z5_15).toInt + (1) := by rw [em_86]; exact pm_addc _ _ (1) rfl (by omega) (by omega)
            exact ih7 z4_15 m29 v26 f26 hs26 (by omega) (by omega) (by omega)
          · skip
            refine And.intro (fun c9 => absurd c9 (by decide)) (fun _ => ?_)
            refine Exists.intro _ (And.intro (cw_o7 hI.1) ?_)
            refine Exists.intro _ (And.intro (cw_o2 hI.1) ?_)
            refine Exists.intro _ (Exists.intro _ (And.intro (cw_a25 hI.1) (And.intro (by omega) ?_)))
            rw [cw_s25 hI.1]
            obtain ⟨f30, ef30⟩ : ∃ z9, z9 = va_up f26 25 (upd (f26 25) (z4_15).toInt.toNat (v26 3)) := ⟨_, rfl⟩
            rw [← ef30]
            have hs30 : cw_S v26 f30 := by rw [ef30]; exact cw_S_fr hs26 _ _ (by decide) (by decide)
            intro m31 em_83
            try have e31 : m31.toInt = (z4_15).toInt + (1) := by rw [em_83]; exact pm_addc _ _ (1) rfl (by omega) (by omega)
            refine hC.1 3 86 _ _ rfl _ _ _ _ _ ?_
            intro m32 em_86
            try have e32 : m32.toInt = (z5_15).toInt + (1) := by rw [em_86]; exact pm_addc _ _ (1) rfl (by omega) (by omega)
            exact ih7 m31 m32 v26 f30 hs30 (by omega) (by omega) (by omega)
  exact lp6 (200 - (0 : Int32).toInt).toNat.succ (0 : Int32) (0 : Int32) v4 f4 hs4 (by omega) (by omega) (by omega)

end
end
section
section
variable {l : Launch} {g : pm_G} {A0 : pm_H} {K nn dn : Nat} {q : Nat → Nat} {w : Nat → Int32} {e : Nat → Nat → Int32} {v : Nat → Int32} {f : Nat → Nat → Int32}
set_option maxRecDepth 100000 in
set_option maxHeartbeats 2000000 in
theorem c_X3_worthOf (hI : cw_I K nn dn q w e) (hs : cw_S v f) (x1 : Int32) (x2 : Int32)  : pm_Mt l g 145 0 0 0 [.ref (q 8), .int x1, .int x2] (cw A0 g K nn dn q w e v f) (md_Qp (cw A0 g K nn dn q w e v f) (fun r => True)) := by
  refine mt_X3_worthOf rfl (fun J hC => ?_)
  have ro_nn : cw_ro K nn := hI.2.1.2.1
  have ro_dn : cw_ro K dn := hI.2.1.2.2.1
  have hu1 := hI.2.1
  unfold cw_W at hu1
  have rg_x1 := pm_rng x1
  have rg_x2 := pm_rng x2
  refine hC.1 0 0 _ _ rfl _ _ _ _ _ ?_
  refine And.intro (fun c2 => ?_) (fun c2 => ?_)
  · skip
    refine hC.1 1 25 _ _ rfl _ _ _ _ _ ?_
    have k0 : (0 : Int32).toInt = 0 := rfl
    refine hC.1 2 26 _ _ rfl _ _ _ _ _ ?_
    refine And.intro (fun _ => ?_) (fun c9 => absurd c9 (by decide))
    refine hC.1 3 42 _ _ rfl _ _ _ _ _ ?_
    have km1 : (-1 : Int32).toInt = -1 := rfl
    refine hC.1 4 43 _ _ rfl _ _ _ _ _ ?_
    exact ⟨rfl, fun e9 => absurd e9 (by decide), rfl, (-1 : Int32), rfl, rfl, by exact True.intro⟩
  · skip
    have k8 : (8 : Int32).toInt = 8 := rfl
    refine And.intro (fun c3 => ?_) (fun c3 => ?_)
    · skip
      refine hC.1 1 25 _ _ rfl _ _ _ _ _ ?_
      have k0 : (0 : Int32).toInt = 0 := rfl
      refine hC.1 2 26 _ _ rfl _ _ _ _ _ ?_
      refine And.intro (fun _ => ?_) (fun c9 => absurd c9 (by decide))
      refine hC.1 3 42 _ _ rfl _ _ _ _ _ ?_
      have km1 : (-1 : Int32).toInt = -1 := rfl
      refine hC.1 4 43 _ _ rfl _ _ _ _ _ ?_
      exact ⟨rfl, fun e9 => absurd e9 (by decide), rfl, (-1 : Int32), rfl, rfl, by exact True.intro⟩
    · skip
      refine And.intro (fun c4 => ?_) (fun c4 => ?_)
      · skip
        refine hC.1 1 25 _ _ rfl _ _ _ _ _ ?_
        have k0 : (0 : Int32).toInt = 0 := rfl
        refine hC.1 2 26 _ _ rfl _ _ _ _ _ ?_
        refine And.intro (fun _ => ?_) (fun c9 => absurd c9 (by decide))
        refine hC.1 3 42 _ _ rfl _ _ _ _ _ ?_
        have km1 : (-1 : Int32).toInt = -1 := rfl
        refine hC.1 4 43 _ _ rfl _ _ _ _ _ ?_
        exact ⟨rfl, fun e9 => absurd e9 (by decide), rfl, (-1 : Int32), rfl, rfl, by exact True.intro⟩
      · skip
        have k160 : (160 : Int32).toInt = 160 := rfl
        refine And.intro (fun c5 => ?_) (fun c5 => ?_)
        · skip
          refine hC.1 1 25 _ _ rfl _ _ _ _ _ ?_
          have k0 : (0 : Int32).toInt = 0 := rfl
          refine hC.1 2 26 _ _ rfl _ _ _ _ _ ?_
          refine And.intro (fun _ => ?_) (fun c9 => absurd c9 (by decide))
          refine hC.1 3 42 _ _ rfl _ _ _ _ _ ?_
          have km1 : (-1 : Int32).toInt = -1 := rfl
          refine hC.1 4 43 _ _ rfl _ _ _ _ _ ?_
          exact ⟨rfl, fun e9 => absurd e9 (by decide), rfl, (-1 : Int32), rfl, rfl, by exact True.intro⟩
        · skip
          have k1 : (1 : Int32).toInt = 1 := rfl
          refine hC.1 2 26 _ _ rfl _ _ _ _ _ ?_
          refine And.intro (fun c9 => absurd c9 (by decide)) (fun _ => ?_)
          refine Exists.intro _ (And.intro (cw_o8 hI.1) ?_)
          refine Exists.intro _ (Exists.intro _ (And.intro (Or.inr (cw_worths hI.1)) (And.intro (by omega) ?_)))
          have hw6 : (x1).toInt.toNat < 9 := by omega
          rw [cw_ww_lt hw6]
          refine Exists.intro _ (Exists.intro _ (And.intro (Or.inl (cw_wr hI.1 hw6)) (And.intro (by omega) ?_)))
          refine hC.1 4 43 _ _ rfl _ _ _ _ _ ?_
          exact ⟨rfl, fun e9 => absurd e9 (by decide), rfl, (f (26 + (x1).toInt.toNat) (x2).toInt.toNat), rfl, rfl, by exact True.intro⟩

set_option maxRecDepth 100000 in
set_option maxHeartbeats 2000000 in
theorem c_X3_weighUp (hI : cw_I K nn dn q w e) (hs : cw_S v f) {o1 : Nat} (ho1 : cw_ro K o1) (x3 : Int32) (p0 : 1 ≤ x3.toInt ∧ x3.toInt ≤ 8) : pm_Mt l g 144 2 0 0 [.ref (q 8), .ref (q o1), .ref (q 2), .int x3] (cw A0 g K nn dn q w e v f) (cw_Qs A0 g K nn dn q w e (fun r v2 f2 => r = none ∧ (True))) := by
  refine mt_X3_weighUp rfl (fun J hC => ?_)
  have ro_nn : cw_ro K nn := hI.2.1.2.1
  have ro_dn : cw_ro K dn := hI.2.1.2.2.1
  have hu1 := hI.2.1
  unfold cw_W at hu1
  have rg_x3 := pm_rng x3
  have zz0 := cw_sz hI ho1
  refine hC.1 0 0 _ _ rfl _ _ _ _ _ ?_
  have k0 : (0 : Int32).toInt = 0 := rfl
  have lp3 : ∀ (n : Nat) (z4_3 : Int32) (v2 : Nat → Int32) (f2 : Nat → Nat → Int32), cw_S v2 f2 → (0 ≤ z4_3.toInt ∧ z4_3.toInt ≤ 9) → 200 - z4_3.toInt < (n : Int) → J 3 [some (.ref (q 8)), some (.ref (q o1)), some (.ref (q 2)), some (.int x3), some (.int z4_3), none, none, none] [] (cw A0 g K nn dn q w e v2 f2) 0 0 := by
    intro n
    induction n with
    | zero =>
      intro z4_3 v2 f2 hs2 j0_3 j1_3
      omega
    | succ n ih4 =>
      intro z4_3 v2 f2 hs2 j0_3 j1_3
      refine hC.1 1 3 _ _ rfl _ _ _ _ _ ?_
      refine And.intro (fun c5 => ?_) (fun c5 => ?_)
      · skip
        refine hC.1 2 26 _ _ rfl _ _ _ _ _ ?_
        refine Exists.intro _ (And.intro (cw_o8 hI.1) ?_)
        refine Exists.intro _ (Exists.intro _ (And.intro (Or.inr (cw_worths hI.1)) (And.intro (by omega) ?_)))
        have hw6 : ((0 : Int32)).toInt.toNat < 9 := by omega
        rw [cw_ww_lt hw6]
        refine Exists.intro _ (And.intro (cw_ro_o hI.1 ho1) ?_)
        have z7 := cw_sz hI ho1
        refine Exists.intro _ (Exists.intro _ (And.intro (cw_wr hI.1 hw6) (And.intro (by omega) ?_)))
        rw [cw_swr hI.1 hw6]
        obtain ⟨f8, ef8⟩ : ∃ z9, z9 = va_up f2 (26 + ((0 : Int32)).toInt.toNat) (upd (f2 (26 + ((0 : Int32)).toInt.toNat)) ((w o1)).toInt.toNat (0 : Int32)) := ⟨_, rfl⟩
        rw [← ef8]
        have hs8 : cw_S v2 f8 := by rw [ef8]; exact cw_S_fr hs2 _ _ (by omega) (by omega)
        refine Exists.intro _ (And.intro (cw_ro_o hI.1 ho1) ?_)
        have z9 := cw_sz hI ho1
        have k1 : (1 : Int32).toInt = 1 := rfl
        intro m10 em_43
        try have e10 : m10.toInt = ((w o1)).toInt - (1) := by rw [em_43]; exact pm_subc _ _ (1) rfl (by omega) (by omega)
        have lp12 : ∀ (n : Nat) (z4_46 : Int32) (v11 : Nat → Int32) (f11 : Nat → Nat → Int32), cw_S v11 f11 → (-1 ≤ z4_46.toInt ∧ z4_46.toInt ≤ 159) → z4_46.toInt + 1 < (n : Int) → J 46 [some (.ref (q 8)), some (.ref (q o1)), some (.ref (q 2)), some (.int x3), some (.int z4_46), none, none, none] [] (cw A0 g K nn dn q w e v11 f11) 0 0 := by
          intro n
          induction n with
          | zero =>
            intro z4_46 v11 f11 hs11 j0_46 j1_46
            omega
          | succ n ih13 =>
            intro z4_46 v11 f11 hs11 j0_46 j1_46
            refine hC.1 3 46 _ _ rfl _ _ _ _ _ ?_
            refine And.intro (fun c14 => ?_) (fun c14 => ?_)
            · skip
              refine hC.1 9 158 _ _ rfl _ _ _ _ _ ?_
              exact ⟨rfl, rfl, v11, f11, rfl, hs11, rfl, by exact True.intro⟩
            · skip
              refine And.intro (Exists.intro _ (cw_o2 hI.1)) (Exists.intro _ (Exists.intro _ (Exists.intro _ (Exists.intro _ (And.intro (c_X2_clear hI hs11  ) (And.intro rfl (fun r9 A9 h9 => ?_)))))))
              rcases h9 with ⟨v16, f16, rfl, hs16, rfl, by15⟩
              have lp18 : ∀ (n : Nat) (z5_59 : Int32) (v17 : Nat → Int32) (f17 : Nat → Nat → Int32), cw_S v17 f17 → (z4_46.toInt ≤ z5_59.toInt ∧ z5_59.toInt ≤ 160) → 200 - z5_59.toInt < (n : Int) → J 59 [some (.ref (q 8)), some (.ref (q o1)), some (.ref (q 2)), some (.int x3), some (.int z4_46), some (.int z5_59), none, none] [] (cw A0 g K nn dn q w e v17 f17) 0 0 := by
                intro n
                induction n with
                | zero =>
                  intro z5_59 v17 f17 hs17 j0_59 j1_59
                  omega
                | succ n ih19 =>
                  intro z5_59 v17 f17 hs17 j0_59 j1_59
                  refine hC.1 4 59 _ _ rfl _ _ _ _ _ ?_
                  refine Exists.intro _ (And.intro (cw_ro_o hI.1 ho1) ?_)
                  have z20 := cw_sz hI ho1
                  refine And.intro (fun c21 => ?_) (fun c21 => ?_)
                  · skip
                    refine hC.1 8 152 _ _ rfl _ _ _ _ _ ?_
                    have km1 : (-1 : Int32).toInt = -1 := rfl
                    intro m22 em_152
                    try have e22 : m22.toInt = (z4_46).toInt + (-1) := by rw [em_152]; exact pm_addc _ _ (-1) rfl (by omega) (by omega)
                    exact hC.2 [false, false, false, false, false, true, false, false] _ _ _ _ _ _ (ih13 m22 v17 f17 hs17 (by omega) (by omega))
                  · skip
                    refine Exists.intro _ (And.intro (cw_ro_o hI.1 ho1) ?_)
                    refine Exists.intro _ (Exists.intro _ (And.intro (Or.inl (cw_ro_1 hI.1 ho1)) (And.intro (by omega) ?_)))
                    have w23 := cw_col hI ho1 (z5_59).toInt.toNat
                    refine And.intro (Exists.intro _ (cw_o2 hI.1)) (Exists.intro _ (Exists.intro _ (Exists.intro _ (Exists.intro _ (And.intro (c_X2_take hI hs17 (e (o1 + 1) (z5_59).toInt.toNat) (by omega)) (And.intro rfl (fun r9 A9 h9 => ?_)))))))
                    rcases h9 with ⟨v25, f25, rfl, hs25, rfl, by24⟩
                    have lp27 : ∀ (n : Nat) (z6_82 : Int32) (v26 : Nat → Int32) (f26 : Nat → Nat → Int32), cw_S v26 f26 → (1 ≤ z6_82.toInt ∧ z6_82.toInt ≤ 9) → 200 - z6_82.toInt < (n : Int) → J 82 [some (.ref (q 8)), some (.ref (q o1)), some (.ref (q 2)), some (.int x3), some (.int z4_46), some (.int z5_59), some (.int z6_82), none] [] (cw A0 g K nn dn q w e v26 f26) 0 0 := by
                      intro n
                      induction n with
                      | zero =>
                        intro z6_82 v26 f26 hs26 j0_82 j1_82
                        omega
                      | succ n ih28 =>
                        intro z6_82 v26 f26 hs26 j0_82 j1_82
                        refine hC.1 5 82 _ _ rfl _ _ _ _ _ ?_
                        refine And.intro (fun c29 => ?_) (fun c29 => ?_)
                        · skip
                          refine hC.1 7 146 _ _ rfl _ _ _ _ _ ?_
                          intro m30 em_146
                          try have e30 : m30.toInt = (z5_59).toInt + (1) := by rw [em_146]; exact pm_addc _ _ (1) rfl (by omega) (by omega)
                          exact hC.2 [false, false, false, false, false, false, true, false] _ _ _ _ _ _ (ih19 m30 v26 f26 hs26 (by omega) (by omega))
                        · skip
                          refine Exists.intro _ (And.intro (cw_o8 hI.1) ?_)
                          intro m31 em_95
                          try have e31 : m31.toInt = (z6_82).toInt - (1) := by rw [em_95]; exact pm_subc _ _ (1) rfl (by omega) (by omega)
                          refine Exists.intro _ (Exists.intro _ (And.intro (Or.inr (cw_worths hI.1)) (And.intro (by omega) ?_)))
                          have hw32 : (m31).toInt.toNat < 9 := by omega
                          rw [cw_ww_lt hw32]
                          intro m33 em_100
                          try have e33 : m33.toInt = (z5_59).toInt + (1) := by rw [em_100]; exact pm_addc _ _ (1) rfl (by omega) (by omega)
                          refine Exists.intro _ (Exists.intro _ (And.intro (Or.inl (cw_wr hI.1 hw32)) (And.intro (by omega) ?_)))
                          have km1 : (-1 : Int32).toInt = -1 := rfl
                          refine And.intro (fun c34 => ?_) (fun c34 => ?_)
                          · skip
                            have dc34 : ((f26 (26 + (m31).toInt.toNat) (m33).toInt.toNat)).toInt = ((-1 : Int32) : Int32).toInt := congrArg Int32.toInt c34
                            refine hC.1 6 140 _ _ rfl _ _ _ _ _ ?_
                            intro m35 em_140
                            try have e35 : m35.toInt = (z6_82).toInt + (1) := by rw [em_140]; exact pm_addc _ _ (1) rfl (by omega) (by omega)
                            exact hC.2 [false, false, false, false, false, false, false, true] _ _ _ _ _ _ (ih28 m35 v26 f26 hs26 (by omega) (by omega))
                          · skip
                            have dc34 := pm_neI c34
                            refine Exists.intro _ (And.intro (cw_o8 hI.1) ?_)
                            refine Exists.intro _ (Exists.intro _ (And.intro (Or.inr (cw_worths hI.1)) (And.intro (by omega) ?_)))
                            have hw36 : (z6_82).toInt.toNat < 9 := by omega
                            rw [cw_ww_lt hw36]
                            refine Exists.intro _ (And.intro (cw_o8 hI.1) ?_)
                            refine Exists.intro _ (Exists.intro _ (And.intro (Or.inr (cw_worths hI.1)) (And.intro (by omega) ?_)))
                            have hw37 : (z6_82).toInt.toNat < 9 := by omega
                            rw [cw_ww_lt hw37]
                            refine Exists.intro _ (Exists.intro _ (And.intro (Or.inl (cw_wr hI.1 hw37)) (And.intro (by omega) ?_)))
                            refine Exists.intro _ (And.intro (cw_o2 hI.1) ?_)
                            intro m38 em_135
                            try have e38 : m38.toInt = ((v26 2)).toInt + ((f26 (26 + (m31).toInt.toNat) (m33).toInt.toNat)).toInt := by rw [em_135]; exact pm_add _ _ (by omega) (by omega)
                            refine Exists.intro _ (Exists.intro _ (Exists.intro _ (Exists.intro _ (And.intro (c_J9_max_7cf53 (cw A0 g K nn dn q w e v26 f26) (f26 (26 + (z6_82).toInt.toNat) (z4_46).toInt.toNat) m38 ) (And.intro rfl (fun r9 A9 h9 => ?_))))))
                            obtain ⟨y39, rfl, rfl, by39⟩ := h9
                            refine Exists.intro _ (Exists.intro _ (And.intro (cw_wr hI.1 hw36) (And.intro (by omega) ?_)))
                            rw [cw_swr hI.1 hw36]
                            obtain ⟨f41, ef41⟩ : ∃ z9, z9 = va_up f26 (26 + (z6_82).toInt.toNat) (upd (f26 (26 + (z6_82).toInt.toNat)) (z4_46).toInt.toNat y39) := ⟨_, rfl⟩
                            rw [← ef41]
                            have hs41 : cw_S v26 f41 := by rw [ef41]; exact cw_S_fr hs26 _ _ (by omega) (by omega)
                            refine hC.1 6 140 _ _ rfl _ _ _ _ _ ?_
                            intro m42 em_140
                            try have e42 : m42.toInt = (z6_82).toInt + (1) := by rw [em_140]; exact pm_addc _ _ (1) rfl (by omega) (by omega)
                            exact hC.2 [false, false, false, false, false, false, false, true] _ _ _ _ _ _ (ih28 m42 v26 f41 hs41 (by omega) (by omega))
                    exact lp27 (200 - (1 : Int32).toInt).toNat.succ (1 : Int32) v25 f25 hs25 (by omega) (by omega)
              exact lp18 (200 - z4_46.toInt).toNat.succ z4_46 v16 f16 hs16 (by omega) (by omega)
        exact lp12 (m10.toInt + 1).toNat.succ m10 v2 f8 hs8 (by omega) (by omega)
      · skip
        refine Exists.intro _ (And.intro (cw_o8 hI.1) ?_)
        refine Exists.intro _ (Exists.intro _ (And.intro (Or.inr (cw_worths hI.1)) (And.intro (by omega) ?_)))
        have hw43 : (z4_3).toInt.toNat < 9 := by omega
        rw [cw_ww_lt hw43]
        have km1 : (-1 : Int32).toInt = -1 := rfl
        refine Exists.intro _ (Exists.intro _ (Exists.intro _ (Exists.intro _ (And.intro (c_fill (cw_wr hI.1 hw43) (by decide) (-1 : Int32)) (And.intro rfl (fun r9 A9 h9 => ?_))))))
        obtain ⟨rfl, rfl⟩ := h9
        rw [cw_swr hI.1 hw43]
        obtain ⟨f44, ef44⟩ : ∃ z9, z9 = va_up f2 (26 + (z4_3).toInt.toNat) (fun j => if j < 161 then (-1 : Int32) else f2 (26 + (z4_3).toInt.toNat) j) := ⟨_, rfl⟩
        rw [← ef44]
        have hs44 : cw_S v2 f44 := by rw [ef44]; exact cw_S_fr hs2 _ _ (by omega) (by omega)
        have k1 : (1 : Int32).toInt = 1 := rfl
        intro m45 em_20
        try have e45 : m45.toInt = (z4_3).toInt + (1) := by rw [em_20]; exact pm_addc _ _ (1) rfl (by omega) (by omega)
        exact ih4 m45 v2 f44 hs44 (by omega) (by omega)
  exact lp3 (200 - (0 : Int32).toInt).toNat.succ (0 : Int32) v f hs (by omega) (by omega)

set_option maxRecDepth 100000 in
set_option maxHeartbeats 2000000 in
theorem c_X3_shortestBestEnd (hI : cw_I K nn dn q w e) (hs : cw_S v f) {o1 : Nat} (ho1 : cw_ro K o1) (x3 : Int32) (x4 : Int32) (p0 : 0 ≤ x3.toInt ∧ x3.toInt ≤ 160) : pm_Mt l g 147 2 0 0 [.ref (q 8), .ref (q o1), .ref (q 2), .int x3, .int x4] (cw A0 g K nn dn q w e v f) (cw_Qs A0 g K nn dn q w e (fun r v2 f2 => ∃ x : Int32, r = some (.int x) ∧ (-1 ≤ x.toInt ∧ x.toInt ≤ 159))) := by
  refine mt_X3_shortestBestEnd rfl (fun J hC => ?_)
  have ro_nn : cw_ro K nn := hI.2.1.2.1
  have ro_dn : cw_ro K dn := hI.2.1.2.2.1
  have hu1 := hI.2.1
  unfold cw_W at hu1
  have rg_x3 := pm_rng x3
  have rg_x4 := pm_rng x4
  have zz0 := cw_sz hI ho1
  refine hC.1 0 0 _ _ rfl _ _ _ _ _ ?_
  refine And.intro (Exists.intro _ (cw_o2 hI.1)) (Exists.intro _ (Exists.intro _ (Exists.intro _ (Exists.intro _ (And.intro (c_X2_clear hI hs  ) (And.intro rfl (fun r9 A9 h9 => ?_)))))))
  rcases h9 with ⟨v3, f3, rfl, hs3, rfl, by2⟩
  have lp5 : ∀ (n : Nat) (z5_7 : Int32) (v4 : Nat → Int32) (f4 : Nat → Nat → Int32), cw_S v4 f4 → (0 ≤ z5_7.toInt ∧ z5_7.toInt ≤ 160) → 200 - z5_7.toInt < (n : Int) → J 7 [some (.ref (q 8)), some (.ref (q o1)), some (.ref (q 2)), some (.int x3), some (.int x4), some (.int z5_7), none] [] (cw A0 g K nn dn q w e v4 f4) 0 0 := by
    intro n
    induction n with
    | zero =>
      intro z5_7 v4 f4 hs4 j0_7 j1_7
      omega
    | succ n ih6 =>
      intro z5_7 v4 f4 hs4 j0_7 j1_7
      refine hC.1 1 7 _ _ rfl _ _ _ _ _ ?_
      refine Exists.intro _ (And.intro (cw_ro_o hI.1 ho1) ?_)
      have z7 := cw_sz hI ho1
      refine And.intro (fun c8 => ?_) (fun c8 => ?_)
      · skip
        refine hC.1 3 73 _ _ rfl _ _ _ _ _ ?_
        have km1 : (-1 : Int32).toInt = -1 := rfl
        exact ⟨rfl, fun e9 => absurd e9 (by decide), rfl, v4, f4, rfl, hs4, (-1 : Int32), rfl, by first | omega | (dsimp only; omega) | trivial⟩
      · skip
        refine Exists.intro _ (And.intro (cw_ro_o hI.1 ho1) ?_)
        refine Exists.intro _ (Exists.intro _ (And.intro (Or.inl (cw_ro_1 hI.1 ho1)) (And.intro (by omega) ?_)))
        have w9 := cw_col hI ho1 (z5_7).toInt.toNat
        refine And.intro (Exists.intro _ (cw_o2 hI.1)) (Exists.intro _ (Exists.intro _ (Exists.intro _ (Exists.intro _ (And.intro (c_X2_take hI hs4 (e (o1 + 1) (z5_7).toInt.toNat) (by omega)) (And.intro rfl (fun r9 A9 h9 => ?_)))))))
        rcases h9 with ⟨v11, f11, rfl, hs11, rfl, by10⟩
        have k1 : (1 : Int32).toInt = 1 := rfl
        intro m12 em_31
        try have e12 : m12.toInt = (x4).toInt - (1) := by rw [em_31]; exact pm_subc _ _ (1) rfl (by omega) (by omega)
        intro m13 em_35
        try have e13 : m13.toInt = (z5_7).toInt + (1) := by rw [em_35]; exact pm_addc _ _ (1) rfl (by omega) (by omega)
        refine And.intro (Exists.intro _ (cw_o8 hI.1)) (Exists.intro _ (Exists.intro _ (Exists.intro _ (Exists.intro _ (And.intro (c_X3_worthOf hI hs11 m12 m13 ) (And.intro rfl (fun r9 A9 h9 => ?_)))))))
        obtain ⟨y14, rfl, rfl, by14⟩ := h9
        have km1 : (-1 : Int32).toInt = -1 := rfl
        refine And.intro (fun c16 => ?_) (fun c16 => ?_)
        · skip
          have dc16 : (y14).toInt = ((-1 : Int32) : Int32).toInt := congrArg Int32.toInt c16
          refine hC.1 2 67 _ _ rfl _ _ _ _ _ ?_
          intro m17 em_67
          try have e17 : m17.toInt = (z5_7).toInt + (1) := by rw [em_67]; exact pm_addc _ _ (1) rfl (by omega) (by omega)
          exact hC.2 [false, false, false, false, false, false, true] _ _ _ _ _ _ (ih6 m17 v11 f11 hs11 (by omega) (by omega))
        · skip
          have dc16 := pm_neI c16
          refine Exists.intro _ (And.intro (cw_o2 hI.1) ?_)
          intro m18 em_53
          try have e18 : m18.toInt = ((v11 2)).toInt + (y14).toInt := by rw [em_53]; exact pm_add _ _ (by omega) (by omega)
          refine And.intro (Exists.intro _ (cw_o8 hI.1)) (Exists.intro _ (Exists.intro _ (Exists.intro _ (Exists.intro _ (And.intro (c_X3_worthOf hI hs11 x4 x3 ) (And.intro rfl (fun r9 A9 h9 => ?_)))))))
          obtain ⟨y19, rfl, rfl, by19⟩ := h9
          refine And.intro (fun c21 => ?_) (fun c21 => ?_)
          · skip
            have dc21 := pm_neI c21
            refine hC.1 2 67 _ _ rfl _ _ _ _ _ ?_
            intro m22 em_67
            try have e22 : m22.toInt = (z5_7).toInt + (1) := by rw [em_67]; exact pm_addc _ _ (1) rfl (by omega) (by omega)
            exact hC.2 [false, false, false, false, false, false, true] _ _ _ _ _ _ (ih6 m22 v11 f11 hs11 (by omega) (by omega))
          · skip
            have dc21 : (m18).toInt = (y19 : Int32).toInt := congrArg Int32.toInt c21
            exact ⟨rfl, fun e9 => absurd e9 (by decide), rfl, v11, f11, rfl, hs11, z5_7, rfl, by first | omega | (dsimp only; omega) | trivial⟩
  exact lp5 (200 - x3.toInt).toNat.succ x3 v3 f3 hs3 (by omega) (by omega)

set_option maxRecDepth 100000 in
set_option maxHeartbeats 2000000 in
theorem c_X3_lastPlaceOf (hI : cw_I K nn dn q w e) (hs : cw_S v f) {o1 : Nat} (ho1 : cw_ro K o1) (x3 : Int32) (x4 : Int32) (p0 : 0 ≤ x4.toInt ∧ x4.toInt ≤ 8) : pm_Mt l g 146 3 0 0 [.ref (q 8), .ref (q o1), .ref (q 2), .int x3, .int x4] (cw A0 g K nn dn q w e v f) (cw_Qs A0 g K nn dn q w e (fun r v2 f2 => ∃ x : Int32, r = some (.int x) ∧ (True))) := by
  refine mt_X3_lastPlaceOf rfl (fun J hC => ?_)
  have ro_nn : cw_ro K nn := hI.2.1.2.1
  have ro_dn : cw_ro K dn := hI.2.1.2.2.1
  have hu1 := hI.2.1
  unfold cw_W at hu1
  have rg_x3 := pm_rng x3
  have rg_x4 := pm_rng x4
  refine hC.1 0 0 _ _ rfl _ _ _ _ _ ?_
  have km1 : (-1 : Int32).toInt = -1 := rfl
  have k0 : (0 : Int32).toInt = 0 := rfl
  have lp3 : ∀ (n : Nat) (z5_6 : Int32) (z6_6 : Int32) (v2 : Nat → Int32) (f2 : Nat → Nat → Int32), cw_S v2 f2 → (-1 ≤ z5_6.toInt ∧ z5_6.toInt ≤ 159) → (0 ≤ z6_6.toInt ∧ z6_6.toInt ≤ 9) → 200 - z6_6.toInt < (n : Int) → J 6 [some (.ref (q 8)), some (.ref (q o1)), some (.ref (q 2)), some (.int x3), some (.int x4), some (.int z5_6), some (.int z6_6)] [] (cw A0 g K nn dn q w e v2 f2) 0 0 := by
    intro n
    induction n with
    | zero =>
      intro z5_6 z6_6 v2 f2 hs2 j0_6 j1_6 j2_6
      omega
    | succ n ih4 =>
      intro z5_6 z6_6 v2 f2 hs2 j0_6 j1_6 j2_6
      refine hC.1 1 6 _ _ rfl _ _ _ _ _ ?_
      refine And.intro (fun c5 => ?_) (fun c5 => ?_)
      · skip
        refine hC.1 2 35 _ _ rfl _ _ _ _ _ ?_
        exact ⟨rfl, fun e9 => absurd e9 (by decide), rfl, v2, f2, rfl, hs2, z5_6, rfl, by exact True.intro⟩
      · skip
        have k1 : (1 : Int32).toInt = 1 := rfl
        intro m6 em_19
        try have e6 : m6.toInt = (z5_6).toInt + (1) := by rw [em_19]; exact pm_addc _ _ (1) rfl (by omega) (by omega)
        intro m7 em_23
        try have e7 : m7.toInt = (x3).toInt - (z6_6).toInt := by rw [em_23]; exact pm_sub _ _ (by omega) (by omega)
        refine And.intro (Exists.intro _ (cw_o8 hI.1)) (Exists.intro _ (Exists.intro _ (Exists.intro _ (Exists.intro _ (And.intro (c_X3_shortestBestEnd hI hs2 ho1 m6 m7 (by omega)) (And.intro rfl (fun r9 A9 h9 => ?_)))))))
        rcases h9 with ⟨v9, f9, rfl, hs9, y8, rfl, by8⟩
        intro m10 em_29
        try have e10 : m10.toInt = (z6_6).toInt + (1) := by rw [em_29]; exact pm_addc _ _ (1) rfl (by omega) (by omega)
        exact ih4 y8 m10 v9 f9 hs9 (by omega) (by omega) (by omega)
  exact lp3 (200 - (0 : Int32).toInt).toNat.succ (-1 : Int32) (0 : Int32) v f hs (by omega) (by omega) (by omega)

set_option maxRecDepth 100000 in
set_option maxHeartbeats 2000000 in
theorem c_X3_greedy (hI : cw_I K nn dn q w e) (hs : cw_S v f) {o1 : Nat} (ho1 : cw_ro K o1) (x3 : Int32) (x4 : Int32)  : pm_Mt l g 142 2 0 0 [.ref (q 8), .ref (q o1), .ref (q 2), .int x3, .int x4] (cw A0 g K nn dn q w e v f) (cw_Qs A0 g K nn dn q w e (fun r v2 f2 => ∃ x : Int32, r = some (.int x) ∧ (True))) := by
  refine mt_X3_greedy rfl (fun J hC => ?_)
  have ro_nn : cw_ro K nn := hI.2.1.2.1
  have ro_dn : cw_ro K dn := hI.2.1.2.2.1
  have hu1 := hI.2.1
  unfold cw_W at hu1
  have rg_x3 := pm_rng x3
  have rg_x4 := pm_rng x4
  have zz0 := cw_sz hI ho1
  refine hC.1 0 0 _ _ rfl _ _ _ _ _ ?_
  refine And.intro (Exists.intro _ (cw_o2 hI.1)) (Exists.intro _ (Exists.intro _ (Exists.intro _ (Exists.intro _ (And.intro (c_X2_clear hI hs  ) (And.intro rfl (fun r9 A9 h9 => ?_)))))))
  rcases h9 with ⟨v3, f3, rfl, hs3, rfl, by2⟩
  have k0 : (0 : Int32).toInt = 0 := rfl
  have lp5 : ∀ (n : Nat) (z5_10 : Int32) (z6_10 : Int32) (v4 : Nat → Int32) (f4 : Nat → Nat → Int32), cw_S v4 f4 → (0 ≤ z6_10.toInt ∧ z6_10.toInt ≤ 160) → 200 - z6_10.toInt < (n : Int) → J 10 [some (.ref (q 8)), some (.ref (q o1)), some (.ref (q 2)), some (.int x3), some (.int x4), some (.int z5_10), some (.int z6_10)] [] (cw A0 g K nn dn q w e v4 f4) 0 0 := by
    intro n
    induction n with
    | zero =>
      intro z5_10 z6_10 v4 f4 hs4 j0_10 j1_10
      omega
    | succ n ih6 =>
      intro z5_10 z6_10 v4 f4 hs4 j0_10 j1_10
      refine hC.1 1 10 _ _ rfl _ _ _ _ _ ?_
      refine Exists.intro _ (And.intro (cw_ro_o hI.1 ho1) ?_)
      have z7 := cw_sz hI ho1
      refine And.intro (fun c8 => ?_) (fun c8 => ?_)
      · skip
        refine hC.1 4 74 _ _ rfl _ _ _ _ _ ?_
        have km1 : (-1 : Int32).toInt = -1 := rfl
        refine And.intro (fun c9 => ?_) (fun c9 => ?_)
        · skip
          have dc9 := pm_neI c9
          refine hC.1 7 96 _ _ rfl _ _ _ _ _ ?_
          refine And.intro (fun c10 => ?_) (fun c10 => ?_)
          · skip
            have dc10 := pm_neI c10
            refine hC.1 8 112 _ _ rfl _ _ _ _ _ ?_
            refine hC.1 9 113 _ _ rfl _ _ _ _ _ ?_
            exact ⟨rfl, fun e9 => absurd e9 (by decide), rfl, v4, f4, rfl, hs4, (-1 : Int32), rfl, by exact True.intro⟩
          · skip
            have dc10 : (z5_10).toInt = (x4 : Int32).toInt := congrArg Int32.toInt c10
            refine Exists.intro _ (And.intro (cw_ro_o hI.1 ho1) ?_)
            have z11 := cw_sz hI ho1
            have k1 : (1 : Int32).toInt = 1 := rfl
            intro m12 em_108
            try have e12 : m12.toInt = ((w o1)).toInt - (1) := by rw [em_108]; exact pm_subc _ _ (1) rfl (by omega) (by omega)
            refine hC.1 9 113 _ _ rfl _ _ _ _ _ ?_
            exact ⟨rfl, fun e9 => absurd e9 (by decide), rfl, v4, f4, rfl, hs4, m12, rfl, by exact True.intro⟩
        · skip
          have dc9 : (x4).toInt = ((-1 : Int32) : Int32).toInt := congrArg Int32.toInt c9
          refine Exists.intro _ (And.intro (cw_ro_o hI.1 ho1) ?_)
          have z13 := cw_sz hI ho1
          refine And.intro (fun c14 => ?_) (fun c14 => ?_)
          · skip
            have dc14 := pm_neI c14
            refine hC.1 5 91 _ _ rfl _ _ _ _ _ ?_
            have k1 : (1 : Int32).toInt = 1 := rfl
            intro m15 em_94
            try have e15 : m15.toInt = (z5_10).toInt + (1) := by rw [em_94]; exact pm_addc _ _ (1) rfl (by omega) (by omega)
            refine hC.1 6 95 _ _ rfl _ _ _ _ _ ?_
            exact ⟨rfl, fun e9 => absurd e9 (by decide), rfl, v4, f4, rfl, hs4, m15, rfl, by exact True.intro⟩
          · skip
            have dc14 : ((w o1)).toInt = (0 : Int32).toInt := congrArg Int32.toInt c14
            refine hC.1 6 95 _ _ rfl _ _ _ _ _ ?_
            exact ⟨rfl, fun e9 => absurd e9 (by decide), rfl, v4, f4, rfl, hs4, (0 : Int32), rfl, by exact True.intro⟩
      · skip
        refine Exists.intro _ (And.intro (cw_ro_o hI.1 ho1) ?_)
        refine Exists.intro _ (Exists.intro _ (And.intro (Or.inl (cw_ro_1 hI.1 ho1)) (And.intro (by omega) ?_)))
        have w16 := cw_col hI ho1 (z6_10).toInt.toNat
        refine And.intro (Exists.intro _ (cw_o2 hI.1)) (Exists.intro _ (Exists.intro _ (Exists.intro _ (Exists.intro _ (And.intro (c_X2_take hI hs4 (e (o1 + 1) (z6_10).toInt.toNat) (by omega)) (And.intro rfl (fun r9 A9 h9 => ?_)))))))
        rcases h9 with ⟨v18, f18, rfl, hs18, rfl, by17⟩
        refine Exists.intro _ (And.intro (cw_o2 hI.1) ?_)
        refine And.intro (fun c19 => ?_) (fun c19 => ?_)
        · skip
          refine hC.1 3 68 _ _ rfl _ _ _ _ _ ?_
          have k1 : (1 : Int32).toInt = 1 := rfl
          intro m20 em_68
          try have e20 : m20.toInt = (z6_10).toInt + (1) := by rw [em_68]; exact pm_addc _ _ (1) rfl (by omega) (by omega)
          exact ih6 z5_10 m20 v18 f18 hs18 (by omega) (by omega)
        · skip
          refine And.intro (fun c21 => ?_) (fun c21 => ?_)
          · skip
            have dc21 := pm_neI c21
            refine hC.1 2 50 _ _ rfl _ _ _ _ _ ?_
            have k1 : (1 : Int32).toInt = 1 := rfl
            intro m22 em_50
            try have e22 : m22.toInt = (z5_10).toInt + (1) := by rw [em_50]; exact pm_addc _ _ (1) rfl (by omega) (by omega)
            refine And.intro (Exists.intro _ (cw_o2 hI.1)) (Exists.intro _ (Exists.intro _ (Exists.intro _ (Exists.intro _ (And.intro (c_X2_clear hI hs18  ) (And.intro rfl (fun r9 A9 h9 => ?_)))))))
            rcases h9 with ⟨v24, f24, rfl, hs24, rfl, by23⟩
            refine Exists.intro _ (And.intro (cw_ro_o hI.1 ho1) ?_)
            refine Exists.intro _ (Exists.intro _ (And.intro (Or.inl (cw_ro_1 hI.1 ho1)) (And.intro (by omega) ?_)))
            have w25 := cw_col hI ho1 (z6_10).toInt.toNat
            refine And.intro (Exists.intro _ (cw_o2 hI.1)) (Exists.intro _ (Exists.intro _ (Exists.intro _ (Exists.intro _ (And.intro (c_X2_take hI hs24 (e (o1 + 1) (z6_10).toInt.toNat) (by omega)) (And.intro rfl (fun r9 A9 h9 => ?_)))))))
            rcases h9 with ⟨v27, f27, rfl, hs27, rfl, by26⟩
            refine hC.1 3 68 _ _ rfl _ _ _ _ _ ?_
            intro m28 em_68
            try have e28 : m28.toInt = (z6_10).toInt + (1) := by rw [em_68]; exact pm_addc _ _ (1) rfl (by omega) (by omega)
            exact ih6 m22 m28 v27 f27 hs27 (by omega) (by omega)
          · skip
            have dc21 : (z5_10).toInt = (x4 : Int32).toInt := congrArg Int32.toInt c21
            have k1 : (1 : Int32).toInt = 1 := rfl
            intro m29 em_48
            try have e29 : m29.toInt = (z6_10).toInt - (1) := by rw [em_48]; exact pm_subc _ _ (1) rfl (by omega) (by omega)
            exact ⟨rfl, fun e9 => absurd e9 (by decide), rfl, v18, f18, rfl, hs18, m29, rfl, by exact True.intro⟩
  exact lp5 (200 - (0 : Int32).toInt).toNat.succ (0 : Int32) (0 : Int32) v3 f3 hs3 (by omega) (by omega)

end
end
section
section
variable {l : Launch} {g : pm_G} {A0 : pm_H} {K nn dn : Nat} {q : Nat → Nat} {w : Nat → Int32} {e : Nat → Nat → Int32} {v : Nat → Int32} {f : Nat → Nat → Int32}
set_option maxRecDepth 100000 in
set_option maxHeartbeats 2000000 in
theorem c_X10_at (hI : cw_I K nn dn q w e) (hs : cw_S v f) (x1 : Int32) (x2 : Int32)  : pm_Mt l g 42 4 0 0 [.ref (q 0), .int x1, .int x2] (cw A0 g K nn dn q w e v f) (md_Qp (cw A0 g K nn dn q w e v f) (fun r => True)) := by
  refine mt_X10_at rfl (fun J hC => ?_)
  have ro_nn : cw_ro K nn := hI.2.1.2.1
  have ro_dn : cw_ro K dn := hI.2.1.2.2.1
  have hu1 := hI.2.1
  unfold cw_W at hu1
  have rg_x1 := pm_rng x1
  have rg_x2 := pm_rng x2
  have zz0 := cw_sz hI ro_nn
  refine hC.1 0 0 _ _ rfl _ _ _ _ _ ?_
  refine Exists.intro _ (And.intro (cw_o0 hI.1) ?_)
  refine Exists.intro _ (And.intro (cw_o1 hI.1) ?_)
  have k3 : (3 : Int32).toInt = 3 := rfl
  refine And.intro (fun c2 => ?_) (fun c2 => ?_)
  · skip
    have dc2 := pm_neI c2
    refine hC.1 1 25 _ _ rfl _ _ _ _ _ ?_
    refine And.intro (Exists.intro _ (cw_ro_o hI.1 ro_nn)) (Exists.intro _ (Exists.intro _ (Exists.intro _ (Exists.intro _ (And.intro (c_X7_tell hI hs ro_nn x1 x2 ) (And.intro rfl (fun r9 A9 h9 => ?_)))))))
    obtain ⟨y3, rfl, rfl, by3⟩ := h9
    refine hC.1 2 31 _ _ rfl _ _ _ _ _ ?_
    exact ⟨rfl, fun e9 => absurd e9 (by decide), rfl, y3, rfl, rfl, by exact True.intro⟩
  · skip
    have dc2 : (x2).toInt = ((3 : Int32) : Int32).toInt := congrArg Int32.toInt c2
    refine And.intro (Exists.intro _ (cw_ro_o hI.1 ro_nn)) (Exists.intro _ (Exists.intro _ (Exists.intro _ (Exists.intro _ (And.intro (c_X7_nextAlike hI hs ro_nn x1 ) (And.intro rfl (fun r9 A9 h9 => ?_)))))))
    obtain ⟨y5, rfl, rfl, by5⟩ := h9
    refine And.intro (Exists.intro _ (cw_ro_o hI.1 ro_nn)) (Exists.intro _ (Exists.intro _ (Exists.intro _ (Exists.intro _ (And.intro (c_X7_nameAt hI hs ro_nn y5 ) (And.intro rfl (fun r9 A9 h9 => ?_)))))))
    obtain ⟨y7, rfl, rfl, by7⟩ := h9
    refine hC.1 2 31 _ _ rfl _ _ _ _ _ ?_
    exact ⟨rfl, fun e9 => absurd e9 (by decide), rfl, y7, rfl, rfl, by exact True.intro⟩

set_option maxRecDepth 100000 in
set_option maxHeartbeats 2000000 in
theorem c_X10_colour (hI : cw_I K nn dn q w e) (hs : cw_S v f) (x1 : Int32) (x2 : Int32)  : pm_Mt l g 47 2 0 0 [.ref (q 0), .int x1, .int x2] (cw A0 g K nn dn q w e v f) (md_Qp (cw A0 g K nn dn q w e v f) (fun r => True)) := by
  refine mt_X10_colour rfl (fun J hC => ?_)
  have ro_nn : cw_ro K nn := hI.2.1.2.1
  have ro_dn : cw_ro K dn := hI.2.1.2.2.1
  have hu1 := hI.2.1
  unfold cw_W at hu1
  have rg_x1 := pm_rng x1
  have rg_x2 := pm_rng x2
  have zz0 := cw_sz hI ro_nn
  refine hC.1 0 0 _ _ rfl _ _ _ _ _ ?_
  refine Exists.intro _ (Exists.intro _ (Exists.intro _ (Exists.intro _ (And.intro (c_X10_isColour (cw A0 g K nn dn q w e v f) x1 ) (And.intro rfl (fun r9 A9 h9 => ?_))))))
  rcases h9 with ⟨y2, rfl, rfl, ⟨rfl, by2⟩ | ⟨rfl, by2⟩⟩
  · skip
    have k1 : (1 : Int32).toInt = 1 := rfl
    refine And.intro (fun _ => ?_) (fun c9 => absurd c9 (by decide))
    refine hC.1 1 9 _ _ rfl _ _ _ _ _ ?_
    refine Exists.intro _ (And.intro (cw_o0 hI.1) ?_)
    refine Exists.intro _ (And.intro (cw_o1 hI.1) ?_)
    refine pm_swc 5 rfl (by decide) ?_ ?_
    · intro _
      refine hC.1 7 94 _ _ rfl _ _ _ _ _ ?_
      have km1 : (-1 : Int32).toInt = -1 := rfl
      exact ⟨rfl, fun e9 => absurd e9 (by decide), rfl, (-1 : Int32), rfl, rfl, by exact True.intro⟩
    · intro i9 hi9 he9
      rcases (show i9 = 0 ∨ i9 = 1 ∨ i9 = 2 ∨ i9 = 3 ∨ i9 = 4 by omega) with rfl | rfl | rfl | rfl | rfl
      · skip
        refine hC.1 2 52 _ _ rfl _ _ _ _ _ ?_
        refine And.intro (Exists.intro _ (cw_ro_o hI.1 ro_nn)) (Exists.intro _ (Exists.intro _ (Exists.intro _ (Exists.intro _ (And.intro (c_X7_howMany hI hs ro_nn x1 ) (And.intro rfl (fun r9 A9 h9 => ?_)))))))
        obtain ⟨y6, rfl, rfl, by6⟩ := h9
        exact ⟨rfl, fun e9 => absurd e9 (by decide), rfl, y6, rfl, rfl, by exact True.intro⟩
      · skip
        refine hC.1 3 58 _ _ rfl _ _ _ _ _ ?_
        refine Exists.intro _ (And.intro (cw_o0 hI.1) ?_)
        refine Exists.intro _ (And.intro (cw_o2 hI.1) ?_)
        refine Exists.intro _ (Exists.intro _ (And.intro (Or.inl (cw_a15 hI.1)) (And.intro (by omega) ?_)))
        exact ⟨rfl, fun e9 => absurd e9 (by decide), rfl, (e 15 (x1).toInt.toNat), rfl, rfl, by exact True.intro⟩
      · skip
        refine hC.1 4 68 _ _ rfl _ _ _ _ _ ?_
        have k0 : (0 : Int32).toInt = 0 := rfl
        refine And.intro (Exists.intro _ (cw_ro_o hI.1 ro_nn)) (Exists.intro _ (Exists.intro _ (Exists.intro _ (Exists.intro _ (And.intro (c_X7_placeOfNth hI hs ro_nn x1 (0 : Int32) ) (And.intro rfl (fun r9 A9 h9 => ?_)))))))
        obtain ⟨y8, rfl, rfl, by8⟩ := h9
        exact ⟨rfl, fun e9 => absurd e9 (by decide), rfl, y8, rfl, rfl, by exact True.intro⟩
      · skip
        refine hC.1 5 75 _ _ rfl _ _ _ _ _ ?_
        refine And.intro (Exists.intro _ (cw_ro_o hI.1 ro_nn)) (Exists.intro _ (Exists.intro _ (Exists.intro _ (Exists.intro _ (And.intro (c_X7_howMany hI hs ro_nn x1 ) (And.intro rfl (fun r9 A9 h9 => ?_)))))))
        obtain ⟨y10, rfl, rfl, by10⟩ := h9
        intro m12 em_83
        try have e12 : m12.toInt = (y10).toInt - (1) := by rw [em_83]; exact pm_subc _ _ (1) rfl (by omega) (by omega)
        refine And.intro (Exists.intro _ (cw_ro_o hI.1 ro_nn)) (Exists.intro _ (Exists.intro _ (Exists.intro _ (Exists.intro _ (And.intro (c_X7_placeOfNth hI hs ro_nn x1 m12 ) (And.intro rfl (fun r9 A9 h9 => ?_)))))))
        obtain ⟨y13, rfl, rfl, by13⟩ := h9
        exact ⟨rfl, fun e9 => absurd e9 (by decide), rfl, y13, rfl, rfl, by exact True.intro⟩
      · skip
        refine hC.1 6 88 _ _ rfl _ _ _ _ _ ?_
        refine And.intro (Exists.intro _ (cw_ro_o hI.1 ro_nn)) (Exists.intro _ (Exists.intro _ (Exists.intro _ (Exists.intro _ (And.intro (c_X7_widestGap hI hs ro_nn x1 ) (And.intro rfl (fun r9 A9 h9 => ?_)))))))
        obtain ⟨y15, rfl, rfl, by15⟩ := h9
        exact ⟨rfl, fun e9 => absurd e9 (by decide), rfl, y15, rfl, rfl, by exact True.intro⟩
  · skip
    have k0 : (0 : Int32).toInt = 0 := rfl
    refine And.intro (fun c9 => absurd c9 (by decide)) (fun _ => ?_)
    have km1 : (-1 : Int32).toInt = -1 := rfl
    exact ⟨rfl, fun e9 => absurd e9 (by decide), rfl, (-1 : Int32), rfl, rfl, by exact True.intro⟩

set_option maxRecDepth 100000 in
set_option maxHeartbeats 2000000 in
theorem c_X10_colourNumber (hI : cw_I K nn dn q w e) (hs : cw_S v f) {o1 : Nat} (ho1 : cw_ro K o1) (x2 : Int32) (x3 : Int32)  : pm_Mt l g 54 3 0 0 [.ref (q 0), .ref (q o1), .int x2, .int x3] (cw A0 g K nn dn q w e v f) (cw_Qs A0 g K nn dn q w e (fun r v2 f2 => ∃ x : Int32, r = some (.int x) ∧ (True))) := by
  refine mt_X10_colourNumber rfl (fun J hC => ?_)
  have ro_nn : cw_ro K nn := hI.2.1.2.1
  have ro_dn : cw_ro K dn := hI.2.1.2.2.1
  have hu1 := hI.2.1
  unfold cw_W at hu1
  have rg_x2 := pm_rng x2
  have rg_x3 := pm_rng x3
  refine hC.1 0 0 _ _ rfl _ _ _ _ _ ?_
  refine Exists.intro _ (And.intro (cw_o0 hI.1) ?_)
  refine And.intro (Exists.intro _ (cw_o2 hI.1)) (Exists.intro _ (Exists.intro _ (Exists.intro _ (Exists.intro _ (And.intro (c_X2_read hI hs ho1 x2 x3 ) (And.intro rfl (fun r9 A9 h9 => ?_)))))))
  rcases h9 with ⟨v3, f3, rfl, hs3, rfl, by2⟩
  refine Exists.intro _ (And.intro (cw_o0 hI.1) ?_)
  refine Exists.intro _ (And.intro (cw_o2 hI.1) ?_)
  exact ⟨rfl, fun e9 => absurd e9 (by decide), rfl, v3, f3, rfl, hs3, (v3 2), rfl, by exact True.intro⟩

set_option maxRecDepth 100000 in
set_option maxHeartbeats 2000000 in
theorem c_X10_readSpan (hI : cw_I K nn dn q w e) (hs : cw_S v f) (x1 : Int32) (x2 : Int32)  : pm_Mt l g 59 3 0 0 [.ref (q 0), .int x1, .int x2] (cw A0 g K nn dn q w e v f) (cw_Qs A0 g K nn dn q w e (fun r v2 f2 => (r = some (.int 1) ∧ (0 ≤ x1.toInt ∧ x1.toInt ≤ x2.toInt ∧ x2.toInt < (w nn).toInt)) ∨ (r = some (.int 0) ∧ (¬ (0 ≤ x1.toInt ∧ x1.toInt ≤ x2.toInt ∧ x2.toInt < (w nn).toInt))))) := by
  refine mt_X10_readSpan rfl (fun J hC => ?_)
  have ro_nn : cw_ro K nn := hI.2.1.2.1
  have ro_dn : cw_ro K dn := hI.2.1.2.2.1
  have hu1 := hI.2.1
  unfold cw_W at hu1
  have rg_x1 := pm_rng x1
  have rg_x2 := pm_rng x2
  have zz0 := cw_sz hI ro_nn
  refine hC.1 0 0 _ _ rfl _ _ _ _ _ ?_
  refine Exists.intro _ (And.intro (cw_o0 hI.1) ?_)
  refine Exists.intro _ (And.intro (cw_o1 hI.1) ?_)
  refine And.intro (Exists.intro _ (cw_ro_o hI.1 ro_nn)) (Exists.intro _ (Exists.intro _ (Exists.intro _ (Exists.intro _ (And.intro (c_X7_isSpan hI hs ro_nn x1 x2 ) (And.intro rfl (fun r9 A9 h9 => ?_)))))))
  rcases h9 with ⟨y2, rfl, rfl, ⟨rfl, by2⟩ | ⟨rfl, by2⟩⟩
  · skip
    have k1 : (1 : Int32).toInt = 1 := rfl
    refine And.intro (fun _ => ?_) (fun c9 => absurd c9 (by decide))
    refine hC.1 1 17 _ _ rfl _ _ _ _ _ ?_
    refine Exists.intro _ (And.intro (cw_o0 hI.1) ?_)
    refine Exists.intro _ (And.intro (cw_o0 hI.1) ?_)
    refine Exists.intro _ (And.intro (cw_o1 hI.1) ?_)
    refine And.intro (Exists.intro _ (cw_o2 hI.1)) (Exists.intro _ (Exists.intro _ (Exists.intro _ (Exists.intro _ (And.intro (c_X2_read hI hs ro_nn x1 x2 ) (And.intro rfl (fun r9 A9 h9 => ?_)))))))
    rcases h9 with ⟨v5, f5, rfl, hs5, rfl, by4⟩
    exact ⟨rfl, fun _ => (by decide), rfl, v5, f5, rfl, hs5, Or.inl ⟨rfl, by first | omega | (dsimp only; omega) | trivial⟩⟩
  · skip
    have k0 : (0 : Int32).toInt = 0 := rfl
    refine And.intro (fun c9 => absurd c9 (by decide)) (fun _ => ?_)
    exact ⟨rfl, fun _ => (by decide), rfl, v, f, rfl, hs, Or.inr ⟨rfl, by first | omega | (dsimp only; omega) | trivial⟩⟩

set_option maxRecDepth 100000 in
set_option maxHeartbeats 2000000 in
theorem c_X10_count (hI : cw_I K nn dn q w e) (hs : cw_S v f) (x1 : Int32) (x2 : Int32)  : pm_Mt l g 58 4 0 0 [.ref (q 0), .int x1, .int x2] (cw A0 g K nn dn q w e v f) (cw_Qs A0 g K nn dn q w e (fun r v2 f2 => ∃ x : Int32, r = some (.int x) ∧ (True))) := by
  refine mt_X10_count rfl (fun J hC => ?_)
  have ro_nn : cw_ro K nn := hI.2.1.2.1
  have ro_dn : cw_ro K dn := hI.2.1.2.2.1
  have hu1 := hI.2.1
  unfold cw_W at hu1
  have rg_x1 := pm_rng x1
  have rg_x2 := pm_rng x2
  have zz0 := cw_sz hI ro_nn
  refine hC.1 0 0 _ _ rfl _ _ _ _ _ ?_
  refine And.intro (Exists.intro _ (cw_o0 hI.1)) (Exists.intro _ (Exists.intro _ (Exists.intro _ (Exists.intro _ (And.intro (c_X10_readSpan hI hs x1 x2 ) (And.intro rfl (fun r9 A9 h9 => ?_)))))))
  rcases h9 with ⟨v3, f3, rfl, hs3, hzy2⟩
  rcases hzy2 with ⟨rfl, by2⟩ | ⟨rfl, by2⟩
  · skip
    have k1 : (1 : Int32).toInt = 1 := rfl
    refine And.intro (fun c9 => absurd c9 (by decide)) (fun _ => ?_)
    refine Exists.intro _ (And.intro (cw_o0 hI.1) ?_)
    refine Exists.intro _ (And.intro (cw_o2 hI.1) ?_)
    refine hC.1 2 20 _ _ rfl _ _ _ _ _ ?_
    exact ⟨rfl, fun e9 => absurd e9 (by decide), rfl, v3, f3, rfl, hs3, (v3 2), rfl, by exact True.intro⟩
  · skip
    have k0 : (0 : Int32).toInt = 0 := rfl
    refine And.intro (fun _ => ?_) (fun c9 => absurd c9 (by decide))
    refine hC.1 1 19 _ _ rfl _ _ _ _ _ ?_
    have km1 : (-1 : Int32).toInt = -1 := rfl
    refine hC.1 2 20 _ _ rfl _ _ _ _ _ ?_
    exact ⟨rfl, fun e9 => absurd e9 (by decide), rfl, v3, f3, rfl, hs3, (-1 : Int32), rfl, by exact True.intro⟩

set_option maxRecDepth 100000 in
set_option maxHeartbeats 2000000 in
theorem c_X10_weight (hI : cw_I K nn dn q w e) (hs : cw_S v f) (x1 : Int32) (x2 : Int32)  : pm_Mt l g 60 4 0 0 [.ref (q 0), .int x1, .int x2] (cw A0 g K nn dn q w e v f) (cw_Qs A0 g K nn dn q w e (fun r v2 f2 => ∃ x : Int32, r = some (.int x) ∧ (True))) := by
  refine mt_X10_weight rfl (fun J hC => ?_)
  have ro_nn : cw_ro K nn := hI.2.1.2.1
  have ro_dn : cw_ro K dn := hI.2.1.2.2.1
  have hu1 := hI.2.1
  unfold cw_W at hu1
  have rg_x1 := pm_rng x1
  have rg_x2 := pm_rng x2
  have zz0 := cw_sz hI ro_nn
  refine hC.1 0 0 _ _ rfl _ _ _ _ _ ?_
  refine And.intro (Exists.intro _ (cw_o0 hI.1)) (Exists.intro _ (Exists.intro _ (Exists.intro _ (Exists.intro _ (And.intro (c_X10_readSpan hI hs x1 x2 ) (And.intro rfl (fun r9 A9 h9 => ?_)))))))
  rcases h9 with ⟨v3, f3, rfl, hs3, hzy2⟩
  rcases hzy2 with ⟨rfl, by2⟩ | ⟨rfl, by2⟩
  · skip
    have k1 : (1 : Int32).toInt = 1 := rfl
    refine And.intro (fun c9 => absurd c9 (by decide)) (fun _ => ?_)
    refine Exists.intro _ (And.intro (cw_o0 hI.1) ?_)
    refine Exists.intro _ (And.intro (cw_o2 hI.1) ?_)
    refine hC.1 2 20 _ _ rfl _ _ _ _ _ ?_
    exact ⟨rfl, fun e9 => absurd e9 (by decide), rfl, v3, f3, rfl, hs3, (v3 4), rfl, by exact True.intro⟩
  · skip
    have k0 : (0 : Int32).toInt = 0 := rfl
    refine And.intro (fun _ => ?_) (fun c9 => absurd c9 (by decide))
    refine hC.1 1 19 _ _ rfl _ _ _ _ _ ?_
    have km1 : (-1 : Int32).toInt = -1 := rfl
    refine hC.1 2 20 _ _ rfl _ _ _ _ _ ?_
    exact ⟨rfl, fun e9 => absurd e9 (by decide), rfl, v3, f3, rfl, hs3, (-1 : Int32), rfl, by exact True.intro⟩

set_option maxRecDepth 100000 in
set_option maxHeartbeats 2000000 in
theorem c_X10_set (hI : cw_I K nn dn q w e) (hs : cw_S v f) (x1 : Int32) (x2 : Int32)  : pm_Mt l g 61 4 0 0 [.ref (q 0), .int x1, .int x2] (cw A0 g K nn dn q w e v f) (cw_Qs A0 g K nn dn q w e (fun r v2 f2 => ∃ x : Int32, r = some (.int x) ∧ (True))) := by
  refine mt_X10_set rfl (fun J hC => ?_)
  have ro_nn : cw_ro K nn := hI.2.1.2.1
  have ro_dn : cw_ro K dn := hI.2.1.2.2.1
  have hu1 := hI.2.1
  unfold cw_W at hu1
  have rg_x1 := pm_rng x1
  have rg_x2 := pm_rng x2
  have zz0 := cw_sz hI ro_nn
  refine hC.1 0 0 _ _ rfl _ _ _ _ _ ?_
  refine And.intro (Exists.intro _ (cw_o0 hI.1)) (Exists.intro _ (Exists.intro _ (Exists.intro _ (Exists.intro _ (And.intro (c_X10_readSpan hI hs x1 x2 ) (And.intro rfl (fun r9 A9 h9 => ?_)))))))
  rcases h9 with ⟨v3, f3, rfl, hs3, hzy2⟩
  rcases hzy2 with ⟨rfl, by2⟩ | ⟨rfl, by2⟩
  · skip
    have k1 : (1 : Int32).toInt = 1 := rfl
    refine And.intro (fun c9 => absurd c9 (by decide)) (fun _ => ?_)
    refine Exists.intro _ (And.intro (cw_o0 hI.1) ?_)
    refine Exists.intro _ (And.intro (cw_o2 hI.1) ?_)
    refine hC.1 2 20 _ _ rfl _ _ _ _ _ ?_
    exact ⟨rfl, fun e9 => absurd e9 (by decide), rfl, v3, f3, rfl, hs3, (v3 3), rfl, by exact True.intro⟩
  · skip
    have k0 : (0 : Int32).toInt = 0 := rfl
    refine And.intro (fun _ => ?_) (fun c9 => absurd c9 (by decide))
    refine hC.1 1 19 _ _ rfl _ _ _ _ _ ?_
    have km1 : (-1 : Int32).toInt = -1 := rfl
    refine hC.1 2 20 _ _ rfl _ _ _ _ _ ?_
    exact ⟨rfl, fun e9 => absurd e9 (by decide), rfl, v3, f3, rfl, hs3, (-1 : Int32), rfl, by exact True.intro⟩

set_option maxRecDepth 100000 in
set_option maxHeartbeats 2000000 in
theorem c_X10_times (hI : cw_I K nn dn q w e) (hs : cw_S v f) (x1 : Int32) (x2 : Int32) (x3 : Int32)  : pm_Mt l g 62 4 0 0 [.ref (q 0), .int x1, .int x2, .int x3] (cw A0 g K nn dn q w e v f) (cw_Qs A0 g K nn dn q w e (fun r v2 f2 => ∃ x : Int32, r = some (.int x) ∧ (True))) := by
  refine mt_X10_times rfl (fun J hC => ?_)
  have ro_nn : cw_ro K nn := hI.2.1.2.1
  have ro_dn : cw_ro K dn := hI.2.1.2.2.1
  have hu1 := hI.2.1
  unfold cw_W at hu1
  have rg_x1 := pm_rng x1
  have rg_x2 := pm_rng x2
  have rg_x3 := pm_rng x3
  have zz0 := cw_sz hI ro_nn
  refine hC.1 0 0 _ _ rfl _ _ _ _ _ ?_
  refine Exists.intro _ (Exists.intro _ (Exists.intro _ (Exists.intro _ (And.intro (c_X10_isColour (cw A0 g K nn dn q w e v f) x3 ) (And.intro rfl (fun r9 A9 h9 => ?_))))))
  rcases h9 with ⟨y2, rfl, rfl, ⟨rfl, by2⟩ | ⟨rfl, by2⟩⟩
  · skip
    have k1 : (1 : Int32).toInt = 1 := rfl
    refine And.intro (fun c9 => absurd c9 (by decide)) (fun _ => ?_)
    refine And.intro (Exists.intro _ (cw_o0 hI.1)) (Exists.intro _ (Exists.intro _ (Exists.intro _ (Exists.intro _ (And.intro (c_X10_readSpan hI hs x1 x2 ) (And.intro rfl (fun r9 A9 h9 => ?_)))))))
    rcases h9 with ⟨v5, f5, rfl, hs5, hzy4⟩
    rcases hzy4 with ⟨rfl, by4⟩ | ⟨rfl, by4⟩
    · skip
      refine And.intro (fun c9 => absurd c9 (by decide)) (fun _ => ?_)
      refine Exists.intro _ (And.intro (cw_o0 hI.1) ?_)
      refine Exists.intro _ (And.intro (cw_o2 hI.1) ?_)
      refine Exists.intro _ (Exists.intro _ (And.intro (Or.inl (cw_a14 hI.1)) (And.intro (by omega) ?_)))
      refine hC.1 2 29 _ _ rfl _ _ _ _ _ ?_
      exact ⟨rfl, fun e9 => absurd e9 (by decide), rfl, v5, f5, rfl, hs5, (f5 14 (x3).toInt.toNat), rfl, by exact True.intro⟩
    · skip
      have k0 : (0 : Int32).toInt = 0 := rfl
      refine And.intro (fun _ => ?_) (fun c9 => absurd c9 (by decide))
      refine hC.1 1 28 _ _ rfl _ _ _ _ _ ?_
      have km1 : (-1 : Int32).toInt = -1 := rfl
      refine hC.1 2 29 _ _ rfl _ _ _ _ _ ?_
      exact ⟨rfl, fun e9 => absurd e9 (by decide), rfl, v5, f5, rfl, hs5, (-1 : Int32), rfl, by exact True.intro⟩
  · skip
    have k0 : (0 : Int32).toInt = 0 := rfl
    refine And.intro (fun _ => ?_) (fun c9 => absurd c9 (by decide))
    refine hC.1 1 28 _ _ rfl _ _ _ _ _ ?_
    have km1 : (-1 : Int32).toInt = -1 := rfl
    refine hC.1 2 29 _ _ rfl _ _ _ _ _ ?_
    exact ⟨rfl, fun e9 => absurd e9 (by decide), rfl, v, f, rfl, hs, (-1 : Int32), rfl, by exact True.intro⟩

set_option maxRecDepth 100000 in
set_option maxHeartbeats 2000000 in
theorem c_X10_often (hI : cw_I K nn dn q w e) (hs : cw_S v f) (x1 : Int32) (x2 : Int32) (x3 : Int32)  : pm_Mt l g 63 4 0 0 [.ref (q 0), .int x1, .int x2, .int x3] (cw A0 g K nn dn q w e v f) (cw_Qs A0 g K nn dn q w e (fun r v2 f2 => ∃ x : Int32, r = some (.int x) ∧ (True))) := by
  refine mt_X10_often rfl (fun J hC => ?_)
  have ro_nn : cw_ro K nn := hI.2.1.2.1
  have ro_dn : cw_ro K dn := hI.2.1.2.2.1
  have hu1 := hI.2.1
  unfold cw_W at hu1
  have rg_x1 := pm_rng x1
  have rg_x2 := pm_rng x2
  have rg_x3 := pm_rng x3
  have zz0 := cw_sz hI ro_nn
  refine hC.1 0 0 _ _ rfl _ _ _ _ _ ?_
  have k1 : (1 : Int32).toInt = 1 := rfl
  refine And.intro (fun c2 => ?_) (fun c2 => ?_)
  · skip
    refine hC.1 1 25 _ _ rfl _ _ _ _ _ ?_
    have km1 : (-1 : Int32).toInt = -1 := rfl
    refine hC.1 2 26 _ _ rfl _ _ _ _ _ ?_
    exact ⟨rfl, fun e9 => absurd e9 (by decide), rfl, v, f, rfl, hs, (-1 : Int32), rfl, by exact True.intro⟩
  · skip
    refine And.intro (Exists.intro _ (cw_o0 hI.1)) (Exists.intro _ (Exists.intro _ (Exists.intro _ (Exists.intro _ (And.intro (c_X10_readSpan hI hs x1 x2 ) (And.intro rfl (fun r9 A9 h9 => ?_)))))))
    rcases h9 with ⟨v4, f4, rfl, hs4, hzy3⟩
    rcases hzy3 with ⟨rfl, by3⟩ | ⟨rfl, by3⟩
    · skip
      refine And.intro (fun c9 => absurd c9 (by decide)) (fun _ => ?_)
      refine Exists.intro _ (And.intro (cw_o0 hI.1) ?_)
      refine And.intro (Exists.intro _ (cw_o2 hI.1)) (Exists.intro _ (Exists.intro _ (Exists.intro _ (Exists.intro _ (And.intro (c_X2_kindsFrom hI hs4 x3 ) (And.intro rfl (fun r9 A9 h9 => ?_)))))))
      obtain ⟨y5, rfl, rfl, by5⟩ := h9
      refine hC.1 2 26 _ _ rfl _ _ _ _ _ ?_
      exact ⟨rfl, fun e9 => absurd e9 (by decide), rfl, v4, f4, rfl, hs4, y5, rfl, by exact True.intro⟩
    · skip
      have k0 : (0 : Int32).toInt = 0 := rfl
      refine And.intro (fun _ => ?_) (fun c9 => absurd c9 (by decide))
      refine hC.1 1 25 _ _ rfl _ _ _ _ _ ?_
      have km1 : (-1 : Int32).toInt = -1 := rfl
      refine hC.1 2 26 _ _ rfl _ _ _ _ _ ?_
      exact ⟨rfl, fun e9 => absurd e9 (by decide), rfl, v4, f4, rfl, hs4, (-1 : Int32), rfl, by exact True.intro⟩

set_option maxRecDepth 100000 in
set_option maxHeartbeats 2000000 in
theorem c_X10_report (hI : cw_I K nn dn q w e) (hs : cw_S v f) (x1 : Int32) (x2 : Int32) (x3 : Int32) (x4 : Int32)  : pm_Mt l g 65 4 0 0 [.ref (q 0), .int x1, .int x2, .int x3, .int x4] (cw A0 g K nn dn q w e v f) (cw_Qs A0 g K nn dn q w e (fun r v2 f2 => ∃ x : Int32, r = some (.int x) ∧ (True))) := by
  refine mt_X10_report rfl (fun J hC => ?_)
  have ro_nn : cw_ro K nn := hI.2.1.2.1
  have ro_dn : cw_ro K dn := hI.2.1.2.2.1
  have hu1 := hI.2.1
  unfold cw_W at hu1
  have rg_x1 := pm_rng x1
  have rg_x2 := pm_rng x2
  have rg_x3 := pm_rng x3
  have rg_x4 := pm_rng x4
  have zz0 := cw_sz hI ro_nn
  refine hC.1 0 0 _ _ rfl _ _ _ _ _ ?_
  refine Exists.intro _ (And.intro (cw_o0 hI.1) ?_)
  refine Exists.intro _ (And.intro (cw_o1 hI.1) ?_)
  refine And.intro (Exists.intro _ (cw_ro_o hI.1 ro_nn)) (Exists.intro _ (Exists.intro _ (Exists.intro _ (Exists.intro _ (And.intro (c_X7_isSpan hI hs ro_nn x1 x2 ) (And.intro rfl (fun r9 A9 h9 => ?_)))))))
  rcases h9 with ⟨y2, rfl, rfl, ⟨rfl, by2⟩ | ⟨rfl, by2⟩⟩
  · skip
    have k1 : (1 : Int32).toInt = 1 := rfl
    refine And.intro (fun _ => ?_) (fun c9 => absurd c9 (by decide))
    refine hC.1 1 21 _ _ rfl _ _ _ _ _ ?_
    refine Exists.intro _ (And.intro (cw_o0 hI.1) ?_)
    refine And.intro (Exists.intro _ (cw_o3 hI.1)) (Exists.intro _ (Exists.intro _ (Exists.intro _ (Exists.intro _ (And.intro (c_X0_reported hI hs ro_nn x1 x2 x3 (by omega)) (And.intro rfl (fun r9 A9 h9 => ?_)))))))
    rcases h9 with ⟨v5, f5, rfl, hs5, y4, rfl, by4⟩
    refine pm_swc 3 rfl (by decide) ?_ ?_
    · intro _
      refine hC.1 5 85 _ _ rfl _ _ _ _ _ ?_
      have km1 : (-1 : Int32).toInt = -1 := rfl
      exact ⟨rfl, fun e9 => absurd e9 (by decide), rfl, v5, f5, rfl, hs5, (-1 : Int32), rfl, by exact True.intro⟩
    · intro i9 hi9 he9
      rcases (show i9 = 0 ∨ i9 = 1 ∨ i9 = 2 by omega) with rfl | rfl | rfl
      · skip
        refine hC.1 2 64 _ _ rfl _ _ _ _ _ ?_
        exact ⟨rfl, fun e9 => absurd e9 (by decide), rfl, v5, f5, rfl, hs5, y4, rfl, by exact True.intro⟩
      · skip
        refine hC.1 3 67 _ _ rfl _ _ _ _ _ ?_
        have k0 : (0 : Int32).toInt = 0 := rfl
        refine And.intro (Exists.intro _ (cw_ro_o hI.1 ro_nn)) (Exists.intro _ (Exists.intro _ (Exists.intro _ (Exists.intro _ (And.intro (c_X7_tell hI hs5 ro_nn y4 (0 : Int32) ) (And.intro rfl (fun r9 A9 h9 => ?_)))))))
        obtain ⟨y8, rfl, rfl, by8⟩ := h9
        exact ⟨rfl, fun e9 => absurd e9 (by decide), rfl, v5, f5, rfl, hs5, y8, rfl, by exact True.intro⟩
      · skip
        refine hC.1 4 76 _ _ rfl _ _ _ _ _ ?_
        have k2 : (2 : Int32).toInt = 2 := rfl
        refine And.intro (Exists.intro _ (cw_ro_o hI.1 ro_nn)) (Exists.intro _ (Exists.intro _ (Exists.intro _ (Exists.intro _ (And.intro (c_X7_tell hI hs5 ro_nn y4 (2 : Int32) ) (And.intro rfl (fun r9 A9 h9 => ?_)))))))
        obtain ⟨y10, rfl, rfl, by10⟩ := h9
        exact ⟨rfl, fun e9 => absurd e9 (by decide), rfl, v5, f5, rfl, hs5, y10, rfl, by exact True.intro⟩
  · skip
    have k0 : (0 : Int32).toInt = 0 := rfl
    refine And.intro (fun c9 => absurd c9 (by decide)) (fun _ => ?_)
    have km1 : (-1 : Int32).toInt = -1 := rfl
    exact ⟨rfl, fun e9 => absurd e9 (by decide), rfl, v, f, rfl, hs, (-1 : Int32), rfl, by exact True.intro⟩

set_option maxRecDepth 100000 in
set_option maxHeartbeats 2000000 in
theorem c_X10_kth (hI : cw_I K nn dn q w e) (hs : cw_S v f) (x1 : Int32) (x2 : Int32) (x3 : Int32) (x4 : Int32)  : pm_Mt l g 67 4 0 0 [.ref (q 0), .int x1, .int x2, .int x3, .int x4] (cw A0 g K nn dn q w e v f) (cw_Qs A0 g K nn dn q w e (fun r v2 f2 => ∃ x : Int32, r = some (.int x) ∧ (True))) := by
  refine mt_X10_kth rfl (fun J hC => ?_)
  have ro_nn : cw_ro K nn := hI.2.1.2.1
  have ro_dn : cw_ro K dn := hI.2.1.2.2.1
  have hu1 := hI.2.1
  unfold cw_W at hu1
  have rg_x1 := pm_rng x1
  have rg_x2 := pm_rng x2
  have rg_x3 := pm_rng x3
  have rg_x4 := pm_rng x4
  have zz0 := cw_sz hI ro_nn
  refine hC.1 0 0 _ _ rfl _ _ _ _ _ ?_
  refine And.intro (Exists.intro _ (cw_o0 hI.1)) (Exists.intro _ (Exists.intro _ (Exists.intro _ (Exists.intro _ (And.intro (c_X10_readSpan hI hs x1 x2 ) (And.intro rfl (fun r9 A9 h9 => ?_)))))))
  rcases h9 with ⟨v3, f3, rfl, hs3, hzy2⟩
  rcases hzy2 with ⟨rfl, by2⟩ | ⟨rfl, by2⟩
  · skip
    have k1 : (1 : Int32).toInt = 1 := rfl
    refine And.intro (fun c9 => absurd c9 (by decide)) (fun _ => ?_)
    refine Exists.intro _ (And.intro (cw_o0 hI.1) ?_)
    refine Exists.intro _ (And.intro (cw_o0 hI.1) ?_)
    refine Exists.intro _ (And.intro (cw_o1 hI.1) ?_)
    refine Exists.intro _ (And.intro (cw_o0 hI.1) ?_)
    refine And.intro (Exists.intro _ (cw_o3 hI.1)) (Exists.intro _ (Exists.intro _ (Exists.intro _ (Exists.intro _ (And.intro (c_X0_colourInOrder hI hs3 ro_nn x1 x2 x3 x4 (by omega)) (And.intro rfl (fun r9 A9 h9 => ?_)))))))
    rcases h9 with ⟨v5, f5, rfl, hs5, y4, rfl, by4⟩
    refine hC.1 2 36 _ _ rfl _ _ _ _ _ ?_
    exact ⟨rfl, fun e9 => absurd e9 (by decide), rfl, v5, f5, rfl, hs5, y4, rfl, by exact True.intro⟩
  · skip
    have k0 : (0 : Int32).toInt = 0 := rfl
    refine And.intro (fun _ => ?_) (fun c9 => absurd c9 (by decide))
    refine hC.1 1 35 _ _ rfl _ _ _ _ _ ?_
    have km1 : (-1 : Int32).toInt = -1 := rfl
    refine hC.1 2 36 _ _ rfl _ _ _ _ _ ?_
    exact ⟨rfl, fun e9 => absurd e9 (by decide), rfl, v3, f3, rfl, hs3, (-1 : Int32), rfl, by exact True.intro⟩

set_option maxRecDepth 100000 in
set_option maxHeartbeats 2000000 in
theorem c_X10_absent (hI : cw_I K nn dn q w e) (hs : cw_S v f) (x1 : Int32) (x2 : Int32) (x3 : Int32)  : pm_Mt l g 73 4 0 0 [.ref (q 0), .int x1, .int x2, .int x3] (cw A0 g K nn dn q w e v f) (cw_Qs A0 g K nn dn q w e (fun r v2 f2 => ∃ x : Int32, r = some (.int x) ∧ (True))) := by
  refine mt_X10_absent rfl (fun J hC => ?_)
  have ro_nn : cw_ro K nn := hI.2.1.2.1
  have ro_dn : cw_ro K dn := hI.2.1.2.2.1
  have hu1 := hI.2.1
  unfold cw_W at hu1
  have rg_x1 := pm_rng x1
  have rg_x2 := pm_rng x2
  have rg_x3 := pm_rng x3
  have zz0 := cw_sz hI ro_nn
  refine hC.1 0 0 _ _ rfl _ _ _ _ _ ?_
  refine And.intro (Exists.intro _ (cw_o0 hI.1)) (Exists.intro _ (Exists.intro _ (Exists.intro _ (Exists.intro _ (And.intro (c_X10_readSpan hI hs x1 x2 ) (And.intro rfl (fun r9 A9 h9 => ?_)))))))
  rcases h9 with ⟨v3, f3, rfl, hs3, hzy2⟩
  rcases hzy2 with ⟨rfl, by2⟩ | ⟨rfl, by2⟩
  · skip
    have k1 : (1 : Int32).toInt = 1 := rfl
    refine And.intro (fun c9 => absurd c9 (by decide)) (fun _ => ?_)
    refine Exists.intro _ (And.intro (cw_o0 hI.1) ?_)
    have k16777215 : (16777215 : Int32).toInt = 16777215 := rfl
    refine Exists.intro _ (And.intro (cw_o0 hI.1) ?_)
    refine Exists.intro _ (And.intro (cw_o2 hI.1) ?_)
    have km1 : (-1 : Int32).toInt = -1 := rfl
    refine And.intro (Exists.intro _ (cw_o3 hI.1)) (Exists.intro _ (Exists.intro _ (Exists.intro _ (Exists.intro _ (And.intro (c_X0_colourOf hI hs3 ((16777215 : Int32) &&& ((v3 3) ^^^ (-1 : Int32))) x3 ) (And.intro rfl (fun r9 A9 h9 => ?_)))))))
    obtain ⟨y4, rfl, rfl, by4⟩ := h9
    refine hC.1 2 33 _ _ rfl _ _ _ _ _ ?_
    exact ⟨rfl, fun e9 => absurd e9 (by decide), rfl, v3, f3, rfl, hs3, y4, rfl, by exact True.intro⟩
  · skip
    have k0 : (0 : Int32).toInt = 0 := rfl
    refine And.intro (fun _ => ?_) (fun c9 => absurd c9 (by decide))
    refine hC.1 1 32 _ _ rfl _ _ _ _ _ ?_
    have km1 : (-1 : Int32).toInt = -1 := rfl
    refine hC.1 2 33 _ _ rfl _ _ _ _ _ ?_
    exact ⟨rfl, fun e9 => absurd e9 (by decide), rfl, v3, f3, rfl, hs3, (-1 : Int32), rfl, by exact True.intro⟩

set_option maxRecDepth 100000 in
set_option maxHeartbeats 2000000 in
theorem c_X10_both (hI : cw_I K nn dn q w e) (hs : cw_S v f) (x1 : Int32) (x2 : Int32) (x3 : Int32) (x4 : Int32) (x5 : Int32)  : pm_Mt l g 74 4 0 0 [.ref (q 0), .int x1, .int x2, .int x3, .int x4, .int x5] (cw A0 g K nn dn q w e v f) (cw_Qs A0 g K nn dn q w e (fun r v2 f2 => ∃ x : Int32, r = some (.int x) ∧ (True))) := by
  refine mt_X10_both rfl (fun J hC => ?_)
  have ro_nn : cw_ro K nn := hI.2.1.2.1
  have ro_dn : cw_ro K dn := hI.2.1.2.2.1
  have hu1 := hI.2.1
  unfold cw_W at hu1
  have rg_x1 := pm_rng x1
  have rg_x2 := pm_rng x2
  have rg_x3 := pm_rng x3
  have rg_x4 := pm_rng x4
  have rg_x5 := pm_rng x5
  have zz0 := cw_sz hI ro_nn
  refine hC.1 0 0 _ _ rfl _ _ _ _ _ ?_
  refine And.intro (Exists.intro _ (cw_o0 hI.1)) (Exists.intro _ (Exists.intro _ (Exists.intro _ (Exists.intro _ (And.intro (c_X10_readSpan hI hs x1 x2 ) (And.intro rfl (fun r9 A9 h9 => ?_)))))))
  rcases h9 with ⟨v3, f3, rfl, hs3, hzy2⟩
  rcases hzy2 with ⟨rfl, by2⟩ | ⟨rfl, by2⟩
  · skip
    have k1 : (1 : Int32).toInt = 1 := rfl
    refine And.intro (fun _ => ?_) (fun c9 => absurd c9 (by decide))
    refine hC.1 1 11 _ _ rfl _ _ _ _ _ ?_
    refine Exists.intro _ (And.intro (cw_o0 hI.1) ?_)
    refine Exists.intro _ (And.intro (cw_o2 hI.1) ?_)
    refine And.intro (Exists.intro _ (cw_o0 hI.1)) (Exists.intro _ (Exists.intro _ (Exists.intro _ (Exists.intro _ (And.intro (c_X10_readSpan hI hs3 x3 x4 ) (And.intro rfl (fun r9 A9 h9 => ?_)))))))
    rcases h9 with ⟨v5, f5, rfl, hs5, hzy4⟩
    rcases hzy4 with ⟨rfl, by4⟩ | ⟨rfl, by4⟩
    · skip
      refine And.intro (fun _ => ?_) (fun c9 => absurd c9 (by decide))
      refine hC.1 2 32 _ _ rfl _ _ _ _ _ ?_
      refine Exists.intro _ (And.intro (cw_o0 hI.1) ?_)
      refine Exists.intro _ (And.intro (cw_o2 hI.1) ?_)
      refine pm_swc 3 rfl (by decide) ?_ ?_
      · intro _
        refine hC.1 6 97 _ _ rfl _ _ _ _ _ ?_
        have km1 : (-1 : Int32).toInt = -1 := rfl
        exact ⟨rfl, fun e9 => absurd e9 (by decide), rfl, v5, f5, rfl, hs5, (-1 : Int32), rfl, by exact True.intro⟩
      · intro i9 hi9 he9
        rcases (show i9 = 0 ∨ i9 = 1 ∨ i9 = 2 by omega) with rfl | rfl | rfl
        · skip
          refine hC.1 3 68 _ _ rfl _ _ _ _ _ ?_
          refine Exists.intro _ (Exists.intro _ (Exists.intro _ (Exists.intro _ (And.intro (c_J6_bitCount_0f7a4 (cw A0 g K nn dn q w e v5 f5) ((v3 3) &&& (v5 3)) ) (And.intro rfl (fun r9 A9 h9 => ?_))))))
          obtain ⟨y8, rfl, rfl, by8⟩ := h9
          exact ⟨rfl, fun e9 => absurd e9 (by decide), rfl, v5, f5, rfl, hs5, y8, rfl, by exact True.intro⟩
        · skip
          refine hC.1 4 77 _ _ rfl _ _ _ _ _ ?_
          have km1 : (-1 : Int32).toInt = -1 := rfl
          refine Exists.intro _ (Exists.intro _ (Exists.intro _ (Exists.intro _ (And.intro (c_J6_bitCount_0f7a4 (cw A0 g K nn dn q w e v5 f5) ((v3 3) &&& ((v5 3) ^^^ (-1 : Int32))) ) (And.intro rfl (fun r9 A9 h9 => ?_))))))
          obtain ⟨y10, rfl, rfl, by10⟩ := h9
          exact ⟨rfl, fun e9 => absurd e9 (by decide), rfl, v5, f5, rfl, hs5, y10, rfl, by exact True.intro⟩
        · skip
          refine hC.1 5 88 _ _ rfl _ _ _ _ _ ?_
          refine Exists.intro _ (Exists.intro _ (Exists.intro _ (Exists.intro _ (And.intro (c_J6_bitCount_0f7a4 (cw A0 g K nn dn q w e v5 f5) ((v3 3) ||| (v5 3)) ) (And.intro rfl (fun r9 A9 h9 => ?_))))))
          obtain ⟨y12, rfl, rfl, by12⟩ := h9
          exact ⟨rfl, fun e9 => absurd e9 (by decide), rfl, v5, f5, rfl, hs5, y12, rfl, by exact True.intro⟩
    · skip
      have k0 : (0 : Int32).toInt = 0 := rfl
      refine And.intro (fun c9 => absurd c9 (by decide)) (fun _ => ?_)
      have km1 : (-1 : Int32).toInt = -1 := rfl
      exact ⟨rfl, fun e9 => absurd e9 (by decide), rfl, v5, f5, rfl, hs5, (-1 : Int32), rfl, by exact True.intro⟩
  · skip
    have k0 : (0 : Int32).toInt = 0 := rfl
    refine And.intro (fun c9 => absurd c9 (by decide)) (fun _ => ?_)
    have km1 : (-1 : Int32).toInt = -1 := rfl
    exact ⟨rfl, fun e9 => absurd e9 (by decide), rfl, v3, f3, rfl, hs3, (-1 : Int32), rfl, by exact True.intro⟩

set_option maxRecDepth 100000 in
set_option maxHeartbeats 2000000 in
theorem c_X10_tally (hI : cw_I K nn dn q w e) (hs : cw_S v f) (x1 : Int32) (x2 : Int32) (x3 : Int32)  : pm_Mt l g 76 4 0 0 [.ref (q 0), .int x1, .int x2, .int x3] (cw A0 g K nn dn q w e v f) (cw_Qs A0 g K nn dn q w e (fun r v2 f2 => ∃ x : Int32, r = some (.int x) ∧ (True))) := by
  refine mt_X10_tally rfl (fun J hC => ?_)
  have ro_nn : cw_ro K nn := hI.2.1.2.1
  have ro_dn : cw_ro K dn := hI.2.1.2.2.1
  have hu1 := hI.2.1
  unfold cw_W at hu1
  have rg_x1 := pm_rng x1
  have rg_x2 := pm_rng x2
  have rg_x3 := pm_rng x3
  have zz0 := cw_sz hI ro_nn
  refine hC.1 0 0 _ _ rfl _ _ _ _ _ ?_
  have k1 : (1 : Int32).toInt = 1 := rfl
  refine And.intro (fun c2 => ?_) (fun c2 => ?_)
  · skip
    refine hC.1 1 25 _ _ rfl _ _ _ _ _ ?_
    have km1 : (-1 : Int32).toInt = -1 := rfl
    refine hC.1 2 26 _ _ rfl _ _ _ _ _ ?_
    exact ⟨rfl, fun e9 => absurd e9 (by decide), rfl, v, f, rfl, hs, (-1 : Int32), rfl, by exact True.intro⟩
  · skip
    refine And.intro (Exists.intro _ (cw_o0 hI.1)) (Exists.intro _ (Exists.intro _ (Exists.intro _ (Exists.intro _ (And.intro (c_X10_readSpan hI hs x1 x2 ) (And.intro rfl (fun r9 A9 h9 => ?_)))))))
    rcases h9 with ⟨v4, f4, rfl, hs4, hzy3⟩
    rcases hzy3 with ⟨rfl, by3⟩ | ⟨rfl, by3⟩
    · skip
      refine And.intro (fun c9 => absurd c9 (by decide)) (fun _ => ?_)
      refine Exists.intro _ (And.intro (cw_o0 hI.1) ?_)
      refine And.intro (Exists.intro _ (cw_o2 hI.1)) (Exists.intro _ (Exists.intro _ (Exists.intro _ (Exists.intro _ (And.intro (c_X2_kindsOfJust hI hs4 x3 ) (And.intro rfl (fun r9 A9 h9 => ?_)))))))
      obtain ⟨y5, rfl, rfl, by5⟩ := h9
      refine hC.1 2 26 _ _ rfl _ _ _ _ _ ?_
      exact ⟨rfl, fun e9 => absurd e9 (by decide), rfl, v4, f4, rfl, hs4, y5, rfl, by exact True.intro⟩
    · skip
      have k0 : (0 : Int32).toInt = 0 := rfl
      refine And.intro (fun _ => ?_) (fun c9 => absurd c9 (by decide))
      refine hC.1 1 25 _ _ rfl _ _ _ _ _ ?_
      have km1 : (-1 : Int32).toInt = -1 := rfl
      refine hC.1 2 26 _ _ rfl _ _ _ _ _ ?_
      exact ⟨rfl, fun e9 => absurd e9 (by decide), rfl, v4, f4, rfl, hs4, (-1 : Int32), rfl, by exact True.intro⟩

set_option maxRecDepth 100000 in
set_option maxHeartbeats 2000000 in
theorem c_X10_major (hI : cw_I K nn dn q w e) (hs : cw_S v f) (x1 : Int32) (x2 : Int32)  : pm_Mt l g 78 4 0 0 [.ref (q 0), .int x1, .int x2] (cw A0 g K nn dn q w e v f) (cw_Qs A0 g K nn dn q w e (fun r v2 f2 => ∃ x : Int32, r = some (.int x) ∧ (True))) := by
  refine mt_X10_major rfl (fun J hC => ?_)
  have ro_nn : cw_ro K nn := hI.2.1.2.1
  have ro_dn : cw_ro K dn := hI.2.1.2.2.1
  have hu1 := hI.2.1
  unfold cw_W at hu1
  have rg_x1 := pm_rng x1
  have rg_x2 := pm_rng x2
  have zz0 := cw_sz hI ro_nn
  refine hC.1 0 0 _ _ rfl _ _ _ _ _ ?_
  refine And.intro (Exists.intro _ (cw_o0 hI.1)) (Exists.intro _ (Exists.intro _ (Exists.intro _ (Exists.intro _ (And.intro (c_X10_readSpan hI hs x1 x2 ) (And.intro rfl (fun r9 A9 h9 => ?_)))))))
  rcases h9 with ⟨v3, f3, rfl, hs3, hzy2⟩
  rcases hzy2 with ⟨rfl, by2⟩ | ⟨rfl, by2⟩
  · skip
    have k1 : (1 : Int32).toInt = 1 := rfl
    refine And.intro (fun c9 => absurd c9 (by decide)) (fun _ => ?_)
    refine Exists.intro _ (And.intro (cw_o0 hI.1) ?_)
    refine Exists.intro _ (And.intro (cw_o0 hI.1) ?_)
    have k2 : (2 : Int32).toInt = 2 := rfl
    refine And.intro (Exists.intro _ (cw_o2 hI.1)) (Exists.intro _ (Exists.intro _ (Exists.intro _ (Exists.intro _ (And.intro (c_X2_largerThanPart hI hs3 (2 : Int32) ) (And.intro rfl (fun r9 A9 h9 => ?_)))))))
    obtain ⟨y4, rfl, rfl, by4⟩ := h9
    have k0 : (0 : Int32).toInt = 0 := rfl
    refine And.intro (Exists.intro _ (cw_o3 hI.1)) (Exists.intro _ (Exists.intro _ (Exists.intro _ (Exists.intro _ (And.intro (c_X0_colourOf hI hs3 y4 (0 : Int32) ) (And.intro rfl (fun r9 A9 h9 => ?_)))))))
    obtain ⟨y6, rfl, rfl, by6⟩ := h9
    refine hC.1 2 29 _ _ rfl _ _ _ _ _ ?_
    exact ⟨rfl, fun e9 => absurd e9 (by decide), rfl, v3, f3, rfl, hs3, y6, rfl, by exact True.intro⟩
  · skip
    have k0 : (0 : Int32).toInt = 0 := rfl
    refine And.intro (fun _ => ?_) (fun c9 => absurd c9 (by decide))
    refine hC.1 1 28 _ _ rfl _ _ _ _ _ ?_
    have km1 : (-1 : Int32).toInt = -1 := rfl
    refine hC.1 2 29 _ _ rfl _ _ _ _ _ ?_
    exact ⟨rfl, fun e9 => absurd e9 (by decide), rfl, v3, f3, rfl, hs3, (-1 : Int32), rfl, by exact True.intro⟩

set_option maxRecDepth 100000 in
set_option maxHeartbeats 2000000 in
theorem c_X10_close (hI : cw_I K nn dn q w e) (hs : cw_S v f) (x1 : Int32) (x2 : Int32) (x3 : Int32)  : pm_Mt l g 80 2 0 0 [.ref (q 0), .int x1, .int x2, .int x3] (cw A0 g K nn dn q w e v f) (cw_Qs A0 g K nn dn q w e (fun r v2 f2 => ∃ x : Int32, r = some (.int x) ∧ (True))) := by
  refine mt_X10_close rfl (fun J hC => ?_)
  have ro_nn : cw_ro K nn := hI.2.1.2.1
  have ro_dn : cw_ro K dn := hI.2.1.2.2.1
  have hu1 := hI.2.1
  unfold cw_W at hu1
  have rg_x1 := pm_rng x1
  have rg_x2 := pm_rng x2
  have rg_x3 := pm_rng x3
  have zz0 := cw_sz hI ro_nn
  refine hC.1 0 0 _ _ rfl _ _ _ _ _ ?_
  refine Exists.intro _ (And.intro (cw_o0 hI.1) ?_)
  refine Exists.intro _ (And.intro (cw_o1 hI.1) ?_)
  refine And.intro (Exists.intro _ (cw_ro_o hI.1 ro_nn)) (Exists.intro _ (Exists.intro _ (Exists.intro _ (Exists.intro _ (And.intro (c_X7_isSpan hI hs ro_nn x1 x2 ) (And.intro rfl (fun r9 A9 h9 => ?_)))))))
  rcases h9 with ⟨y2, rfl, rfl, ⟨rfl, by2⟩ | ⟨rfl, by2⟩⟩
  · skip
    have k1 : (1 : Int32).toInt = 1 := rfl
    refine And.intro (fun _ => ?_) (fun c9 => absurd c9 (by decide))
    refine hC.1 1 21 _ _ rfl _ _ _ _ _ ?_
    refine Exists.intro _ (And.intro (cw_o0 hI.1) ?_)
    refine And.intro (Exists.intro _ (cw_o4 hI.1)) (Exists.intro _ (Exists.intro _ (Exists.intro _ (Exists.intro _ (And.intro (c_X1_findNearestAlike hI hs ro_nn x1 x2 (by omega)) (And.intro rfl (fun r9 A9 h9 => ?_)))))))
    rcases h9 with ⟨v5, f5, rfl, hs5, rfl, by4⟩
    refine Exists.intro _ (And.intro (cw_o0 hI.1) ?_)
    refine And.intro (Exists.intro _ (cw_o4 hI.1)) (Exists.intro _ (Exists.intro _ (Exists.intro _ (Exists.intro _ (And.intro (c_X1_pairFound hI hs5 x3 ) (And.intro rfl (fun r9 A9 h9 => ?_)))))))
    obtain ⟨y6, rfl, rfl, by6⟩ := h9
    exact ⟨rfl, fun e9 => absurd e9 (by decide), rfl, v5, f5, rfl, hs5, y6, rfl, by exact True.intro⟩
  · skip
    have k0 : (0 : Int32).toInt = 0 := rfl
    refine And.intro (fun c9 => absurd c9 (by decide)) (fun _ => ?_)
    have km1 : (-1 : Int32).toInt = -1 := rfl
    exact ⟨rfl, fun e9 => absurd e9 (by decide), rfl, v, f, rfl, hs, (-1 : Int32), rfl, by exact True.intro⟩

end
end
section
section
variable {l : Launch} {g : pm_G} {A0 : pm_H} {K nn dn : Nat} {q : Nat → Nat} {w : Nat → Int32} {e : Nat → Nat → Int32} {v : Nat → Int32} {f : Nat → Nat → Int32}
set_option maxRecDepth 100000 in
set_option maxHeartbeats 2000000 in
theorem c_X10_sides (hI : cw_I K nn dn q w e) (hs : cw_S v f) (x1 : Int32) (x2 : Int32)  : pm_Mt l g 85 2 0 0 [.ref (q 0), .int x1, .int x2] (cw A0 g K nn dn q w e v f) (cw_Qs A0 g K nn dn q w e (fun r v2 f2 => ∃ x : Int32, r = some (.int x) ∧ (True))) := by
  refine mt_X10_sides rfl (fun J hC => ?_)
  have ro_nn : cw_ro K nn := hI.2.1.2.1
  have ro_dn : cw_ro K dn := hI.2.1.2.2.1
  have hu1 := hI.2.1
  unfold cw_W at hu1
  have rg_x1 := pm_rng x1
  have rg_x2 := pm_rng x2
  have zz0 := cw_sz hI ro_nn
  refine hC.1 0 0 _ _ rfl _ _ _ _ _ ?_
  refine Exists.intro _ (And.intro (cw_o0 hI.1) ?_)
  refine Exists.intro _ (And.intro (cw_o1 hI.1) ?_)
  refine And.intro (Exists.intro _ (cw_ro_o hI.1 ro_nn)) (Exists.intro _ (Exists.intro _ (Exists.intro _ (Exists.intro _ (And.intro (c_X7_isSpan hI hs ro_nn x1 x2 ) (And.intro rfl (fun r9 A9 h9 => ?_)))))))
  rcases h9 with ⟨y2, rfl, rfl, ⟨rfl, by2⟩ | ⟨rfl, by2⟩⟩
  · skip
    have k1 : (1 : Int32).toInt = 1 := rfl
    refine And.intro (fun c9 => absurd c9 (by decide)) (fun _ => ?_)
    refine Exists.intro _ (And.intro (cw_o0 hI.1) ?_)
    refine And.intro (Exists.intro _ (cw_o4 hI.1)) (Exists.intro _ (Exists.intro _ (Exists.intro _ (Exists.intro _ (And.intro (c_X1_unlikeTwos hI hs ro_nn x1 x2 (by omega)) (And.intro rfl (fun r9 A9 h9 => ?_)))))))
    rcases h9 with ⟨v5, f5, rfl, hs5, y4, rfl, by4⟩
    refine hC.1 2 31 _ _ rfl _ _ _ _ _ ?_
    exact ⟨rfl, fun e9 => absurd e9 (by decide), rfl, v5, f5, rfl, hs5, y4, rfl, by exact True.intro⟩
  · skip
    have k0 : (0 : Int32).toInt = 0 := rfl
    refine And.intro (fun _ => ?_) (fun c9 => absurd c9 (by decide))
    refine hC.1 1 30 _ _ rfl _ _ _ _ _ ?_
    have km1 : (-1 : Int32).toInt = -1 := rfl
    refine hC.1 2 31 _ _ rfl _ _ _ _ _ ?_
    exact ⟨rfl, fun e9 => absurd e9 (by decide), rfl, v, f, rfl, hs, (-1 : Int32), rfl, by exact True.intro⟩

set_option maxRecDepth 100000 in
set_option maxHeartbeats 2000000 in
theorem c_X10_cover (hI : cw_I K nn dn q w e) (hs : cw_S v f) (x1 : Int32) (x2 : Int32)  : pm_Mt l g 88 4 0 0 [.ref (q 0), .int x1, .int x2] (cw A0 g K nn dn q w e v f) (cw_Qs A0 g K nn dn q w e (fun r v2 f2 => ∃ x : Int32, r = some (.int x) ∧ (True))) := by
  refine mt_X10_cover rfl (fun J hC => ?_)
  have ro_nn : cw_ro K nn := hI.2.1.2.1
  have ro_dn : cw_ro K dn := hI.2.1.2.2.1
  have hu1 := hI.2.1
  unfold cw_W at hu1
  have rg_x1 := pm_rng x1
  have rg_x2 := pm_rng x2
  have zz0 := cw_sz hI ro_nn
  refine hC.1 0 0 _ _ rfl _ _ _ _ _ ?_
  refine Exists.intro _ (And.intro (cw_o0 hI.1) ?_)
  refine Exists.intro _ (And.intro (cw_o1 hI.1) ?_)
  refine And.intro (Exists.intro _ (cw_ro_o hI.1 ro_nn)) (Exists.intro _ (Exists.intro _ (Exists.intro _ (Exists.intro _ (And.intro (c_X7_isSpan hI hs ro_nn x1 x2 ) (And.intro rfl (fun r9 A9 h9 => ?_)))))))
  rcases h9 with ⟨y2, rfl, rfl, ⟨rfl, by2⟩ | ⟨rfl, by2⟩⟩
  · skip
    have k1 : (1 : Int32).toInt = 1 := rfl
    refine And.intro (fun c9 => absurd c9 (by decide)) (fun _ => ?_)
    refine Exists.intro _ (And.intro (cw_o0 hI.1) ?_)
    refine Exists.intro _ (And.intro (cw_o0 hI.1) ?_)
    refine And.intro (Exists.intro _ (cw_o4 hI.1)) (Exists.intro _ (Exists.intro _ (Exists.intro _ (Exists.intro _ (And.intro (c_X1_coveringLength hI hs ro_nn x1 x2 (by omega)) (And.intro rfl (fun r9 A9 h9 => ?_)))))))
    rcases h9 with ⟨v5, f5, rfl, hs5, y4, rfl, by4⟩
    refine hC.1 2 35 _ _ rfl _ _ _ _ _ ?_
    exact ⟨rfl, fun e9 => absurd e9 (by decide), rfl, v5, f5, rfl, hs5, y4, rfl, by exact True.intro⟩
  · skip
    have k0 : (0 : Int32).toInt = 0 := rfl
    refine And.intro (fun _ => ?_) (fun c9 => absurd c9 (by decide))
    refine hC.1 1 34 _ _ rfl _ _ _ _ _ ?_
    have km1 : (-1 : Int32).toInt = -1 := rfl
    refine hC.1 2 35 _ _ rfl _ _ _ _ _ ?_
    exact ⟨rfl, fun e9 => absurd e9 (by decide), rfl, v, f, rfl, hs, (-1 : Int32), rfl, by exact True.intro⟩

set_option maxRecDepth 100000 in
set_option maxHeartbeats 2000000 in
theorem c_X10_least (hI : cw_I K nn dn q w e) (hs : cw_S v f) (x1 : Int32) (x2 : Int32) (x3 : Int32)  : pm_Mt l g 90 4 0 0 [.ref (q 0), .int x1, .int x2, .int x3] (cw A0 g K nn dn q w e v f) (cw_Qs A0 g K nn dn q w e (fun r v2 f2 => ∃ x : Int32, r = some (.int x) ∧ (True))) := by
  refine mt_X10_least rfl (fun J hC => ?_)
  have ro_nn : cw_ro K nn := hI.2.1.2.1
  have ro_dn : cw_ro K dn := hI.2.1.2.2.1
  have hu1 := hI.2.1
  unfold cw_W at hu1
  have rg_x1 := pm_rng x1
  have rg_x2 := pm_rng x2
  have rg_x3 := pm_rng x3
  have zz0 := cw_sz hI ro_nn
  refine hC.1 0 0 _ _ rfl _ _ _ _ _ ?_
  have k1 : (1 : Int32).toInt = 1 := rfl
  refine And.intro (fun c2 => ?_) (fun c2 => ?_)
  · skip
    refine hC.1 1 33 _ _ rfl _ _ _ _ _ ?_
    have km1 : (-1 : Int32).toInt = -1 := rfl
    refine hC.1 2 34 _ _ rfl _ _ _ _ _ ?_
    exact ⟨rfl, fun e9 => absurd e9 (by decide), rfl, v, f, rfl, hs, (-1 : Int32), rfl, by exact True.intro⟩
  · skip
    refine And.intro (Exists.intro _ (cw_o0 hI.1)) (Exists.intro _ (Exists.intro _ (Exists.intro _ (Exists.intro _ (And.intro (c_X10_readSpan hI hs x1 x2 ) (And.intro rfl (fun r9 A9 h9 => ?_)))))))
    rcases h9 with ⟨v4, f4, rfl, hs4, hzy3⟩
    rcases hzy3 with ⟨rfl, by3⟩ | ⟨rfl, by3⟩
    · skip
      refine And.intro (fun c9 => absurd c9 (by decide)) (fun _ => ?_)
      refine Exists.intro _ (And.intro (cw_o0 hI.1) ?_)
      refine Exists.intro _ (And.intro (cw_o2 hI.1) ?_)
      refine Exists.intro _ (And.intro (cw_o0 hI.1) ?_)
      refine And.intro (Exists.intro _ (cw_o2 hI.1)) (Exists.intro _ (Exists.intro _ (Exists.intro _ (Exists.intro _ (And.intro (c_X2_placesOfLargest hI hs4 x3 ) (And.intro rfl (fun r9 A9 h9 => ?_)))))))
      obtain ⟨y5, rfl, rfl, by5⟩ := h9
      intro m7 em_29
      try have e7 : m7.toInt = ((v4 1)).toInt - (y5).toInt := by rw [em_29]; exact pm_sub _ _ (by omega) (by omega)
      refine hC.1 2 34 _ _ rfl _ _ _ _ _ ?_
      exact ⟨rfl, fun e9 => absurd e9 (by decide), rfl, v4, f4, rfl, hs4, m7, rfl, by exact True.intro⟩
    · skip
      have k0 : (0 : Int32).toInt = 0 := rfl
      refine And.intro (fun _ => ?_) (fun c9 => absurd c9 (by decide))
      refine hC.1 1 33 _ _ rfl _ _ _ _ _ ?_
      have km1 : (-1 : Int32).toInt = -1 := rfl
      refine hC.1 2 34 _ _ rfl _ _ _ _ _ ?_
      exact ⟨rfl, fun e9 => absurd e9 (by decide), rfl, v4, f4, rfl, hs4, (-1 : Int32), rfl, by exact True.intro⟩

set_option maxRecDepth 100000 in
set_option maxHeartbeats 2000000 in
theorem c_X10_fair (hI : cw_I K nn dn q w e) (hs : cw_S v f) (x1 : Int32) (x2 : Int32) (x3 : Int32)  : pm_Mt l g 93 4 0 0 [.ref (q 0), .int x1, .int x2, .int x3] (cw A0 g K nn dn q w e v f) (cw_Qs A0 g K nn dn q w e (fun r v2 f2 => ∃ x : Int32, r = some (.int x) ∧ (True))) := by
  refine mt_X10_fair rfl (fun J hC => ?_)
  have ro_nn : cw_ro K nn := hI.2.1.2.1
  have ro_dn : cw_ro K dn := hI.2.1.2.2.1
  have hu1 := hI.2.1
  unfold cw_W at hu1
  have rg_x1 := pm_rng x1
  have rg_x2 := pm_rng x2
  have rg_x3 := pm_rng x3
  have zz0 := cw_sz hI ro_nn
  refine hC.1 0 0 _ _ rfl _ _ _ _ _ ?_
  have k1 : (1 : Int32).toInt = 1 := rfl
  refine And.intro (fun c2 => ?_) (fun c2 => ?_)
  · skip
    refine hC.1 1 25 _ _ rfl _ _ _ _ _ ?_
    have km1 : (-1 : Int32).toInt = -1 := rfl
    refine hC.1 2 26 _ _ rfl _ _ _ _ _ ?_
    exact ⟨rfl, fun e9 => absurd e9 (by decide), rfl, v, f, rfl, hs, (-1 : Int32), rfl, by exact True.intro⟩
  · skip
    refine And.intro (Exists.intro _ (cw_o0 hI.1)) (Exists.intro _ (Exists.intro _ (Exists.intro _ (Exists.intro _ (And.intro (c_X10_readSpan hI hs x1 x2 ) (And.intro rfl (fun r9 A9 h9 => ?_)))))))
    rcases h9 with ⟨v4, f4, rfl, hs4, hzy3⟩
    rcases hzy3 with ⟨rfl, by3⟩ | ⟨rfl, by3⟩
    · skip
      refine And.intro (fun c9 => absurd c9 (by decide)) (fun _ => ?_)
      refine Exists.intro _ (And.intro (cw_o0 hI.1) ?_)
      refine And.intro (Exists.intro _ (cw_o2 hI.1)) (Exists.intro _ (Exists.intro _ (Exists.intro _ (Exists.intro _ (And.intro (c_X2_largerThanPart hI hs4 x3 ) (And.intro rfl (fun r9 A9 h9 => ?_)))))))
      obtain ⟨y5, rfl, rfl, by5⟩ := h9
      refine hC.1 2 26 _ _ rfl _ _ _ _ _ ?_
      exact ⟨rfl, fun e9 => absurd e9 (by decide), rfl, v4, f4, rfl, hs4, y5, rfl, by exact True.intro⟩
    · skip
      have k0 : (0 : Int32).toInt = 0 := rfl
      refine And.intro (fun _ => ?_) (fun c9 => absurd c9 (by decide))
      refine hC.1 1 25 _ _ rfl _ _ _ _ _ ?_
      have km1 : (-1 : Int32).toInt = -1 := rfl
      refine hC.1 2 26 _ _ rfl _ _ _ _ _ ?_
      exact ⟨rfl, fun e9 => absurd e9 (by decide), rfl, v4, f4, rfl, hs4, (-1 : Int32), rfl, by exact True.intro⟩

set_option maxRecDepth 100000 in
set_option maxHeartbeats 2000000 in
theorem c_X10_alike (hI : cw_I K nn dn q w e) (hs : cw_S v f) (x1 : Int32) (x2 : Int32)  : pm_Mt l g 94 4 0 0 [.ref (q 0), .int x1, .int x2] (cw A0 g K nn dn q w e v f) (cw_Qs A0 g K nn dn q w e (fun r v2 f2 => ∃ x : Int32, r = some (.int x) ∧ (True))) := by
  refine mt_X10_alike rfl (fun J hC => ?_)
  have ro_nn : cw_ro K nn := hI.2.1.2.1
  have ro_dn : cw_ro K dn := hI.2.1.2.2.1
  have hu1 := hI.2.1
  unfold cw_W at hu1
  have rg_x1 := pm_rng x1
  have rg_x2 := pm_rng x2
  have zz0 := cw_sz hI ro_nn
  refine hC.1 0 0 _ _ rfl _ _ _ _ _ ?_
  refine And.intro (Exists.intro _ (cw_o0 hI.1)) (Exists.intro _ (Exists.intro _ (Exists.intro _ (Exists.intro _ (And.intro (c_X10_readSpan hI hs x1 x2 ) (And.intro rfl (fun r9 A9 h9 => ?_)))))))
  rcases h9 with ⟨v3, f3, rfl, hs3, hzy2⟩
  rcases hzy2 with ⟨rfl, by2⟩ | ⟨rfl, by2⟩
  · skip
    have k1 : (1 : Int32).toInt = 1 := rfl
    refine And.intro (fun c9 => absurd c9 (by decide)) (fun _ => ?_)
    refine Exists.intro _ (And.intro (cw_o0 hI.1) ?_)
    refine And.intro (Exists.intro _ (cw_o2 hI.1)) (Exists.intro _ (Exists.intro _ (Exists.intro _ (Exists.intro _ (And.intro (c_X2_twosAlike hI hs3  ) (And.intro rfl (fun r9 A9 h9 => ?_)))))))
    obtain ⟨y4, rfl, rfl, by4⟩ := h9
    refine hC.1 2 20 _ _ rfl _ _ _ _ _ ?_
    exact ⟨rfl, fun e9 => absurd e9 (by decide), rfl, v3, f3, rfl, hs3, y4, rfl, by exact True.intro⟩
  · skip
    have k0 : (0 : Int32).toInt = 0 := rfl
    refine And.intro (fun _ => ?_) (fun c9 => absurd c9 (by decide))
    refine hC.1 1 19 _ _ rfl _ _ _ _ _ ?_
    have km1 : (-1 : Int32).toInt = -1 := rfl
    refine hC.1 2 20 _ _ rfl _ _ _ _ _ ?_
    exact ⟨rfl, fun e9 => absurd e9 (by decide), rfl, v3, f3, rfl, hs3, (-1 : Int32), rfl, by exact True.intro⟩

set_option maxRecDepth 100000 in
set_option maxHeartbeats 2000000 in
theorem c_X10_even (hI : cw_I K nn dn q w e) (hs : cw_S v f) (x1 : Int32) (x2 : Int32)  : pm_Mt l g 96 3 0 0 [.ref (q 0), .int x1, .int x2] (cw A0 g K nn dn q w e v f) (cw_Qs A0 g K nn dn q w e (fun r v2 f2 => ∃ x : Int32, r = some (.int x) ∧ (True))) := by
  refine mt_X10_even rfl (fun J hC => ?_)
  have ro_nn : cw_ro K nn := hI.2.1.2.1
  have ro_dn : cw_ro K dn := hI.2.1.2.2.1
  have hu1 := hI.2.1
  unfold cw_W at hu1
  have rg_x1 := pm_rng x1
  have rg_x2 := pm_rng x2
  have zz0 := cw_sz hI ro_nn
  refine hC.1 0 0 _ _ rfl _ _ _ _ _ ?_
  refine Exists.intro _ (And.intro (cw_o0 hI.1) ?_)
  refine Exists.intro _ (And.intro (cw_o1 hI.1) ?_)
  refine And.intro (Exists.intro _ (cw_ro_o hI.1 ro_nn)) (Exists.intro _ (Exists.intro _ (Exists.intro _ (Exists.intro _ (And.intro (c_X7_isSpan hI hs ro_nn x1 x2 ) (And.intro rfl (fun r9 A9 h9 => ?_)))))))
  rcases h9 with ⟨y2, rfl, rfl, ⟨rfl, by2⟩ | ⟨rfl, by2⟩⟩
  · skip
    have k1 : (1 : Int32).toInt = 1 := rfl
    refine And.intro (fun c9 => absurd c9 (by decide)) (fun _ => ?_)
    refine Exists.intro _ (And.intro (cw_o0 hI.1) ?_)
    refine Exists.intro _ (And.intro (cw_o0 hI.1) ?_)
    refine And.intro (Exists.intro _ (cw_o4 hI.1)) (Exists.intro _ (Exists.intro _ (Exists.intro _ (Exists.intro _ (And.intro (c_X1_evenestEnd hI hs ro_nn x1 x2 (by omega)) (And.intro rfl (fun r9 A9 h9 => ?_)))))))
    rcases h9 with ⟨v5, f5, rfl, hs5, y4, rfl, by4⟩
    refine hC.1 2 35 _ _ rfl _ _ _ _ _ ?_
    exact ⟨rfl, fun e9 => absurd e9 (by decide), rfl, v5, f5, rfl, hs5, y4, rfl, by exact True.intro⟩
  · skip
    have k0 : (0 : Int32).toInt = 0 := rfl
    refine And.intro (fun _ => ?_) (fun c9 => absurd c9 (by decide))
    refine hC.1 1 34 _ _ rfl _ _ _ _ _ ?_
    have km1 : (-1 : Int32).toInt = -1 := rfl
    refine hC.1 2 35 _ _ rfl _ _ _ _ _ ?_
    exact ⟨rfl, fun e9 => absurd e9 (by decide), rfl, v, f, rfl, hs, (-1 : Int32), rfl, by exact True.intro⟩

set_option maxRecDepth 100000 in
set_option maxHeartbeats 2000000 in
theorem c_X10_apart (hI : cw_I K nn dn q w e) (hs : cw_S v f) (x1 : Int32) (x2 : Int32) (x3 : Int32)  : pm_Mt l g 98 2 0 0 [.ref (q 0), .int x1, .int x2, .int x3] (cw A0 g K nn dn q w e v f) (cw_Qs A0 g K nn dn q w e (fun r v2 f2 => ∃ x : Int32, r = some (.int x) ∧ (True))) := by
  refine mt_X10_apart rfl (fun J hC => ?_)
  have ro_nn : cw_ro K nn := hI.2.1.2.1
  have ro_dn : cw_ro K dn := hI.2.1.2.2.1
  have hu1 := hI.2.1
  unfold cw_W at hu1
  have rg_x1 := pm_rng x1
  have rg_x2 := pm_rng x2
  have rg_x3 := pm_rng x3
  have zz0 := cw_sz hI ro_nn
  refine hC.1 0 0 _ _ rfl _ _ _ _ _ ?_
  refine Exists.intro _ (Exists.intro _ (Exists.intro _ (Exists.intro _ (And.intro (c_X10_areUnlikeColours (cw A0 g K nn dn q w e v f) x1 x2 ) (And.intro rfl (fun r9 A9 h9 => ?_))))))
  rcases h9 with ⟨y2, rfl, rfl, ⟨rfl, by2⟩ | ⟨rfl, by2⟩⟩
  · skip
    have k1 : (1 : Int32).toInt = 1 := rfl
    refine And.intro (fun _ => ?_) (fun c9 => absurd c9 (by decide))
    refine hC.1 1 10 _ _ rfl _ _ _ _ _ ?_
    refine Exists.intro _ (And.intro (cw_o0 hI.1) ?_)
    refine Exists.intro _ (And.intro (cw_o0 hI.1) ?_)
    refine Exists.intro _ (And.intro (cw_o1 hI.1) ?_)
    refine And.intro (Exists.intro _ (cw_o4 hI.1)) (Exists.intro _ (Exists.intro _ (Exists.intro _ (Exists.intro _ (And.intro (c_X1_findNearestOfTwo hI hs ro_nn x1 x2 ) (And.intro rfl (fun r9 A9 h9 => ?_)))))))
    rcases h9 with ⟨v5, f5, rfl, hs5, rfl, by4⟩
    refine Exists.intro _ (And.intro (cw_o0 hI.1) ?_)
    refine And.intro (Exists.intro _ (cw_o4 hI.1)) (Exists.intro _ (Exists.intro _ (Exists.intro _ (Exists.intro _ (And.intro (c_X1_pairFound hI hs5 x3 ) (And.intro rfl (fun r9 A9 h9 => ?_)))))))
    obtain ⟨y6, rfl, rfl, by6⟩ := h9
    exact ⟨rfl, fun e9 => absurd e9 (by decide), rfl, v5, f5, rfl, hs5, y6, rfl, by exact True.intro⟩
  · skip
    have k0 : (0 : Int32).toInt = 0 := rfl
    refine And.intro (fun c9 => absurd c9 (by decide)) (fun _ => ?_)
    have km1 : (-1 : Int32).toInt = -1 := rfl
    exact ⟨rfl, fun e9 => absurd e9 (by decide), rfl, v, f, rfl, hs, (-1 : Int32), rfl, by exact True.intro⟩

set_option maxRecDepth 100000 in
set_option maxHeartbeats 2000000 in
theorem c_X10_reach (hI : cw_I K nn dn q w e) (hs : cw_S v f) (x1 : Int32) (x2 : Int32)  : pm_Mt l g 100 3 0 0 [.ref (q 0), .int x1, .int x2] (cw A0 g K nn dn q w e v f) (cw_Qs A0 g K nn dn q w e (fun r v2 f2 => ∃ x : Int32, r = some (.int x) ∧ (True))) := by
  refine mt_X10_reach rfl (fun J hC => ?_)
  have ro_nn : cw_ro K nn := hI.2.1.2.1
  have ro_dn : cw_ro K dn := hI.2.1.2.2.1
  have hu1 := hI.2.1
  unfold cw_W at hu1
  have rg_x1 := pm_rng x1
  have rg_x2 := pm_rng x2
  have zz0 := cw_sz hI ro_nn
  refine hC.1 0 0 _ _ rfl _ _ _ _ _ ?_
  refine Exists.intro _ (And.intro (cw_o0 hI.1) ?_)
  refine Exists.intro _ (And.intro (cw_o1 hI.1) ?_)
  have k1 : (1 : Int32).toInt = 1 := rfl
  refine And.intro (fun c2 => ?_) (fun c2 => ?_)
  · skip
    refine hC.1 1 38 _ _ rfl _ _ _ _ _ ?_
    have km1 : (-1 : Int32).toInt = -1 := rfl
    refine hC.1 2 39 _ _ rfl _ _ _ _ _ ?_
    exact ⟨rfl, fun e9 => absurd e9 (by decide), rfl, v, f, rfl, hs, (-1 : Int32), rfl, by exact True.intro⟩
  · skip
    refine And.intro (Exists.intro _ (cw_ro_o hI.1 ro_nn)) (Exists.intro _ (Exists.intro _ (Exists.intro _ (Exists.intro _ (And.intro (c_X7_has hI hs ro_nn x1 ) (And.intro rfl (fun r9 A9 h9 => ?_)))))))
    rcases h9 with ⟨y3, rfl, rfl, ⟨rfl, by3⟩ | ⟨rfl, by3⟩⟩
    · skip
      refine And.intro (fun c9 => absurd c9 (by decide)) (fun _ => ?_)
      refine Exists.intro _ (And.intro (cw_o0 hI.1) ?_)
      refine Exists.intro _ (And.intro (cw_o0 hI.1) ?_)
      refine And.intro (Exists.intro _ (cw_o5 hI.1)) (Exists.intro _ (Exists.intro _ (Exists.intro _ (Exists.intro _ (And.intro (c_X6_forColours hI hs ro_nn x1 x2 (by omega)) (And.intro rfl (fun r9 A9 h9 => ?_)))))))
      rcases h9 with ⟨v6, f6, rfl, hs6, y5, rfl, by5⟩
      refine hC.1 2 39 _ _ rfl _ _ _ _ _ ?_
      exact ⟨rfl, fun e9 => absurd e9 (by decide), rfl, v6, f6, rfl, hs6, y5, rfl, by exact True.intro⟩
    · skip
      have k0 : (0 : Int32).toInt = 0 := rfl
      refine And.intro (fun _ => ?_) (fun c9 => absurd c9 (by decide))
      refine hC.1 1 38 _ _ rfl _ _ _ _ _ ?_
      have km1 : (-1 : Int32).toInt = -1 := rfl
      refine hC.1 2 39 _ _ rfl _ _ _ _ _ ?_
      exact ⟨rfl, fun e9 => absurd e9 (by decide), rfl, v, f, rfl, hs, (-1 : Int32), rfl, by exact True.intro⟩

set_option maxRecDepth 100000 in
set_option maxHeartbeats 2000000 in
theorem c_X10_reachBack (hI : cw_I K nn dn q w e) (hs : cw_S v f) (x1 : Int32) (x2 : Int32)  : pm_Mt l g 102 3 0 0 [.ref (q 0), .int x1, .int x2] (cw A0 g K nn dn q w e v f) (cw_Qs A0 g K nn dn q w e (fun r v2 f2 => ∃ x : Int32, r = some (.int x) ∧ (True))) := by
  refine mt_X10_reachBack rfl (fun J hC => ?_)
  have ro_nn : cw_ro K nn := hI.2.1.2.1
  have ro_dn : cw_ro K dn := hI.2.1.2.2.1
  have hu1 := hI.2.1
  unfold cw_W at hu1
  have rg_x1 := pm_rng x1
  have rg_x2 := pm_rng x2
  have zz0 := cw_sz hI ro_nn
  refine hC.1 0 0 _ _ rfl _ _ _ _ _ ?_
  refine Exists.intro _ (And.intro (cw_o0 hI.1) ?_)
  refine Exists.intro _ (And.intro (cw_o1 hI.1) ?_)
  have k1 : (1 : Int32).toInt = 1 := rfl
  refine And.intro (fun c2 => ?_) (fun c2 => ?_)
  · skip
    refine hC.1 1 38 _ _ rfl _ _ _ _ _ ?_
    have km1 : (-1 : Int32).toInt = -1 := rfl
    refine hC.1 2 39 _ _ rfl _ _ _ _ _ ?_
    exact ⟨rfl, fun e9 => absurd e9 (by decide), rfl, v, f, rfl, hs, (-1 : Int32), rfl, by exact True.intro⟩
  · skip
    refine And.intro (Exists.intro _ (cw_ro_o hI.1 ro_nn)) (Exists.intro _ (Exists.intro _ (Exists.intro _ (Exists.intro _ (And.intro (c_X7_has hI hs ro_nn x1 ) (And.intro rfl (fun r9 A9 h9 => ?_)))))))
    rcases h9 with ⟨y3, rfl, rfl, ⟨rfl, by3⟩ | ⟨rfl, by3⟩⟩
    · skip
      refine And.intro (fun c9 => absurd c9 (by decide)) (fun _ => ?_)
      refine Exists.intro _ (And.intro (cw_o0 hI.1) ?_)
      refine Exists.intro _ (And.intro (cw_o0 hI.1) ?_)
      refine And.intro (Exists.intro _ (cw_o5 hI.1)) (Exists.intro _ (Exists.intro _ (Exists.intro _ (Exists.intro _ (And.intro (c_X6_backForColours hI hs ro_nn x1 x2 (by omega)) (And.intro rfl (fun r9 A9 h9 => ?_)))))))
      rcases h9 with ⟨v6, f6, rfl, hs6, y5, rfl, by5⟩
      refine hC.1 2 39 _ _ rfl _ _ _ _ _ ?_
      exact ⟨rfl, fun e9 => absurd e9 (by decide), rfl, v6, f6, rfl, hs6, y5, rfl, by exact True.intro⟩
    · skip
      have k0 : (0 : Int32).toInt = 0 := rfl
      refine And.intro (fun _ => ?_) (fun c9 => absurd c9 (by decide))
      refine hC.1 1 38 _ _ rfl _ _ _ _ _ ?_
      have km1 : (-1 : Int32).toInt = -1 := rfl
      refine hC.1 2 39 _ _ rfl _ _ _ _ _ ?_
      exact ⟨rfl, fun e9 => absurd e9 (by decide), rfl, v, f, rfl, hs, (-1 : Int32), rfl, by exact True.intro⟩

set_option maxRecDepth 100000 in
set_option maxHeartbeats 2000000 in
theorem c_X10_load (hI : cw_I K nn dn q w e) (hs : cw_S v f) (x1 : Int32) (x2 : Int32)  : pm_Mt l g 104 3 0 0 [.ref (q 0), .int x1, .int x2] (cw A0 g K nn dn q w e v f) (cw_Qs A0 g K nn dn q w e (fun r v2 f2 => ∃ x : Int32, r = some (.int x) ∧ (True))) := by
  refine mt_X10_load rfl (fun J hC => ?_)
  have ro_nn : cw_ro K nn := hI.2.1.2.1
  have ro_dn : cw_ro K dn := hI.2.1.2.2.1
  have hu1 := hI.2.1
  unfold cw_W at hu1
  have rg_x1 := pm_rng x1
  have rg_x2 := pm_rng x2
  have zz0 := cw_sz hI ro_nn
  refine hC.1 0 0 _ _ rfl _ _ _ _ _ ?_
  refine Exists.intro _ (And.intro (cw_o0 hI.1) ?_)
  refine Exists.intro _ (And.intro (cw_o1 hI.1) ?_)
  have k1 : (1 : Int32).toInt = 1 := rfl
  refine And.intro (fun c2 => ?_) (fun c2 => ?_)
  · skip
    refine hC.1 1 38 _ _ rfl _ _ _ _ _ ?_
    have km1 : (-1 : Int32).toInt = -1 := rfl
    refine hC.1 2 39 _ _ rfl _ _ _ _ _ ?_
    exact ⟨rfl, fun e9 => absurd e9 (by decide), rfl, v, f, rfl, hs, (-1 : Int32), rfl, by exact True.intro⟩
  · skip
    refine And.intro (Exists.intro _ (cw_ro_o hI.1 ro_nn)) (Exists.intro _ (Exists.intro _ (Exists.intro _ (Exists.intro _ (And.intro (c_X7_has hI hs ro_nn x1 ) (And.intro rfl (fun r9 A9 h9 => ?_)))))))
    rcases h9 with ⟨y3, rfl, rfl, ⟨rfl, by3⟩ | ⟨rfl, by3⟩⟩
    · skip
      refine And.intro (fun c9 => absurd c9 (by decide)) (fun _ => ?_)
      refine Exists.intro _ (And.intro (cw_o0 hI.1) ?_)
      refine Exists.intro _ (And.intro (cw_o0 hI.1) ?_)
      refine And.intro (Exists.intro _ (cw_o5 hI.1)) (Exists.intro _ (Exists.intro _ (Exists.intro _ (Exists.intro _ (And.intro (c_X6_forMass hI hs ro_nn x1 x2 (by omega)) (And.intro rfl (fun r9 A9 h9 => ?_)))))))
      rcases h9 with ⟨v6, f6, rfl, hs6, y5, rfl, by5⟩
      refine hC.1 2 39 _ _ rfl _ _ _ _ _ ?_
      exact ⟨rfl, fun e9 => absurd e9 (by decide), rfl, v6, f6, rfl, hs6, y5, rfl, by exact True.intro⟩
    · skip
      have k0 : (0 : Int32).toInt = 0 := rfl
      refine And.intro (fun _ => ?_) (fun c9 => absurd c9 (by decide))
      refine hC.1 1 38 _ _ rfl _ _ _ _ _ ?_
      have km1 : (-1 : Int32).toInt = -1 := rfl
      refine hC.1 2 39 _ _ rfl _ _ _ _ _ ?_
      exact ⟨rfl, fun e9 => absurd e9 (by decide), rfl, v, f, rfl, hs, (-1 : Int32), rfl, by exact True.intro⟩

set_option maxRecDepth 100000 in
set_option maxHeartbeats 2000000 in
theorem c_X10_window (hI : cw_I K nn dn q w e) (hs : cw_S v f) (x1 : Int32) (x2 : Int32)  : pm_Mt l g 106 3 0 0 [.ref (q 0), .int x1, .int x2] (cw A0 g K nn dn q w e v f) (cw_Qs A0 g K nn dn q w e (fun r v2 f2 => ∃ x : Int32, r = some (.int x) ∧ (True))) := by
  refine mt_X10_window rfl (fun J hC => ?_)
  have ro_nn : cw_ro K nn := hI.2.1.2.1
  have ro_dn : cw_ro K dn := hI.2.1.2.2.1
  have hu1 := hI.2.1
  unfold cw_W at hu1
  have rg_x1 := pm_rng x1
  have rg_x2 := pm_rng x2
  have zz0 := cw_sz hI ro_nn
  refine hC.1 0 0 _ _ rfl _ _ _ _ _ ?_
  have k16777215 : (16777215 : Int32).toInt = 16777215 := rfl
  refine And.intro (fun c2 => ?_) (fun c2 => ?_)
  · skip
    have dc2 := pm_neI c2
    have k0 : (0 : Int32).toInt = 0 := rfl
    refine hC.1 1 11 _ _ rfl _ _ _ _ _ ?_
    refine Exists.intro _ (And.intro (cw_o0 hI.1) ?_)
    refine Exists.intro _ (And.intro (cw_o0 hI.1) ?_)
    refine Exists.intro _ (And.intro (cw_o1 hI.1) ?_)
    refine And.intro (Exists.intro _ (cw_o5 hI.1)) (Exists.intro _ (Exists.intro _ (Exists.intro _ (Exists.intro _ (And.intro (c_X6_findShortestWith hI hs ro_nn (x1 &&& (16777215 : Int32)) ) (And.intro rfl (fun r9 A9 h9 => ?_)))))))
    rcases h9 with ⟨v4, f4, rfl, hs4, rfl, by3⟩
    have k2 : (2 : Int32).toInt = 2 := rfl
    refine And.intro (fun c5 => ?_) (fun c5 => ?_)
    · skip
      have dc5 := pm_neI c5
      refine hC.1 2 41 _ _ rfl _ _ _ _ _ ?_
      refine Exists.intro _ (And.intro (cw_o0 hI.1) ?_)
      refine And.intro (Exists.intro _ (cw_o5 hI.1)) (Exists.intro _ (Exists.intro _ (Exists.intro _ (Exists.intro _ (And.intro (c_X6_endFound hI hs4 x2 ) (And.intro rfl (fun r9 A9 h9 => ?_)))))))
      obtain ⟨y6, rfl, rfl, by6⟩ := h9
      refine hC.1 3 49 _ _ rfl _ _ _ _ _ ?_
      exact ⟨rfl, fun e9 => absurd e9 (by decide), rfl, v4, f4, rfl, hs4, y6, rfl, by exact True.intro⟩
    · skip
      have dc5 : (x2).toInt = ((2 : Int32) : Int32).toInt := congrArg Int32.toInt c5
      refine Exists.intro _ (And.intro (cw_o0 hI.1) ?_)
      refine Exists.intro _ (And.intro (cw_o5 hI.1) ?_)
      refine hC.1 3 49 _ _ rfl _ _ _ _ _ ?_
      exact ⟨rfl, fun e9 => absurd e9 (by decide), rfl, v4, f4, rfl, hs4, (v4 10), rfl, by exact True.intro⟩
  · skip
    have dc2 : ((x1 &&& (16777215 : Int32))).toInt = (0 : Int32).toInt := congrArg Int32.toInt c2
    have k0 : (0 : Int32).toInt = 0 := rfl
    have km1 : (-1 : Int32).toInt = -1 := rfl
    exact ⟨rfl, fun e9 => absurd e9 (by decide), rfl, v, f, rfl, hs, (-1 : Int32), rfl, by exact True.intro⟩

set_option maxRecDepth 100000 in
set_option maxHeartbeats 2000000 in
theorem c_X10_longest (hI : cw_I K nn dn q w e) (hs : cw_S v f) (x1 : Int32) (x2 : Int32)  : pm_Mt l g 111 3 0 0 [.ref (q 0), .int x1, .int x2] (cw A0 g K nn dn q w e v f) (cw_Qs A0 g K nn dn q w e (fun r v2 f2 => ∃ x : Int32, r = some (.int x) ∧ (True))) := by
  refine mt_X10_longest rfl (fun J hC => ?_)
  have ro_nn : cw_ro K nn := hI.2.1.2.1
  have ro_dn : cw_ro K dn := hI.2.1.2.2.1
  have hu1 := hI.2.1
  unfold cw_W at hu1
  have rg_x1 := pm_rng x1
  have rg_x2 := pm_rng x2
  have zz0 := cw_sz hI ro_nn
  refine hC.1 0 0 _ _ rfl _ _ _ _ _ ?_
  have k1 : (1 : Int32).toInt = 1 := rfl
  refine And.intro (fun c2 => ?_) (fun c2 => ?_)
  · skip
    refine hC.1 1 7 _ _ rfl _ _ _ _ _ ?_
    refine Exists.intro _ (And.intro (cw_o0 hI.1) ?_)
    refine Exists.intro _ (And.intro (cw_o0 hI.1) ?_)
    refine Exists.intro _ (And.intro (cw_o1 hI.1) ?_)
    refine Exists.intro _ (And.intro (cw_o0 hI.1) ?_)
    refine And.intro (Exists.intro _ (cw_o5 hI.1)) (Exists.intro _ (Exists.intro _ (Exists.intro _ (Exists.intro _ (And.intro (c_X6_findLongestOf hI hs ro_nn x1 ) (And.intro rfl (fun r9 A9 h9 => ?_)))))))
    rcases h9 with ⟨v4, f4, rfl, hs4, rfl, by3⟩
    refine Exists.intro _ (And.intro (cw_o0 hI.1) ?_)
    refine And.intro (Exists.intro _ (cw_o5 hI.1)) (Exists.intro _ (Exists.intro _ (Exists.intro _ (Exists.intro _ (And.intro (c_X6_endFound hI hs4 x2 ) (And.intro rfl (fun r9 A9 h9 => ?_)))))))
    obtain ⟨y5, rfl, rfl, by5⟩ := h9
    exact ⟨rfl, fun e9 => absurd e9 (by decide), rfl, v4, f4, rfl, hs4, y5, rfl, by exact True.intro⟩
  · skip
    have km1 : (-1 : Int32).toInt = -1 := rfl
    exact ⟨rfl, fun e9 => absurd e9 (by decide), rfl, v, f, rfl, hs, (-1 : Int32), rfl, by exact True.intro⟩

set_option maxRecDepth 100000 in
set_option maxHeartbeats 2000000 in
theorem c_X10_unlike (hI : cw_I K nn dn q w e) (hs : cw_S v f) (x1 : Int32)  : pm_Mt l g 115 2 0 0 [.ref (q 0), .int x1] (cw A0 g K nn dn q w e v f) (cw_Qs A0 g K nn dn q w e (fun r v2 f2 => ∃ x : Int32, r = some (.int x) ∧ (True))) := by
  refine mt_X10_unlike rfl (fun J hC => ?_)
  have ro_nn : cw_ro K nn := hI.2.1.2.1
  have ro_dn : cw_ro K dn := hI.2.1.2.2.1
  have hu1 := hI.2.1
  unfold cw_W at hu1
  have rg_x1 := pm_rng x1
  have zz0 := cw_sz hI ro_nn
  refine hC.1 0 0 _ _ rfl _ _ _ _ _ ?_
  refine Exists.intro _ (And.intro (cw_o0 hI.1) ?_)
  refine Exists.intro _ (And.intro (cw_o0 hI.1) ?_)
  refine Exists.intro _ (And.intro (cw_o1 hI.1) ?_)
  refine And.intro (Exists.intro _ (cw_o5 hI.1)) (Exists.intro _ (Exists.intro _ (Exists.intro _ (Exists.intro _ (And.intro (c_X6_findLongestUnlike hI hs ro_nn ) (And.intro rfl (fun r9 A9 h9 => ?_)))))))
  rcases h9 with ⟨v3, f3, rfl, hs3, rfl, by2⟩
  refine Exists.intro _ (And.intro (cw_o0 hI.1) ?_)
  refine And.intro (Exists.intro _ (cw_o5 hI.1)) (Exists.intro _ (Exists.intro _ (Exists.intro _ (Exists.intro _ (And.intro (c_X6_endFound hI hs3 x1 ) (And.intro rfl (fun r9 A9 h9 => ?_)))))))
  obtain ⟨y4, rfl, rfl, by4⟩ := h9
  exact ⟨rfl, fun e9 => absurd e9 (by decide), rfl, v3, f3, rfl, hs3, y4, rfl, by exact True.intro⟩

set_option maxRecDepth 100000 in
set_option maxHeartbeats 2000000 in
theorem c_X10_heaviest (hI : cw_I K nn dn q w e) (hs : cw_S v f) (x1 : Int32) (x2 : Int32)  : pm_Mt l g 117 4 0 0 [.ref (q 0), .int x1, .int x2] (cw A0 g K nn dn q w e v f) (cw_Qs A0 g K nn dn q w e (fun r v2 f2 => ∃ x : Int32, r = some (.int x) ∧ (True))) := by
  refine mt_X10_heaviest rfl (fun J hC => ?_)
  have ro_nn : cw_ro K nn := hI.2.1.2.1
  have ro_dn : cw_ro K dn := hI.2.1.2.2.1
  have hu1 := hI.2.1
  unfold cw_W at hu1
  have rg_x1 := pm_rng x1
  have rg_x2 := pm_rng x2
  have zz0 := cw_sz hI ro_nn
  refine hC.1 0 0 _ _ rfl _ _ _ _ _ ?_
  have k1 : (1 : Int32).toInt = 1 := rfl
  refine And.intro (fun c2 => ?_) (fun c2 => ?_)
  · skip
    refine hC.1 1 19 _ _ rfl _ _ _ _ _ ?_
    have km1 : (-1 : Int32).toInt = -1 := rfl
    exact ⟨rfl, fun e9 => absurd e9 (by decide), rfl, v, f, rfl, hs, (-1 : Int32), rfl, by exact True.intro⟩
  · skip
    refine Exists.intro _ (And.intro (cw_o0 hI.1) ?_)
    refine Exists.intro _ (And.intro (cw_o1 hI.1) ?_)
    refine Exists.intro _ (And.intro (cw_ro_o hI.1 ro_nn) ?_)
    have z3 := cw_sz hI ro_nn
    refine And.intro (fun c4 => ?_) (fun c4 => ?_)
    · skip
      refine hC.1 2 21 _ _ rfl _ _ _ _ _ ?_
      refine Exists.intro _ (And.intro (cw_o0 hI.1) ?_)
      refine Exists.intro _ (And.intro (cw_o0 hI.1) ?_)
      refine Exists.intro _ (And.intro (cw_o1 hI.1) ?_)
      refine Exists.intro _ (And.intro (cw_o0 hI.1) ?_)
      refine And.intro (Exists.intro _ (cw_o5 hI.1)) (Exists.intro _ (Exists.intro _ (Exists.intro _ (Exists.intro _ (And.intro (c_X6_findHeaviest hI hs ro_nn x1 (by omega)) (And.intro rfl (fun r9 A9 h9 => ?_)))))))
      rcases h9 with ⟨v6, f6, rfl, hs6, rfl, by5⟩
      refine And.intro (fun c7 => ?_) (fun c7 => ?_)
      · skip
        have dc7 := pm_neI c7
        have k0 : (0 : Int32).toInt = 0 := rfl
        refine hC.1 3 54 _ _ rfl _ _ _ _ _ ?_
        refine And.intro (fun c8 => ?_) (fun c8 => ?_)
        · skip
          have dc8 := pm_neI c8
          refine hC.1 4 69 _ _ rfl _ _ _ _ _ ?_
          have km1 : (-1 : Int32).toInt = -1 := rfl
          refine hC.1 5 70 _ _ rfl _ _ _ _ _ ?_
          exact ⟨rfl, fun e9 => absurd e9 (by decide), rfl, v6, f6, rfl, hs6, (-1 : Int32), rfl, by exact True.intro⟩
        · skip
          have dc8 : (x2).toInt = ((1 : Int32) : Int32).toInt := congrArg Int32.toInt c8
          refine Exists.intro _ (And.intro (cw_o0 hI.1) ?_)
          refine Exists.intro _ (And.intro (cw_o5 hI.1) ?_)
          refine hC.1 5 70 _ _ rfl _ _ _ _ _ ?_
          exact ⟨rfl, fun e9 => absurd e9 (by decide), rfl, v6, f6, rfl, hs6, (v6 9), rfl, by exact True.intro⟩
      · skip
        have dc7 : (x2).toInt = (0 : Int32).toInt := congrArg Int32.toInt c7
        have k0 : (0 : Int32).toInt = 0 := rfl
        refine Exists.intro _ (And.intro (cw_o0 hI.1) ?_)
        refine Exists.intro _ (And.intro (cw_o5 hI.1) ?_)
        refine hC.1 5 70 _ _ rfl _ _ _ _ _ ?_
        exact ⟨rfl, fun e9 => absurd e9 (by decide), rfl, v6, f6, rfl, hs6, (v6 7), rfl, by exact True.intro⟩
    · skip
      refine hC.1 1 19 _ _ rfl _ _ _ _ _ ?_
      have km1 : (-1 : Int32).toInt = -1 := rfl
      exact ⟨rfl, fun e9 => absurd e9 (by decide), rfl, v, f, rfl, hs, (-1 : Int32), rfl, by exact True.intro⟩

set_option maxRecDepth 100000 in
set_option maxHeartbeats 2000000 in
theorem c_X10_distance (hI : cw_I K nn dn q w e) (hs : cw_S v f) (x1 : Int32)  : pm_Mt l g 119 4 0 0 [.ref (q 0), .int x1] (cw A0 g K nn dn q w e v f) (cw_Qs A0 g K nn dn q w e (fun r v2 f2 => ∃ x : Int32, r = some (.int x) ∧ (True))) := by
  refine mt_X10_distance rfl (fun J hC => ?_)
  have ro_nn : cw_ro K nn := hI.2.1.2.1
  have ro_dn : cw_ro K dn := hI.2.1.2.2.1
  have hu1 := hI.2.1
  unfold cw_W at hu1
  have rg_x1 := pm_rng x1
  have zz0 := cw_sz hI ro_nn
  refine hC.1 0 0 _ _ rfl _ _ _ _ _ ?_
  refine Exists.intro _ (And.intro (cw_o0 hI.1) ?_)
  refine Exists.intro _ (And.intro (cw_o1 hI.1) ?_)
  refine And.intro (Exists.intro _ (cw_ro_o hI.1 ro_nn)) (Exists.intro _ (Exists.intro _ (Exists.intro _ (Exists.intro _ (And.intro (c_X7_has hI hs ro_nn x1 ) (And.intro rfl (fun r9 A9 h9 => ?_)))))))
  rcases h9 with ⟨y2, rfl, rfl, ⟨rfl, by2⟩ | ⟨rfl, by2⟩⟩
  · skip
    have k1 : (1 : Int32).toInt = 1 := rfl
    refine And.intro (fun c9 => absurd c9 (by decide)) (fun _ => ?_)
    refine Exists.intro _ (And.intro (cw_ro_o hI.1 ro_nn) ?_)
    refine Exists.intro _ (Exists.intro _ (And.intro (Or.inl (cw_ro_3 hI.1 ro_nn)) (And.intro (by omega) ?_)))
    have w4 := cw_ahd hI ro_nn (x1).toInt.toNat
    have km1 : (-1 : Int32).toInt = -1 := rfl
    refine And.intro (fun c5 => ?_) (fun c5 => ?_)
    · skip
      have dc5 := pm_neI c5
      refine hC.1 2 28 _ _ rfl _ _ _ _ _ ?_
      refine Exists.intro _ (And.intro (cw_ro_o hI.1 ro_nn) ?_)
      refine Exists.intro _ (Exists.intro _ (And.intro (Or.inl (cw_ro_3 hI.1 ro_nn)) (And.intro (by omega) ?_)))
      have w6 := cw_ahd hI ro_nn (x1).toInt.toNat
      intro m7 em_37
      try have e7 : m7.toInt = ((e (nn + 3) (x1).toInt.toNat)).toInt + (1) := by rw [em_37]; exact pm_addc _ _ (1) rfl (by omega) (by omega)
      intro m8 em_40
      try have e8 : m8.toInt = (x1).toInt - (1) := by rw [em_40]; exact pm_subc _ _ (1) rfl (by omega) (by omega)
      refine And.intro (Exists.intro _ (cw_o0 hI.1)) (Exists.intro _ (Exists.intro _ (Exists.intro _ (Exists.intro _ (And.intro (c_X10_colourNumber hI hs ro_nn m7 m8 ) (And.intro rfl (fun r9 A9 h9 => ?_)))))))
      rcases h9 with ⟨v10, f10, rfl, hs10, y9, rfl, by9⟩
      exact ⟨rfl, fun e9 => absurd e9 (by decide), rfl, v10, f10, rfl, hs10, y9, rfl, by exact True.intro⟩
    · skip
      have dc5 : ((e (nn + 3) (x1).toInt.toNat)).toInt = ((-1 : Int32) : Int32).toInt := congrArg Int32.toInt c5
      refine hC.1 1 26 _ _ rfl _ _ _ _ _ ?_
      exact ⟨rfl, fun e9 => absurd e9 (by decide), rfl, v, f, rfl, hs, (-1 : Int32), rfl, by exact True.intro⟩
  · skip
    have k0 : (0 : Int32).toInt = 0 := rfl
    refine And.intro (fun _ => ?_) (fun c9 => absurd c9 (by decide))
    refine hC.1 1 26 _ _ rfl _ _ _ _ _ ?_
    have km1 : (-1 : Int32).toInt = -1 := rfl
    exact ⟨rfl, fun e9 => absurd e9 (by decide), rfl, v, f, rfl, hs, (-1 : Int32), rfl, by exact True.intro⟩

set_option maxRecDepth 100000 in
set_option maxHeartbeats 2000000 in
theorem c_X10_misses (hI : cw_I K nn dn q w e) (hs : cw_S v f) (x1 : Int32) (x2 : Int32)  : pm_Mt l g 120 3 0 0 [.ref (q 0), .int x1, .int x2] (cw A0 g K nn dn q w e v f) (cw_Qs A0 g K nn dn q w e (fun r v2 f2 => ∃ x : Int32, r = some (.int x) ∧ (True))) := by
  refine mt_X10_misses rfl (fun J hC => ?_)
  have ro_nn : cw_ro K nn := hI.2.1.2.1
  have ro_dn : cw_ro K dn := hI.2.1.2.2.1
  have hu1 := hI.2.1
  unfold cw_W at hu1
  have rg_x1 := pm_rng x1
  have rg_x2 := pm_rng x2
  have zz0 := cw_sz hI ro_nn
  refine hC.1 0 0 _ _ rfl _ _ _ _ _ ?_
  refine Exists.intro _ (Exists.intro _ (Exists.intro _ (Exists.intro _ (And.intro (c_X8_canBe (cw A0 g K nn dn q w e v f) x1 x2 ) (And.intro rfl (fun r9 A9 h9 => ?_))))))
  rcases h9 with ⟨y2, rfl, rfl, ⟨rfl, by2⟩ | ⟨rfl, by2⟩⟩
  · skip
    have k1 : (1 : Int32).toInt = 1 := rfl
    refine And.intro (fun _ => ?_) (fun c9 => absurd c9 (by decide))
    refine hC.1 1 10 _ _ rfl _ _ _ _ _ ?_
    refine Exists.intro _ (And.intro (cw_o0 hI.1) ?_)
    refine Exists.intro _ (And.intro (cw_o0 hI.1) ?_)
    refine Exists.intro _ (And.intro (cw_o1 hI.1) ?_)
    refine Exists.intro _ (And.intro (cw_o0 hI.1) ?_)
    refine Exists.intro _ (And.intro (cw_o1 hI.1) ?_)
    refine Exists.intro _ (And.intro (cw_ro_o hI.1 ro_nn) ?_)
    have z4 := cw_sz hI ro_nn
    intro m5 em_32
    try have e5 : m5.toInt = ((w nn)).toInt - (1) := by rw [em_32]; exact pm_subc _ _ (1) rfl (by omega) (by omega)
    refine And.intro (Exists.intro _ (cw_o6 hI.1)) (Exists.intro _ (Exists.intro _ (Exists.intro _ (Exists.intro _ (And.intro (c_X8_goThrough hI hs ro_nn m5 x1 x2 ) (And.intro rfl (fun r9 A9 h9 => ?_)))))))
    rcases h9 with ⟨v7, f7, rfl, hs7, rfl, by6⟩
    refine Exists.intro _ (And.intro (cw_o0 hI.1) ?_)
    refine Exists.intro _ (And.intro (cw_o6 hI.1) ?_)
    exact ⟨rfl, fun e9 => absurd e9 (by decide), rfl, v7, f7, rfl, hs7, (v7 11), rfl, by exact True.intro⟩
  · skip
    have k0 : (0 : Int32).toInt = 0 := rfl
    refine And.intro (fun c9 => absurd c9 (by decide)) (fun _ => ?_)
    have km1 : (-1 : Int32).toInt = -1 := rfl
    exact ⟨rfl, fun e9 => absurd e9 (by decide), rfl, v, f, rfl, hs, (-1 : Int32), rfl, by exact True.intro⟩

set_option maxRecDepth 100000 in
set_option maxHeartbeats 2000000 in
theorem c_X10_shelf (hI : cw_I K nn dn q w e) (hs : cw_S v f) (x1 : Int32) (x2 : Int32) (x3 : Int32)  : pm_Mt l g 126 3 0 0 [.ref (q 0), .int x1, .int x2, .int x3] (cw A0 g K nn dn q w e v f) (cw_Qs A0 g K nn dn q w e (fun r v2 f2 => ∃ x : Int32, r = some (.int x) ∧ (True))) := by
  refine mt_X10_shelf rfl (fun J hC => ?_)
  have ro_nn : cw_ro K nn := hI.2.1.2.1
  have ro_dn : cw_ro K dn := hI.2.1.2.2.1
  have hu1 := hI.2.1
  unfold cw_W at hu1
  have rg_x1 := pm_rng x1
  have rg_x2 := pm_rng x2
  have rg_x3 := pm_rng x3
  have zz0 := cw_sz hI ro_nn
  refine hC.1 0 0 _ _ rfl _ _ _ _ _ ?_
  refine Exists.intro _ (And.intro (cw_o0 hI.1) ?_)
  refine Exists.intro _ (And.intro (cw_o1 hI.1) ?_)
  refine And.intro (Exists.intro _ (cw_ro_o hI.1 ro_nn)) (Exists.intro _ (Exists.intro _ (Exists.intro _ (Exists.intro _ (And.intro (c_X7_has hI hs ro_nn x1 ) (And.intro rfl (fun r9 A9 h9 => ?_)))))))
  rcases h9 with ⟨y2, rfl, rfl, ⟨rfl, by2⟩ | ⟨rfl, by2⟩⟩
  · skip
    have k1 : (1 : Int32).toInt = 1 := rfl
    refine And.intro (fun c9 => absurd c9 (by decide)) (fun _ => ?_)
    refine Exists.intro _ (Exists.intro _ (Exists.intro _ (Exists.intro _ (And.intro (c_X8_canBe (cw A0 g K nn dn q w e v f) x2 x3 ) (And.intro rfl (fun r9 A9 h9 => ?_))))))
    rcases h9 with ⟨y4, rfl, rfl, ⟨rfl, by4⟩ | ⟨rfl, by4⟩⟩
    · skip
      refine And.intro (fun _ => ?_) (fun c9 => absurd c9 (by decide))
      refine hC.1 2 24 _ _ rfl _ _ _ _ _ ?_
      refine Exists.intro _ (And.intro (cw_o0 hI.1) ?_)
      refine Exists.intro _ (And.intro (cw_o0 hI.1) ?_)
      refine Exists.intro _ (And.intro (cw_o1 hI.1) ?_)
      refine And.intro (Exists.intro _ (cw_o6 hI.1)) (Exists.intro _ (Exists.intro _ (Exists.intro _ (Exists.intro _ (And.intro (c_X8_goThrough hI hs ro_nn x1 x2 x3 ) (And.intro rfl (fun r9 A9 h9 => ?_)))))))
      rcases h9 with ⟨v7, f7, rfl, hs7, rfl, by6⟩
      refine Exists.intro _ (And.intro (cw_o0 hI.1) ?_)
      refine Exists.intro _ (And.intro (cw_o6 hI.1) ?_)
      exact ⟨rfl, fun e9 => absurd e9 (by decide), rfl, v7, f7, rfl, hs7, (v7 12), rfl, by exact True.intro⟩
    · skip
      have k0 : (0 : Int32).toInt = 0 := rfl
      refine And.intro (fun c9 => absurd c9 (by decide)) (fun _ => ?_)
      refine hC.1 1 22 _ _ rfl _ _ _ _ _ ?_
      have km1 : (-1 : Int32).toInt = -1 := rfl
      exact ⟨rfl, fun e9 => absurd e9 (by decide), rfl, v, f, rfl, hs, (-1 : Int32), rfl, by exact True.intro⟩
  · skip
    have k0 : (0 : Int32).toInt = 0 := rfl
    refine And.intro (fun _ => ?_) (fun c9 => absurd c9 (by decide))
    refine hC.1 1 22 _ _ rfl _ _ _ _ _ ?_
    have km1 : (-1 : Int32).toInt = -1 := rfl
    exact ⟨rfl, fun e9 => absurd e9 (by decide), rfl, v, f, rfl, hs, (-1 : Int32), rfl, by exact True.intro⟩

end
end
section
section
variable {l : Launch} {g : pm_G} {A0 : pm_H} {K nn dn : Nat} {q : Nat → Nat} {w : Nat → Int32} {e : Nat → Nat → Int32} {v : Nat → Int32} {f : Nat → Nat → Int32}
set_option maxRecDepth 100000 in
set_option maxHeartbeats 2000000 in
theorem c_X10_suffices (hI : cw_I K nn dn q w e) (hs : cw_S v f) (x1 : Int32) (x2 : Int32)  : pm_Mt l g 127 3 0 0 [.ref (q 0), .int x1, .int x2] (cw A0 g K nn dn q w e v f) (cw_Qs A0 g K nn dn q w e (fun r v2 f2 => ∃ x : Int32, r = some (.int x) ∧ (True))) := by
  refine mt_X10_suffices rfl (fun J hC => ?_)
  have ro_nn : cw_ro K nn := hI.2.1.2.1
  have ro_dn : cw_ro K dn := hI.2.1.2.2.1
  have hu1 := hI.2.1
  unfold cw_W at hu1
  have rg_x1 := pm_rng x1
  have rg_x2 := pm_rng x2
  have zz0 := cw_sz hI ro_nn
  refine hC.1 0 0 _ _ rfl _ _ _ _ _ ?_
  refine And.intro (fun c2 => ?_) (fun c2 => ?_)
  · skip
    refine hC.1 1 6 _ _ rfl _ _ _ _ _ ?_
    have k1 : (1 : Int32).toInt = 1 := rfl
    have lp4 : ∀ (n : Nat) (z3_8 : Int32) (v3 : Nat → Int32) (f3 : Nat → Nat → Int32), cw_S v3 f3 → (1 ≤ z3_8.toInt ∧ z3_8.toInt ≤ 25) → 200 - z3_8.toInt < (n : Int) → J 8 [some (.ref (q 0)), some (.int x1), some (.int x2), some (.int z3_8)] [] (cw A0 g K nn dn q w e v3 f3) 0 0 := by
      intro n
      induction n with
      | zero =>
        intro z3_8 v3 f3 hs3 j0_8 j1_8
        omega
      | succ n ih5 =>
        intro z3_8 v3 f3 hs3 j0_8 j1_8
        refine hC.1 2 8 _ _ rfl _ _ _ _ _ ?_
        have k24 : (24 : Int32).toInt = 24 := rfl
        refine And.intro (fun c6 => ?_) (fun c6 => ?_)
        · skip
          refine hC.1 4 69 _ _ rfl _ _ _ _ _ ?_
          have km1 : (-1 : Int32).toInt = -1 := rfl
          exact ⟨rfl, fun e9 => absurd e9 (by decide), rfl, v3, f3, rfl, hs3, (-1 : Int32), rfl, by exact True.intro⟩
        · skip
          refine Exists.intro _ (Exists.intro _ (Exists.intro _ (Exists.intro _ (And.intro (c_X8_canBe (cw A0 g K nn dn q w e v3 f3) z3_8 x2 ) (And.intro rfl (fun r9 A9 h9 => ?_))))))
          rcases h9 with ⟨y7, rfl, rfl, ⟨rfl, by7⟩ | ⟨rfl, by7⟩⟩
          · skip
            refine And.intro (fun c9 => absurd c9 (by decide)) (fun _ => ?_)
            refine Exists.intro _ (And.intro (cw_o0 hI.1) ?_)
            refine Exists.intro _ (And.intro (cw_o0 hI.1) ?_)
            refine Exists.intro _ (And.intro (cw_o1 hI.1) ?_)
            refine Exists.intro _ (And.intro (cw_o0 hI.1) ?_)
            refine Exists.intro _ (And.intro (cw_o1 hI.1) ?_)
            refine Exists.intro _ (And.intro (cw_ro_o hI.1 ro_nn) ?_)
            have z9 := cw_sz hI ro_nn
            intro m10 em_44
            try have e10 : m10.toInt = ((w nn)).toInt - (1) := by rw [em_44]; exact pm_subc _ _ (1) rfl (by omega) (by omega)
            refine And.intro (Exists.intro _ (cw_o6 hI.1)) (Exists.intro _ (Exists.intro _ (Exists.intro _ (Exists.intro _ (And.intro (c_X8_goThrough hI hs3 ro_nn m10 z3_8 x2 ) (And.intro rfl (fun r9 A9 h9 => ?_)))))))
            rcases h9 with ⟨v12, f12, rfl, hs12, rfl, by11⟩
            refine Exists.intro _ (And.intro (cw_o0 hI.1) ?_)
            refine Exists.intro _ (And.intro (cw_o6 hI.1) ?_)
            refine And.intro (fun c13 => ?_) (fun c13 => ?_)
            · skip
              refine hC.1 3 63 _ _ rfl _ _ _ _ _ ?_
              intro m14 em_63
              try have e14 : m14.toInt = (z3_8).toInt + (1) := by rw [em_63]; exact pm_addc _ _ (1) rfl (by omega) (by omega)
              exact ih5 m14 v12 f12 hs12 (by omega) (by omega)
            · skip
              exact ⟨rfl, fun e9 => absurd e9 (by decide), rfl, v12, f12, rfl, hs12, z3_8, rfl, by exact True.intro⟩
          · skip
            have k0 : (0 : Int32).toInt = 0 := rfl
            refine And.intro (fun _ => ?_) (fun c9 => absurd c9 (by decide))
            refine hC.1 4 69 _ _ rfl _ _ _ _ _ ?_
            have km1 : (-1 : Int32).toInt = -1 := rfl
            exact ⟨rfl, fun e9 => absurd e9 (by decide), rfl, v3, f3, rfl, hs3, (-1 : Int32), rfl, by exact True.intro⟩
    exact lp4 (200 - (1 : Int32).toInt).toNat.succ (1 : Int32) v f hs (by omega) (by omega)
  · skip
    have km1 : (-1 : Int32).toInt = -1 := rfl
    exact ⟨rfl, fun e9 => absurd e9 (by decide), rfl, v, f, rfl, hs, (-1 : Int32), rfl, by exact True.intro⟩

set_option maxRecDepth 100000 in
set_option maxHeartbeats 2000000 in
theorem c_X10_just (hI : cw_I K nn dn q w e) (hs : cw_S v f) (x1 : Int32)  : pm_Mt l g 128 3 0 0 [.ref (q 0), .int x1] (cw A0 g K nn dn q w e v f) (cw_Qs A0 g K nn dn q w e (fun r v2 f2 => ∃ x : Int32, r = some (.int x) ∧ (True))) := by
  refine mt_X10_just rfl (fun J hC => ?_)
  have ro_nn : cw_ro K nn := hI.2.1.2.1
  have ro_dn : cw_ro K dn := hI.2.1.2.2.1
  have hu1 := hI.2.1
  unfold cw_W at hu1
  have rg_x1 := pm_rng x1
  have zz0 := cw_sz hI ro_nn
  refine hC.1 0 0 _ _ rfl _ _ _ _ _ ?_
  have k1 : (1 : Int32).toInt = 1 := rfl
  refine And.intro (fun c2 => ?_) (fun c2 => ?_)
  · skip
    refine hC.1 1 7 _ _ rfl _ _ _ _ _ ?_
    refine Exists.intro _ (And.intro (cw_o0 hI.1) ?_)
    refine Exists.intro _ (And.intro (cw_o1 hI.1) ?_)
    refine Exists.intro _ (And.intro (cw_o0 hI.1) ?_)
    refine Exists.intro _ (And.intro (cw_o0 hI.1) ?_)
    refine And.intro (Exists.intro _ (cw_o7 hI.1)) (Exists.intro _ (Exists.intro _ (Exists.intro _ (Exists.intro _ (And.intro (c_X4_spansUpTo hI hs ro_nn x1 ) (And.intro rfl (fun r9 A9 h9 => ?_)))))))
    rcases h9 with ⟨v4, f4, rfl, hs4, y3, rfl, by3⟩
    refine Exists.intro _ (And.intro (cw_o0 hI.1) ?_)
    refine Exists.intro _ (And.intro (cw_o0 hI.1) ?_)
    intro m5 em_39
    try have e5 : m5.toInt = (x1).toInt - (1) := by rw [em_39]; exact pm_subc _ _ (1) rfl (by omega) (by omega)
    refine And.intro (Exists.intro _ (cw_o7 hI.1)) (Exists.intro _ (Exists.intro _ (Exists.intro _ (Exists.intro _ (And.intro (c_X4_spansUpTo hI hs4 ro_nn m5 ) (And.intro rfl (fun r9 A9 h9 => ?_)))))))
    rcases h9 with ⟨v7, f7, rfl, hs7, y6, rfl, by6⟩
    intro m8 em_43
    try have e8 : m8.toInt = (y3).toInt - (y6).toInt := by rw [em_43]; exact pm_sub _ _ (by omega) (by omega)
    exact ⟨rfl, fun e9 => absurd e9 (by decide), rfl, v7, f7, rfl, hs7, m8, rfl, by exact True.intro⟩
  · skip
    have k0 : (0 : Int32).toInt = 0 := rfl
    exact ⟨rfl, fun e9 => absurd e9 (by decide), rfl, v, f, rfl, hs, (0 : Int32), rfl, by exact True.intro⟩

set_option maxRecDepth 100000 in
set_option maxHeartbeats 2000000 in
theorem c_X10_all (hI : cw_I K nn dn q w e) (hs : cw_S v f)   : pm_Mt l g 130 0 0 0 [.ref (q 0)] (cw A0 g K nn dn q w e v f) (md_Qj (cw A0 g K nn dn q w e v f) (fun r => True)) := by
  refine mt_X10_all rfl (fun J hC => ?_)
  have ro_nn : cw_ro K nn := hI.2.1.2.1
  have ro_dn : cw_ro K dn := hI.2.1.2.2.1
  have hu1 := hI.2.1
  unfold cw_W at hu1
  have zz0 := cw_sz hI ro_nn
  refine hC.1 0 0 _ _ rfl _ _ _ _ _ ?_
  refine Exists.intro _ (And.intro (cw_o0 hI.1) ?_)
  refine Exists.intro _ (And.intro (cw_o1 hI.1) ?_)
  have k0 : (0 : Int32).toInt = 0 := rfl
  have lp3 : ∀ (n : Nat) (z2_13 : Int64) (z4_13 : Int32), (0 ≤ z4_13.toInt ∧ z4_13.toInt ≤ 160) → 200 - z4_13.toInt < (n : Int) → J 13 [some (.ref (q 0)), some (.ref (q nn)), some (.long z2_13), none, some (.int z4_13)] [] (cw A0 g K nn dn q w e v f) 0 0 := by
    intro n
    induction n with
    | zero =>
      intro z2_13 z4_13 j0_13 j1_13
      omega
    | succ n ih4 =>
      intro z2_13 z4_13 j0_13 j1_13
      refine hC.1 1 13 _ _ rfl _ _ _ _ _ ?_
      refine Exists.intro _ (And.intro (cw_ro_o hI.1 ro_nn) ?_)
      have z5 := cw_sz hI ro_nn
      refine And.intro (fun c6 => ?_) (fun c6 => ?_)
      · skip
        refine hC.1 2 51 _ _ rfl _ _ _ _ _ ?_
        exact ⟨rfl, rfl, z2_13, rfl, rfl, by exact True.intro⟩
      · skip
        refine Exists.intro _ (And.intro (cw_ro_o hI.1 ro_nn) ?_)
        refine Exists.intro _ (Exists.intro _ (And.intro (Or.inl (cw_ro_3 hI.1 ro_nn)) (And.intro (by omega) ?_)))
        have w7 := cw_ahd hI ro_nn (z4_13).toInt.toNat
        intro m8 em_32
        try have e8 : m8.toInt = (z4_13).toInt - ((e (nn + 3) (z4_13).toInt.toNat)).toInt := by rw [em_32]; exact pm_sub _ _ (by omega) (by omega)
        refine Exists.intro _ (And.intro (cw_ro_o hI.1 ro_nn) ?_)
        have z9 := cw_sz hI ro_nn
        intro m10 em_40
        try have e10 : m10.toInt = ((w nn)).toInt - (z4_13).toInt := by rw [em_40]; exact pm_sub _ _ (by omega) (by omega)
        have k1 : (1 : Int32).toInt = 1 := rfl
        intro m11 em_45
        try have e11 : m11.toInt = (z4_13).toInt + (1) := by rw [em_45]; exact pm_addc _ _ (1) rfl (by omega) (by omega)
        exact ih4 (z2_13 + ((m8).toInt64 * (m10).toInt64)) m11 (by omega) (by omega)
  exact lp3 (200 - (0 : Int32).toInt).toNat.succ (Int64.ofNat 0) (0 : Int32) (by omega) (by omega)

set_option maxRecDepth 100000 in
set_option maxHeartbeats 2000000 in
theorem c_X10_sets (hI : cw_I K nn dn q w e) (hs : cw_S v f) (x1 : Int32)  : pm_Mt l g 131 4 0 0 [.ref (q 0), .int x1] (cw A0 g K nn dn q w e v f) (cw_Qs A0 g K nn dn q w e (fun r v2 f2 => ∃ x : Int32, r = some (.int x) ∧ (True))) := by
  refine mt_X10_sets rfl (fun J hC => ?_)
  have ro_nn : cw_ro K nn := hI.2.1.2.1
  have ro_dn : cw_ro K dn := hI.2.1.2.2.1
  have hu1 := hI.2.1
  unfold cw_W at hu1
  have rg_x1 := pm_rng x1
  have zz0 := cw_sz hI ro_nn
  refine hC.1 0 0 _ _ rfl _ _ _ _ _ ?_
  have k1 : (1 : Int32).toInt = 1 := rfl
  refine And.intro (fun c2 => ?_) (fun c2 => ?_)
  · skip
    refine hC.1 1 41 _ _ rfl _ _ _ _ _ ?_
    have k0 : (0 : Int32).toInt = 0 := rfl
    refine hC.1 2 42 _ _ rfl _ _ _ _ _ ?_
    exact ⟨rfl, fun e9 => absurd e9 (by decide), rfl, v, f, rfl, hs, (0 : Int32), rfl, by exact True.intro⟩
  · skip
    refine Exists.intro _ (And.intro (cw_o0 hI.1) ?_)
    refine Exists.intro _ (And.intro (cw_o1 hI.1) ?_)
    refine Exists.intro _ (And.intro (cw_ro_o hI.1 ro_nn) ?_)
    have z3 := cw_sz hI ro_nn
    refine And.intro (fun c4 => ?_) (fun c4 => ?_)
    · skip
      refine hC.1 1 41 _ _ rfl _ _ _ _ _ ?_
      have k0 : (0 : Int32).toInt = 0 := rfl
      refine hC.1 2 42 _ _ rfl _ _ _ _ _ ?_
      exact ⟨rfl, fun e9 => absurd e9 (by decide), rfl, v, f, rfl, hs, (0 : Int32), rfl, by exact True.intro⟩
    · skip
      refine Exists.intro _ (And.intro (cw_o0 hI.1) ?_)
      refine Exists.intro _ (And.intro (cw_o0 hI.1) ?_)
      refine Exists.intro _ (And.intro (cw_o1 hI.1) ?_)
      refine Exists.intro _ (And.intro (cw_o0 hI.1) ?_)
      refine And.intro (Exists.intro _ (cw_o7 hI.1)) (Exists.intro _ (Exists.intro _ (Exists.intro _ (Exists.intro _ (And.intro (c_X4_unlikeSets hI hs ro_nn x1 (by omega)) (And.intro rfl (fun r9 A9 h9 => ?_)))))))
      rcases h9 with ⟨v6, f6, rfl, hs6, y5, rfl, by5⟩
      refine hC.1 2 42 _ _ rfl _ _ _ _ _ ?_
      exact ⟨rfl, fun e9 => absurd e9 (by decide), rfl, v6, f6, rfl, hs6, y5, rfl, by exact True.intro⟩

set_option maxRecDepth 100000 in
set_option maxHeartbeats 2000000 in
theorem c_X10_match (hI : cw_I K nn dn q w e) (hs : cw_S v f) (x1 : Int32) (x2 : Int32) (x3 : Int32)  : pm_Mt l g 134 3 0 0 [.ref (q 0), .int x1, .int x2, .int x3] (cw A0 g K nn dn q w e v f) (md_Qp (cw A0 g K nn dn q w e v f) (fun r => True)) := by
  refine mt_X10_match rfl (fun J hC => ?_)
  have ro_nn : cw_ro K nn := hI.2.1.2.1
  have ro_dn : cw_ro K dn := hI.2.1.2.2.1
  have hu1 := hI.2.1
  unfold cw_W at hu1
  have rg_x1 := pm_rng x1
  have rg_x2 := pm_rng x2
  have rg_x3 := pm_rng x3
  have zz0 := cw_sz hI ro_nn
  refine hC.1 0 0 _ _ rfl _ _ _ _ _ ?_
  refine Exists.intro _ (And.intro (cw_o0 hI.1) ?_)
  refine Exists.intro _ (And.intro (cw_o1 hI.1) ?_)
  refine And.intro (Exists.intro _ (cw_ro_o hI.1 ro_nn)) (Exists.intro _ (Exists.intro _ (Exists.intro _ (Exists.intro _ (And.intro (c_X7_isSpan hI hs ro_nn x1 x2 ) (And.intro rfl (fun r9 A9 h9 => ?_)))))))
  rcases h9 with ⟨y2, rfl, rfl, ⟨rfl, by2⟩ | ⟨rfl, by2⟩⟩
  · skip
    have k1 : (1 : Int32).toInt = 1 := rfl
    refine And.intro (fun c9 => absurd c9 (by decide)) (fun _ => ?_)
    have km1 : (-1 : Int32).toInt = -1 := rfl
    refine And.intro (fun c4 => ?_) (fun c4 => ?_)
    · skip
      refine hC.1 2 22 _ _ rfl _ _ _ _ _ ?_
      refine Exists.intro _ (And.intro (cw_o0 hI.1) ?_)
      refine Exists.intro _ (And.intro (cw_o0 hI.1) ?_)
      refine Exists.intro _ (And.intro (cw_o1 hI.1) ?_)
      refine And.intro (Exists.intro _ (cw_o7 hI.1)) (Exists.intro _ (Exists.intro _ (Exists.intro _ (Exists.intro _ (And.intro (c_X4_matching hI hs ro_nn x1 x2 x3 (by omega)) (And.intro rfl (fun r9 A9 h9 => ?_)))))))
      obtain ⟨y5, rfl, rfl, by5⟩ := h9
      exact ⟨rfl, fun e9 => absurd e9 (by decide), rfl, y5, rfl, rfl, by exact True.intro⟩
    · skip
      refine hC.1 1 20 _ _ rfl _ _ _ _ _ ?_
      exact ⟨rfl, fun e9 => absurd e9 (by decide), rfl, (-1 : Int32), rfl, rfl, by exact True.intro⟩
  · skip
    have k0 : (0 : Int32).toInt = 0 := rfl
    refine And.intro (fun _ => ?_) (fun c9 => absurd c9 (by decide))
    refine hC.1 1 20 _ _ rfl _ _ _ _ _ ?_
    have km1 : (-1 : Int32).toInt = -1 := rfl
    exact ⟨rfl, fun e9 => absurd e9 (by decide), rfl, (-1 : Int32), rfl, rfl, by exact True.intro⟩

set_option maxRecDepth 100000 in
set_option maxHeartbeats 2000000 in
theorem c_X10_twin (hI : cw_I K nn dn q w e) (hs : cw_S v f) (x1 : Int32)  : pm_Mt l g 138 3 0 0 [.ref (q 0), .int x1] (cw A0 g K nn dn q w e v f) (cw_Qs A0 g K nn dn q w e (fun r v2 f2 => ∃ x : Int32, r = some (.int x) ∧ (True))) := by
  refine mt_X10_twin rfl (fun J hC => ?_)
  have ro_nn : cw_ro K nn := hI.2.1.2.1
  have ro_dn : cw_ro K dn := hI.2.1.2.2.1
  have hu1 := hI.2.1
  unfold cw_W at hu1
  have rg_x1 := pm_rng x1
  have zz0 := cw_sz hI ro_nn
  refine hC.1 0 0 _ _ rfl _ _ _ _ _ ?_
  refine Exists.intro _ (And.intro (cw_o0 hI.1) ?_)
  refine Exists.intro _ (And.intro (cw_o0 hI.1) ?_)
  refine Exists.intro _ (And.intro (cw_o1 hI.1) ?_)
  refine And.intro (Exists.intro _ (cw_o7 hI.1)) (Exists.intro _ (Exists.intro _ (Exists.intro _ (Exists.intro _ (And.intro (c_X4_findTwin hI hs ro_nn ) (And.intro rfl (fun r9 A9 h9 => ?_)))))))
  rcases h9 with ⟨v3, f3, rfl, hs3, rfl, by2⟩
  refine Exists.intro _ (And.intro (cw_o0 hI.1) ?_)
  refine Exists.intro _ (And.intro (cw_o7 hI.1) ?_)
  refine And.intro (fun c4 => ?_) (fun c4 => ?_)
  · skip
    have dc4 := pm_neI c4
    have k0 : (0 : Int32).toInt = 0 := rfl
    refine hC.1 1 26 _ _ rfl _ _ _ _ _ ?_
    refine And.intro (fun c5 => ?_) (fun c5 => ?_)
    · skip
      have dc5 := pm_neI c5
      refine hC.1 2 40 _ _ rfl _ _ _ _ _ ?_
      have k1 : (1 : Int32).toInt = 1 := rfl
      refine And.intro (fun c6 => ?_) (fun c6 => ?_)
      · skip
        have dc6 := pm_neI c6
        refine hC.1 3 55 _ _ rfl _ _ _ _ _ ?_
        have km1 : (-1 : Int32).toInt = -1 := rfl
        refine hC.1 4 56 _ _ rfl _ _ _ _ _ ?_
        exact ⟨rfl, fun e9 => absurd e9 (by decide), rfl, v3, f3, rfl, hs3, (-1 : Int32), rfl, by exact True.intro⟩
      · skip
        have dc6 : (x1).toInt = ((1 : Int32) : Int32).toInt := congrArg Int32.toInt c6
        refine Exists.intro _ (And.intro (cw_o0 hI.1) ?_)
        refine Exists.intro _ (And.intro (cw_o7 hI.1) ?_)
        refine hC.1 4 56 _ _ rfl _ _ _ _ _ ?_
        exact ⟨rfl, fun e9 => absurd e9 (by decide), rfl, v3, f3, rfl, hs3, (v3 14), rfl, by exact True.intro⟩
    · skip
      have dc5 : (x1).toInt = (0 : Int32).toInt := congrArg Int32.toInt c5
      refine Exists.intro _ (And.intro (cw_o0 hI.1) ?_)
      refine Exists.intro _ (And.intro (cw_o7 hI.1) ?_)
      refine hC.1 4 56 _ _ rfl _ _ _ _ _ ?_
      exact ⟨rfl, fun e9 => absurd e9 (by decide), rfl, v3, f3, rfl, hs3, (v3 13), rfl, by exact True.intro⟩
  · skip
    have dc4 : ((v3 14)).toInt = (0 : Int32).toInt := congrArg Int32.toInt c4
    have k0 : (0 : Int32).toInt = 0 := rfl
    have km1 : (-1 : Int32).toInt = -1 := rfl
    exact ⟨rfl, fun e9 => absurd e9 (by decide), rfl, v3, f3, rfl, hs3, (-1 : Int32), rfl, by exact True.intro⟩

set_option maxRecDepth 100000 in
set_option maxHeartbeats 2000000 in
theorem c_X10_parts (hI : cw_I K nn dn q w e) (hs : cw_S v f) (x1 : Int32) (x2 : Int32)  : pm_Mt l g 141 3 0 0 [.ref (q 0), .int x1, .int x2] (cw A0 g K nn dn q w e v f) (cw_Qs A0 g K nn dn q w e (fun r v2 f2 => ∃ x : Int32, r = some (.int x) ∧ (True))) := by
  refine mt_X10_parts rfl (fun J hC => ?_)
  have ro_nn : cw_ro K nn := hI.2.1.2.1
  have ro_dn : cw_ro K dn := hI.2.1.2.2.1
  have hu1 := hI.2.1
  unfold cw_W at hu1
  have rg_x1 := pm_rng x1
  have rg_x2 := pm_rng x2
  have zz0 := cw_sz hI ro_nn
  refine hC.1 0 0 _ _ rfl _ _ _ _ _ ?_
  have k1 : (1 : Int32).toInt = 1 := rfl
  refine And.intro (fun c2 => ?_) (fun c2 => ?_)
  · skip
    refine hC.1 1 33 _ _ rfl _ _ _ _ _ ?_
    have km1 : (-1 : Int32).toInt = -1 := rfl
    refine hC.1 2 34 _ _ rfl _ _ _ _ _ ?_
    exact ⟨rfl, fun e9 => absurd e9 (by decide), rfl, v, f, rfl, hs, (-1 : Int32), rfl, by exact True.intro⟩
  · skip
    have km1 : (-1 : Int32).toInt = -1 := rfl
    refine And.intro (fun c3 => ?_) (fun c3 => ?_)
    · skip
      refine hC.1 1 33 _ _ rfl _ _ _ _ _ ?_
      refine hC.1 2 34 _ _ rfl _ _ _ _ _ ?_
      exact ⟨rfl, fun e9 => absurd e9 (by decide), rfl, v, f, rfl, hs, (-1 : Int32), rfl, by exact True.intro⟩
    · skip
      refine Exists.intro _ (And.intro (cw_o0 hI.1) ?_)
      refine Exists.intro _ (And.intro (cw_o0 hI.1) ?_)
      refine Exists.intro _ (And.intro (cw_o1 hI.1) ?_)
      refine Exists.intro _ (And.intro (cw_o0 hI.1) ?_)
      refine And.intro (Exists.intro _ (cw_o8 hI.1)) (Exists.intro _ (Exists.intro _ (Exists.intro _ (Exists.intro _ (And.intro (c_X3_greedy hI hs ro_nn x1 x2 ) (And.intro rfl (fun r9 A9 h9 => ?_)))))))
      rcases h9 with ⟨v5, f5, rfl, hs5, y4, rfl, by4⟩
      refine hC.1 2 34 _ _ rfl _ _ _ _ _ ?_
      exact ⟨rfl, fun e9 => absurd e9 (by decide), rfl, v5, f5, rfl, hs5, y4, rfl, by exact True.intro⟩

set_option maxRecDepth 100000 in
set_option maxHeartbeats 2000000 in
theorem c_X10_best (hI : cw_I K nn dn q w e) (hs : cw_S v f) (x1 : Int32) (x2 : Int32)  : pm_Mt l g 143 4 0 0 [.ref (q 0), .int x1, .int x2] (cw A0 g K nn dn q w e v f) (cw_Qs A0 g K nn dn q w e (fun r v2 f2 => ∃ x : Int32, r = some (.int x) ∧ (True))) := by
  refine mt_X10_best rfl (fun J hC => ?_)
  have ro_nn : cw_ro K nn := hI.2.1.2.1
  have ro_dn : cw_ro K dn := hI.2.1.2.2.1
  have hu1 := hI.2.1
  unfold cw_W at hu1
  have rg_x1 := pm_rng x1
  have rg_x2 := pm_rng x2
  have zz0 := cw_sz hI ro_nn
  refine hC.1 0 0 _ _ rfl _ _ _ _ _ ?_
  have k1 : (1 : Int32).toInt = 1 := rfl
  refine And.intro (fun c2 => ?_) (fun c2 => ?_)
  · skip
    refine hC.1 1 35 _ _ rfl _ _ _ _ _ ?_
    have km1 : (-1 : Int32).toInt = -1 := rfl
    exact ⟨rfl, fun e9 => absurd e9 (by decide), rfl, v, f, rfl, hs, (-1 : Int32), rfl, by exact True.intro⟩
  · skip
    have k8 : (8 : Int32).toInt = 8 := rfl
    refine And.intro (fun c3 => ?_) (fun c3 => ?_)
    · skip
      refine hC.1 1 35 _ _ rfl _ _ _ _ _ ?_
      have km1 : (-1 : Int32).toInt = -1 := rfl
      exact ⟨rfl, fun e9 => absurd e9 (by decide), rfl, v, f, rfl, hs, (-1 : Int32), rfl, by exact True.intro⟩
    · skip
      refine Exists.intro _ (And.intro (cw_o0 hI.1) ?_)
      refine Exists.intro _ (And.intro (cw_o1 hI.1) ?_)
      refine Exists.intro _ (And.intro (cw_ro_o hI.1 ro_nn) ?_)
      have z4 := cw_sz hI ro_nn
      refine And.intro (fun c5 => ?_) (fun c5 => ?_)
      · skip
        refine hC.1 1 35 _ _ rfl _ _ _ _ _ ?_
        have km1 : (-1 : Int32).toInt = -1 := rfl
        exact ⟨rfl, fun e9 => absurd e9 (by decide), rfl, v, f, rfl, hs, (-1 : Int32), rfl, by exact True.intro⟩
      · skip
        have km1 : (-1 : Int32).toInt = -1 := rfl
        refine And.intro (fun c6 => ?_) (fun c6 => ?_)
        · skip
          refine hC.1 1 35 _ _ rfl _ _ _ _ _ ?_
          exact ⟨rfl, fun e9 => absurd e9 (by decide), rfl, v, f, rfl, hs, (-1 : Int32), rfl, by exact True.intro⟩
        · skip
          refine And.intro (fun c7 => ?_) (fun c7 => ?_)
          · skip
            refine hC.1 2 37 _ _ rfl _ _ _ _ _ ?_
            refine Exists.intro _ (And.intro (cw_o0 hI.1) ?_)
            refine Exists.intro _ (And.intro (cw_o0 hI.1) ?_)
            refine Exists.intro _ (And.intro (cw_o1 hI.1) ?_)
            refine Exists.intro _ (And.intro (cw_o0 hI.1) ?_)
            refine And.intro (Exists.intro _ (cw_o8 hI.1)) (Exists.intro _ (Exists.intro _ (Exists.intro _ (Exists.intro _ (And.intro (c_X3_weighUp hI hs ro_nn x1 (by omega)) (And.intro rfl (fun r9 A9 h9 => ?_)))))))
            rcases h9 with ⟨v9, f9, rfl, hs9, rfl, by8⟩
            refine And.intro (fun c10 => ?_) (fun c10 => ?_)
            · skip
              have dc10 := pm_neI c10
              refine hC.1 3 73 _ _ rfl _ _ _ _ _ ?_
              refine Exists.intro _ (And.intro (cw_o0 hI.1) ?_)
              refine Exists.intro _ (And.intro (cw_o0 hI.1) ?_)
              refine Exists.intro _ (And.intro (cw_o1 hI.1) ?_)
              refine Exists.intro _ (And.intro (cw_o0 hI.1) ?_)
              refine And.intro (Exists.intro _ (cw_o8 hI.1)) (Exists.intro _ (Exists.intro _ (Exists.intro _ (Exists.intro _ (And.intro (c_X3_lastPlaceOf hI hs9 ro_nn x1 x2 (by omega)) (And.intro rfl (fun r9 A9 h9 => ?_)))))))
              rcases h9 with ⟨v12, f12, rfl, hs12, y11, rfl, by11⟩
              refine hC.1 4 93 _ _ rfl _ _ _ _ _ ?_
              exact ⟨rfl, fun e9 => absurd e9 (by decide), rfl, v12, f12, rfl, hs12, y11, rfl, by exact True.intro⟩
            · skip
              have dc10 : (x2).toInt = ((-1 : Int32) : Int32).toInt := congrArg Int32.toInt c10
              refine Exists.intro _ (And.intro (cw_o0 hI.1) ?_)
              have k0 : (0 : Int32).toInt = 0 := rfl
              refine And.intro (Exists.intro _ (cw_o8 hI.1)) (Exists.intro _ (Exists.intro _ (Exists.intro _ (Exists.intro _ (And.intro (c_X3_worthOf hI hs9 x1 (0 : Int32) ) (And.intro rfl (fun r9 A9 h9 => ?_)))))))
              obtain ⟨y13, rfl, rfl, by13⟩ := h9
              refine hC.1 4 93 _ _ rfl _ _ _ _ _ ?_
              exact ⟨rfl, fun e9 => absurd e9 (by decide), rfl, v9, f9, rfl, hs9, y13, rfl, by exact True.intro⟩
          · skip
            refine hC.1 1 35 _ _ rfl _ _ _ _ _ ?_
            exact ⟨rfl, fun e9 => absurd e9 (by decide), rfl, v, f, rfl, hs, (-1 : Int32), rfl, by exact True.intro⟩

set_option maxRecDepth 100000 in
set_option maxHeartbeats 2000000 in
theorem c_X10_was (hI : cw_I K nn dn q w e) (hs : cw_S v f) (x1 : Int32) (x2 : Int32) (x3 : Int32)  : pm_Mt l g 148 4 0 0 [.ref (q 0), .int x1, .int x2, .int x3] (cw A0 g K nn dn q w e v f) (md_Qp (cw A0 g K nn dn q w e v f) (fun r => True)) := by
  refine mt_X10_was rfl (fun J hC => ?_)
  have ro_nn : cw_ro K nn := hI.2.1.2.1
  have ro_dn : cw_ro K dn := hI.2.1.2.2.1
  have hu1 := hI.2.1
  unfold cw_W at hu1
  have rg_x1 := pm_rng x1
  have rg_x2 := pm_rng x2
  have rg_x3 := pm_rng x3
  have zz0 := cw_sz hI ro_nn
  refine hC.1 0 0 _ _ rfl _ _ _ _ _ ?_
  refine Exists.intro _ (And.intro (cw_o0 hI.1) ?_)
  refine And.intro (Exists.intro _ (cw_o1 hI.1)) (Exists.intro _ (Exists.intro _ (Exists.intro _ (Exists.intro _ (And.intro (c_X9_behind hI hs x1 ) (And.intro rfl (fun r9 A9 h9 => ?_)))))))
  rcases h9 with ⟨rfl, rfl | ⟨o3, rfl, ho3⟩⟩
  · skip
    have km1 : (-1 : Int32).toInt = -1 := rfl
    exact ⟨rfl, fun e9 => absurd e9 (by decide), rfl, (-1 : Int32), rfl, rfl, by exact True.intro⟩
  · skip
    refine hC.1 1 17 _ _ rfl _ _ _ _ _ ?_
    have km1 : (-1 : Int32).toInt = -1 := rfl
    refine And.intro (fun c4 => ?_) (fun c4 => ?_)
    · skip
      have dc4 := pm_neI c4
      refine hC.1 2 30 _ _ rfl _ _ _ _ _ ?_
      refine And.intro (Exists.intro _ (cw_ro_o hI.1 ho3)) (Exists.intro _ (Exists.intro _ (Exists.intro _ (Exists.intro _ (And.intro (c_X7_tell hI hs ho3 x2 x3 ) (And.intro rfl (fun r9 A9 h9 => ?_)))))))
      obtain ⟨y5, rfl, rfl, by5⟩ := h9
      refine hC.1 3 37 _ _ rfl _ _ _ _ _ ?_
      exact ⟨rfl, fun e9 => absurd e9 (by decide), rfl, y5, rfl, rfl, by exact True.intro⟩
    · skip
      have dc4 : (x2).toInt = ((-1 : Int32) : Int32).toInt := congrArg Int32.toInt c4
      refine Exists.intro _ (And.intro (cw_ro_o hI.1 ho3) ?_)
      have z7 := cw_sz hI ho3
      refine hC.1 3 37 _ _ rfl _ _ _ _ _ ?_
      exact ⟨rfl, fun e9 => absurd e9 (by decide), rfl, (w o3), rfl, rfl, by exact True.intro⟩

set_option maxRecDepth 100000 in
set_option maxHeartbeats 2000000 in
theorem c_X10_counted (hI : cw_I K nn dn q w e) (hs : cw_S v f) (x1 : Int32) (x2 : Int32) (x3 : Int32)  : pm_Mt l g 150 4 0 0 [.ref (q 0), .int x1, .int x2, .int x3] (cw A0 g K nn dn q w e v f) (cw_Qs A0 g K nn dn q w e (fun r v2 f2 => ∃ x : Int32, r = some (.int x) ∧ (True))) := by
  refine mt_X10_counted rfl (fun J hC => ?_)
  have ro_nn : cw_ro K nn := hI.2.1.2.1
  have ro_dn : cw_ro K dn := hI.2.1.2.2.1
  have hu1 := hI.2.1
  unfold cw_W at hu1
  have rg_x1 := pm_rng x1
  have rg_x2 := pm_rng x2
  have rg_x3 := pm_rng x3
  have zz0 := cw_sz hI ro_nn
  refine hC.1 0 0 _ _ rfl _ _ _ _ _ ?_
  refine Exists.intro _ (And.intro (cw_o0 hI.1) ?_)
  refine And.intro (Exists.intro _ (cw_o1 hI.1)) (Exists.intro _ (Exists.intro _ (Exists.intro _ (Exists.intro _ (And.intro (c_X9_behind hI hs x1 ) (And.intro rfl (fun r9 A9 h9 => ?_)))))))
  rcases h9 with ⟨rfl, rfl | ⟨o3, rfl, ho3⟩⟩
  · skip
    refine hC.1 1 36 _ _ rfl _ _ _ _ _ ?_
    have km1 : (-1 : Int32).toInt = -1 := rfl
    refine hC.1 2 37 _ _ rfl _ _ _ _ _ ?_
    exact ⟨rfl, fun e9 => absurd e9 (by decide), rfl, v, f, rfl, hs, (-1 : Int32), rfl, by exact True.intro⟩
  · skip
    refine And.intro (Exists.intro _ (cw_ro_o hI.1 ho3)) (Exists.intro _ (Exists.intro _ (Exists.intro _ (Exists.intro _ (And.intro (c_X7_isSpan hI hs ho3 x2 x3 ) (And.intro rfl (fun r9 A9 h9 => ?_)))))))
    rcases h9 with ⟨y4, rfl, rfl, ⟨rfl, by4⟩ | ⟨rfl, by4⟩⟩
    · skip
      have k1 : (1 : Int32).toInt = 1 := rfl
      refine And.intro (fun c9 => absurd c9 (by decide)) (fun _ => ?_)
      refine And.intro (Exists.intro _ (cw_o0 hI.1)) (Exists.intro _ (Exists.intro _ (Exists.intro _ (Exists.intro _ (And.intro (c_X10_colourNumber hI hs ho3 x2 x3 ) (And.intro rfl (fun r9 A9 h9 => ?_)))))))
      rcases h9 with ⟨v7, f7, rfl, hs7, y6, rfl, by6⟩
      refine hC.1 2 37 _ _ rfl _ _ _ _ _ ?_
      exact ⟨rfl, fun e9 => absurd e9 (by decide), rfl, v7, f7, rfl, hs7, y6, rfl, by exact True.intro⟩
    · skip
      have k0 : (0 : Int32).toInt = 0 := rfl
      refine And.intro (fun _ => ?_) (fun c9 => absurd c9 (by decide))
      refine hC.1 1 36 _ _ rfl _ _ _ _ _ ?_
      have km1 : (-1 : Int32).toInt = -1 := rfl
      refine hC.1 2 37 _ _ rfl _ _ _ _ _ ?_
      exact ⟨rfl, fun e9 => absurd e9 (by decide), rfl, v, f, rfl, hs, (-1 : Int32), rfl, by exact True.intro⟩

set_option maxRecDepth 100000 in
set_option maxHeartbeats 2000000 in
theorem c_X10_touched (hI : cw_I K nn dn q w e) (hs : cw_S v f) (x1 : Int32)  : pm_Mt l g 151 1 0 0 [.ref (q 0), .int x1] (cw A0 g K nn dn q w e v f) (md_Qp (cw A0 g K nn dn q w e v f) (fun r => True)) := by
  refine mt_X10_touched rfl (fun J hC => ?_)
  have ro_nn : cw_ro K nn := hI.2.1.2.1
  have ro_dn : cw_ro K dn := hI.2.1.2.2.1
  have hu1 := hI.2.1
  unfold cw_W at hu1
  have rg_x1 := pm_rng x1
  have zz0 := cw_sz hI ro_nn
  refine hC.1 0 0 _ _ rfl _ _ _ _ _ ?_
  refine Exists.intro _ (And.intro (cw_o0 hI.1) ?_)
  refine And.intro (Exists.intro _ (cw_o1 hI.1)) (Exists.intro _ (Exists.intro _ (Exists.intro _ (Exists.intro _ (And.intro (c_X9_behind hI hs x1 ) (And.intro rfl (fun r9 A9 h9 => ?_)))))))
  rcases h9 with ⟨rfl, rfl | ⟨o3, rfl, ho3⟩⟩
  · skip
    refine hC.1 1 25 _ _ rfl _ _ _ _ _ ?_
    have km1 : (-1 : Int32).toInt = -1 := rfl
    refine hC.1 2 26 _ _ rfl _ _ _ _ _ ?_
    exact ⟨rfl, fun e9 => absurd e9 (by decide), rfl, (-1 : Int32), rfl, rfl, by exact True.intro⟩
  · skip
    have k1 : (1 : Int32).toInt = 1 := rfl
    refine And.intro (fun c4 => ?_) (fun c4 => ?_)
    · skip
      refine hC.1 1 25 _ _ rfl _ _ _ _ _ ?_
      have km1 : (-1 : Int32).toInt = -1 := rfl
      refine hC.1 2 26 _ _ rfl _ _ _ _ _ ?_
      exact ⟨rfl, fun e9 => absurd e9 (by decide), rfl, (-1 : Int32), rfl, rfl, by exact True.intro⟩
    · skip
      refine Exists.intro _ (And.intro (cw_ro_o hI.1 ho3) ?_)
      refine hC.1 2 26 _ _ rfl _ _ _ _ _ ?_
      exact ⟨rfl, fun e9 => absurd e9 (by decide), rfl, (w (o3 + 1)), rfl, rfl, by exact True.intro⟩

set_option maxRecDepth 100000 in
set_option maxHeartbeats 2000000 in
theorem c_X10_since (hI : cw_I K nn dn q w e) (hs : cw_S v f) (x1 : Int32)  : pm_Mt l g 152 4 0 0 [.ref (q 0), .int x1] (cw A0 g K nn dn q w e v f) (md_Qp (cw A0 g K nn dn q w e v f) (fun r => True)) := by
  refine mt_X10_since rfl (fun J hC => ?_)
  have ro_nn : cw_ro K nn := hI.2.1.2.1
  have ro_dn : cw_ro K dn := hI.2.1.2.2.1
  have hu1 := hI.2.1
  unfold cw_W at hu1
  have rg_x1 := pm_rng x1
  have zz0 := cw_sz hI ro_nn
  refine hC.1 0 0 _ _ rfl _ _ _ _ _ ?_
  refine Exists.intro _ (And.intro (cw_o0 hI.1) ?_)
  refine And.intro (Exists.intro _ (cw_o1 hI.1)) (Exists.intro _ (Exists.intro _ (Exists.intro _ (Exists.intro _ (And.intro (c_X9_steadySince hI hs x1 ) (And.intro rfl (fun r9 A9 h9 => ?_)))))))
  obtain ⟨y2, rfl, rfl, by2⟩ := h9
  exact ⟨rfl, fun e9 => absurd e9 (by decide), rfl, y2, rfl, rfl, by exact True.intro⟩

set_option maxRecDepth 100000 in
set_option maxHeartbeats 2000000 in
theorem c_X10_changed (hI : cw_I K nn dn q w e) (hs : cw_S v f) (x1 : Int32) (x2 : Int32)  : pm_Mt l g 155 6 0 0 [.ref (q 0), .int x1, .int x2] (cw A0 g K nn dn q w e v f) (md_Qp (cw A0 g K nn dn q w e v f) (fun r => True)) := by
  refine mt_X10_changed rfl (fun J hC => ?_)
  have ro_nn : cw_ro K nn := hI.2.1.2.1
  have ro_dn : cw_ro K dn := hI.2.1.2.2.1
  have hu1 := hI.2.1
  unfold cw_W at hu1
  have rg_x1 := pm_rng x1
  have rg_x2 := pm_rng x2
  have zz0 := cw_sz hI ro_nn
  refine hC.1 0 0 _ _ rfl _ _ _ _ _ ?_
  refine Exists.intro _ (And.intro (cw_o0 hI.1) ?_)
  refine And.intro (Exists.intro _ (cw_o1 hI.1)) (Exists.intro _ (Exists.intro _ (Exists.intro _ (Exists.intro _ (And.intro (c_X9_behind hI hs x1 ) (And.intro rfl (fun r9 A9 h9 => ?_)))))))
  rcases h9 with ⟨rfl, rfl | ⟨o3, rfl, ho3⟩⟩
  · skip
    refine hC.1 1 34 _ _ rfl _ _ _ _ _ ?_
    have km1 : (-1 : Int32).toInt = -1 := rfl
    refine hC.1 2 35 _ _ rfl _ _ _ _ _ ?_
    exact ⟨rfl, fun e9 => absurd e9 (by decide), rfl, (-1 : Int32), rfl, rfl, by exact True.intro⟩
  · skip
    refine And.intro (fun c4 => ?_) (fun c4 => ?_)
    · skip
      refine hC.1 1 34 _ _ rfl _ _ _ _ _ ?_
      have km1 : (-1 : Int32).toInt = -1 := rfl
      refine hC.1 2 35 _ _ rfl _ _ _ _ _ ?_
      exact ⟨rfl, fun e9 => absurd e9 (by decide), rfl, (-1 : Int32), rfl, rfl, by exact True.intro⟩
    · skip
      have k3 : (3 : Int32).toInt = 3 := rfl
      refine And.intro (fun c5 => ?_) (fun c5 => ?_)
      · skip
        refine hC.1 1 34 _ _ rfl _ _ _ _ _ ?_
        have km1 : (-1 : Int32).toInt = -1 := rfl
        refine hC.1 2 35 _ _ rfl _ _ _ _ _ ?_
        exact ⟨rfl, fun e9 => absurd e9 (by decide), rfl, (-1 : Int32), rfl, rfl, by exact True.intro⟩
      · skip
        refine Exists.intro _ (And.intro (cw_o0 hI.1) ?_)
        refine And.intro (Exists.intro _ (cw_o1 hI.1)) (Exists.intro _ (Exists.intro _ (Exists.intro _ (Exists.intro _ (And.intro (c_X9_unlikeNow hI hs ho3 x2 ) (And.intro rfl (fun r9 A9 h9 => ?_)))))))
        obtain ⟨y6, rfl, rfl, by6⟩ := h9
        refine hC.1 2 35 _ _ rfl _ _ _ _ _ ?_
        exact ⟨rfl, fun e9 => absurd e9 (by decide), rfl, y6, rfl, rfl, by exact True.intro⟩

end
end
section
section
variable {l : Launch} {g : pm_G} {A0 : pm_H} {K nn dn : Nat} {q : Nat → Nat} {w : Nat → Int32} {e : Nat → Nat → Int32} {v : Nat → Int32} {f : Nat → Nat → Int32}
set_option maxRecDepth 100000 in
set_option maxHeartbeats 2000000 in
theorem c_X10_weigh (hI : cw_I K nn dn q w e) (hs : cw_S v f) (x1 : Int32) (x2 : Int32)  : pm_Mt l g 41 1 0 0 [.ref (q 0), .int x1, .int x2] (cw A0 g K nn dn q w e v f) (fun r A9 => ((0 ≤ x1.toInt ∧ x1.toInt ≤ 23 ∧ 0 ≤ x2.toInt ∧ x2.toInt ≤ 999) ∧ r = some (.int (e 15 x1.toInt.toNat)) ∧ A9 = cw A0 g K nn dn q w (va_up e 15 (upd (e 15) x1.toInt.toNat x2)) v f) ∨ (¬ (0 ≤ x1.toInt ∧ x1.toInt ≤ 23 ∧ 0 ≤ x2.toInt ∧ x2.toInt ≤ 999) ∧ r = some (.int (-1)) ∧ A9 = cw A0 g K nn dn q w e v f)) := by
  refine mt_X10_weigh rfl (fun J hC => ?_)
  have ro_nn : cw_ro K nn := hI.2.1.2.1
  have ro_dn : cw_ro K dn := hI.2.1.2.2.1
  have hu1 := hI.2.1
  unfold cw_W at hu1
  have rg_x1 := pm_rng x1
  have rg_x2 := pm_rng x2
  refine hC.1 0 0 _ _ rfl _ _ _ _ _ ?_
  refine Exists.intro _ (Exists.intro _ (Exists.intro _ (Exists.intro _ (And.intro (c_X10_isColour (cw A0 g K nn dn q w e v f) x1 ) (And.intro rfl (fun r9 A9 h9 => ?_))))))
  rcases h9 with ⟨y2, rfl, rfl, ⟨rfl, by2⟩ | ⟨rfl, by2⟩⟩
  · skip
    have k1 : (1 : Int32).toInt = 1 := rfl
    refine And.intro (fun c9 => absurd c9 (by decide)) (fun _ => ?_)
    refine And.intro (fun c4 => ?_) (fun c4 => ?_)
    · skip
      refine hC.1 1 18 _ _ rfl _ _ _ _ _ ?_
      have km1 : (-1 : Int32).toInt = -1 := rfl
      exact ⟨rfl, fun e9 => absurd e9 (by decide), rfl, Or.inr ⟨by omega, rfl, rfl⟩⟩
    · skip
      have k999 : (999 : Int32).toInt = 999 := rfl
      refine And.intro (fun c5 => ?_) (fun c5 => ?_)
      · skip
        refine hC.1 2 20 _ _ rfl _ _ _ _ _ ?_
        refine Exists.intro _ (And.intro (cw_o0 hI.1) ?_)
        refine Exists.intro _ (And.intro (cw_o2 hI.1) ?_)
        refine Exists.intro _ (Exists.intro _ (And.intro (Or.inl (cw_a15 hI.1)) (And.intro (by omega) ?_)))
        refine Exists.intro _ (And.intro (cw_o0 hI.1) ?_)
        refine Exists.intro _ (And.intro (cw_o2 hI.1) ?_)
        refine Exists.intro _ (Exists.intro _ (And.intro (cw_a15 hI.1) (And.intro (by omega) ?_)))
        rw [cw_s15 hI.1]
        exact ⟨rfl, fun e9 => absurd e9 (by decide), rfl, Or.inl ⟨by omega, rfl, rfl⟩⟩
      · skip
        refine hC.1 1 18 _ _ rfl _ _ _ _ _ ?_
        have km1 : (-1 : Int32).toInt = -1 := rfl
        exact ⟨rfl, fun e9 => absurd e9 (by decide), rfl, Or.inr ⟨by omega, rfl, rfl⟩⟩
  · skip
    have k0 : (0 : Int32).toInt = 0 := rfl
    refine And.intro (fun _ => ?_) (fun c9 => absurd c9 (by decide))
    refine hC.1 1 18 _ _ rfl _ _ _ _ _ ?_
    have km1 : (-1 : Int32).toInt = -1 := rfl
    exact ⟨rfl, fun e9 => absurd e9 (by decide), rfl, Or.inr ⟨by omega, rfl, rfl⟩⟩

end
end
section
/-! a new row; the draft of an edit -/
theorem gw_char {A0 H : pm_H} {N : Nat} {q : Nat → Nat} {c : Nat → va_E} (h1 : ∀ i, i < N → H (q i) = some (c i)) (h2 : ∀ x, (∀ i, i < N → x ≠ q i) → H x = A0 x) : H = gw A0 N q c := by
  funext x
  unfold gw
  cases hx : (List.range N).find? (fun j => decide (x = q j)) with
  | none =>
    refine h2 x (fun i hi e => ?_)
    have := List.find?_eq_none.mp hx i (List.mem_range.mpr hi)
    simp [e] at this
  | some j =>
    have h3 : x = q j := by simpa using List.find?_some hx
    have h4 := List.mem_range.mp (List.mem_of_find?_eq_some hx)
    rw [h3]
    exact h1 j h4
section
variable {l : Launch} {g : pm_G}
set_option maxRecDepth 100000 in
theorem c_X7_init {A : pm_H} {a : Nat} (hA : A a = some (pm_ob 7 (pm_df 7))) : pm_Mt l g 2 1 3 480 [.ref a] A (fun r A' => r = none ∧ ∃ b1 b2 b3 : Nat, (A b1 = none ∧ A b2 = none ∧ A b3 = none) ∧ (b1 ≠ b2 ∧ b1 ≠ b3 ∧ b2 ≠ b3 ∧ b1 ≠ a ∧ b2 ≠ a ∧ b3 ≠ a) ∧ A' a = some (pm_ob 7 [.ref b1, .ref b2, .ref b3, .int 0, .int 0]) ∧ (A' b1 = some (pm_ia g 160 (fun _ => 0)) ∧ A' b2 = some (pm_ia g 160 (fun _ => 0)) ∧ A' b3 = some (pm_ia g 160 (fun _ => 0))) ∧ ∀ x, x ≠ a → x ≠ b1 → x ≠ b2 → x ≠ b3 → A' x = A x) := by
  refine mt_X7_init rfl (fun J hC => ?_)
  have hd : pm_df 7 = [.null, .null, .null, .int 0, .int 0] := rfl
  rw [hd] at hA
  refine hC.1 0 0 _ _ rfl _ _ _ _ _ ?_
  refine And.intro rfl ?_
  refine And.intro rfl (And.intro rfl (fun b1 h1 => ?_))
  have n1 : b1 ≠ a := fun e => by rw [e, hA] at h1; cases h1
  refine Exists.intro _ (And.intro ((pm_up_n n1.symm).trans hA) (And.intro rfl ?_))
  refine And.intro rfl (And.intro rfl (fun b2 h2 => ?_))
  have n2 : b2 ≠ a := fun e => by rw [e, pm_up_s] at h2; cases h2
  rw [pm_up_n n2] at h2
  have n3 : b2 ≠ b1 := fun e => by rw [e, pm_up_s] at h2; cases h2
  rw [pm_up_n n3] at h2
  refine Exists.intro _ (And.intro ((pm_up_n n2.symm).trans pm_up_s) (And.intro rfl ?_))
  refine And.intro rfl (And.intro rfl (fun b3 h3 => ?_))
  have n4 : b3 ≠ a := fun e => by rw [e, pm_up_s] at h3; cases h3
  rw [pm_up_n n4] at h3
  have n5 : b3 ≠ b2 := fun e => by rw [e, pm_up_s] at h3; cases h3
  rw [pm_up_n n5, pm_up_n n4] at h3
  have n6 : b3 ≠ b1 := fun e => by rw [e, pm_up_s] at h3; cases h3
  rw [pm_up_n n6] at h3
  refine Exists.intro _ (And.intro ((pm_up_n n4.symm).trans pm_up_s) (And.intro rfl ?_))
  refine ⟨rfl, rfl, rfl, b1, b2, b3, ⟨h1, h2, h3⟩, ⟨n3.symm, n6.symm, n5.symm, n1, n2, n4⟩, pm_up_s, ⟨?_, ?_, ?_⟩, ?_⟩
  · rw [pm_up_n n1, pm_up_n n6.symm, pm_up_n n1, pm_up_n n3.symm, pm_up_n n1, pm_up_s]
  · rw [pm_up_n n2, pm_up_n n5.symm, pm_up_n n2, pm_up_s]
  · rw [pm_up_n n4, pm_up_s]
  · intro x e0 e1 e2 e3
    rw [pm_up_n e0, pm_up_n e3, pm_up_n e0, pm_up_n e2, pm_up_n e0, pm_up_n e1]
end
section
variable {A0 : pm_H} {g : pm_G} {K nn dn : Nat} {q : Nat → Nat} {w : Nat → Int32} {e : Nat → Nat → Int32} {v : Nat → Int32} {f : Nat → Nat → Int32}
noncomputable def cw_q2 (K : Nat) (q : Nat → Nat) (a b1 b2 b3 : Nat) : Nat → Nat := fun i => if i = 40 + 4 * K then a else if i = 40 + 4 * K + 1 then b1 else if i = 40 + 4 * K + 2 then b2 else if i = 40 + 4 * K + 3 then b3 else q i
noncomputable def cw_w2 (K : Nat) (w : Nat → Int32) : Nat → Int32 := fun i => if 40 + 4 * K ≤ i then 0 else w i
noncomputable def cw_e2 (K : Nat) (e : Nat → Nat → Int32) : Nat → Nat → Int32 := fun i => if 40 + 4 * K ≤ i then (fun _ => 0) else e i
theorem cw_q2_lt {a b1 b2 b3 i : Nat} (h : i < 40 + 4 * K) : cw_q2 K q a b1 b2 b3 i = q i := by
  unfold cw_q2
  rw [if_neg (by omega), if_neg (by omega), if_neg (by omega), if_neg (by omega)]
theorem cw_w2_lt {i : Nat} (h : i < 40 + 4 * K) : cw_w2 K w i = w i := if_neg (by omega)
theorem cw_e2_lt {i : Nat} (h : i < 40 + 4 * K) : cw_e2 K e i = e i := if_neg (by omega)
theorem cw_c2_lt {a b1 b2 b3 i : Nat} (hn : nn < 40 + 4 * K) (hd : dn < 40 + 4 * K) (hK : 1 ≤ K) (h : i < 40 + 4 * K) (h10 : i ≠ 10) : cw_c g (K + 1) nn dn (cw_q2 K q a b1 b2 b3) (cw_w2 K w) (cw_e2 K e) v f i = cw_c g K nn dn q w e v f i := by
  unfold cw_c
  by_cases h1 : i < 12
  · rw [if_pos h1, if_pos h1]
    have w0 : cw_w2 K w 0 = w 0 := cw_w2_lt (by omega)
    have w1 : cw_w2 K w 1 = w 1 := cw_w2_lt (by omega)
    have w2 : cw_w2 K w 2 = w 2 := cw_w2_lt (by omega)
    have w3 : cw_w2 K w 3 = w 3 := cw_w2_lt (by omega)
    have qq : ∀ j, j < 40 → cw_q2 K q a b1 b2 b3 j = q j := fun j hj => cw_q2_lt (by omega)
    have qn : cw_q2 K q a b1 b2 b3 nn = q nn := cw_q2_lt hn
    have qd : cw_q2 K q a b1 b2 b3 dn = q dn := cw_q2_lt hd
    have qw : cw_ww (cw_q2 K q a b1 b2 b3) = cw_ww q := by
      funext j
      unfold cw_ww
      by_cases hj : j < 9
      · rw [if_pos hj, if_pos hj, qq _ (by omega)]
      · rw [if_neg hj, if_neg hj]
    rcases (show i = 0 ∨ i = 1 ∨ i = 2 ∨ i = 3 ∨ i = 4 ∨ i = 5 ∨ i = 6 ∨ i = 7 ∨ i = 8 ∨ i = 9 ∨ i = 10 ∨ i = 11 by omega) with rfl | rfl | rfl | rfl | rfl | rfl | rfl | rfl | rfl | rfl | rfl | rfl
    · simp only [cw_fix, qq 1 (by decide), qq 2 (by decide), qq 3 (by decide), qq 4 (by decide), qq 5 (by decide), qq 6 (by decide), qq 7 (by decide), qq 8 (by decide), qq 9 (by decide)]
    · simp only [cw_fix, qq 10 (by decide), qq 12 (by decide), qq 13 (by decide), qn, qd, w0, w1, w2]
    · simp only [cw_fix, qq 14 (by decide), qq 15 (by decide)]
    · simp only [cw_fix, qq 16 (by decide), qq 17 (by decide)]
    · simp only [cw_fix, qq 18 (by decide), qq 19 (by decide), qq 20 (by decide)]
    · simp only [cw_fix, qq 21 (by decide)]
    · simp only [cw_fix, qq 22 (by decide), qq 23 (by decide), qq 24 (by decide)]
    · simp only [cw_fix, qq 25 (by decide)]
    · simp only [cw_fix, qq 11 (by decide)]
    · simp only [cw_fix, qq 35 (by decide), qq 36 (by decide), qq 37 (by decide), qq 38 (by decide), qq 39 (by decide), w3]
    · exact absurd rfl h10
    · simp only [cw_fix, qw]
  · rw [if_neg h1, if_neg h1]
    by_cases h2 : i < 40
    · rw [if_pos h2, if_pos h2, cw_e2_lt h]
    · rw [if_neg h2, if_neg h2]
      by_cases h3 : i % 4 = 0
      · rw [if_pos h3, if_pos h3, cw_q2_lt (show i + 1 < 40 + 4 * K by omega), cw_q2_lt (show i + 2 < 40 + 4 * K by omega), cw_q2_lt (show i + 3 < 40 + 4 * K by omega), cw_w2_lt h, cw_w2_lt (show i + 1 < 40 + 4 * K by omega)]
      · rw [if_neg h3, if_neg h3, cw_e2_lt h]
theorem cw_rr2 {a b1 b2 b3 : Nat} : cw_rr (K + 1) (cw_q2 K q a b1 b2 b3) = va_up (cw_rr K q) K (some a) := by
  funext j
  unfold cw_rr
  by_cases h1 : j = K
  · subst h1
    simp [va_up, cw_q2]
  · by_cases h2 : j < K
    · simp only [va_up, if_neg h1, if_pos h2, if_pos (show j < K + 1 by omega)]
      rw [cw_q2_lt (by omega)]
    · simp only [va_up, if_neg h1, if_neg h2, if_neg (show ¬ j < K + 1 by omega)]
theorem cw_I2 (hI : cw_I K nn dn q w e) (hK : K < 41) {a b1 b2 b3 : Nat} (ha : ∀ i, i < 40 + 4 * K → a ≠ q i) (h1 : ∀ i, i < 40 + 4 * K → b1 ≠ q i) (h2 : ∀ i, i < 40 + 4 * K → b2 ≠ q i) (h3 : ∀ i, i < 40 + 4 * K → b3 ≠ q i) (hb : b1 ≠ b2 ∧ b1 ≠ b3 ∧ b2 ≠ b3 ∧ b1 ≠ a ∧ b2 ≠ a ∧ b3 ≠ a) : cw_I (K + 1) nn dn (cw_q2 K q a b1 b2 b3) (cw_w2 K w) (cw_e2 K e) := by
  obtain ⟨D, hW, hZ, hE⟩ := hI
  refine ⟨?_, ?_, ?_, ?_⟩
  · have key : ∀ i, i < 40 + 4 * (K + 1) → (i < 40 + 4 * K ∧ cw_q2 K q a b1 b2 b3 i = q i) ∨ (i = 40 + 4 * K ∧ cw_q2 K q a b1 b2 b3 i = a) ∨ (i = 40 + 4 * K + 1 ∧ cw_q2 K q a b1 b2 b3 i = b1) ∨ (i = 40 + 4 * K + 2 ∧ cw_q2 K q a b1 b2 b3 i = b2) ∨ (i = 40 + 4 * K + 3 ∧ cw_q2 K q a b1 b2 b3 i = b3) := by
      intro i hi
      by_cases h : i < 40 + 4 * K
      · exact Or.inl ⟨h, cw_q2_lt h⟩
      · rcases (show i = 40 + 4 * K ∨ i = 40 + 4 * K + 1 ∨ i = 40 + 4 * K + 2 ∨ i = 40 + 4 * K + 3 by omega) with rfl | rfl | rfl | rfl
        · exact Or.inr (Or.inl ⟨rfl, by simp [cw_q2]⟩)
        · exact Or.inr (Or.inr (Or.inl ⟨rfl, by simp [cw_q2]⟩))
        · exact Or.inr (Or.inr (Or.inr (Or.inl ⟨rfl, by simp [cw_q2]⟩)))
        · exact Or.inr (Or.inr (Or.inr (Or.inr ⟨rfl, by simp [cw_q2]⟩)))
    intro i j hi hj hij
    obtain ⟨b12, b13, b23, b1a, b2a, b3a⟩ := hb
    rcases key i hi with ⟨x, ex⟩ | ⟨x, ex⟩ | ⟨x, ex⟩ | ⟨x, ex⟩ | ⟨x, ex⟩ <;> rcases key j hj with ⟨y, ey⟩ | ⟨y, ey⟩ | ⟨y, ey⟩ | ⟨y, ey⟩ | ⟨y, ey⟩ <;> rw [ex, ey] at hij <;> first | exact D i j x y hij | (rw [x, y]; done) | exact absurd hij.symm (ha i x) | exact absurd hij.symm (h1 i x) | exact absurd hij.symm (h2 i x) | exact absurd hij.symm (h3 i x) | exact absurd hij (ha j y) | exact absurd hij (h1 j y) | exact absurd hij (h2 j y) | exact absurd hij (h3 j y) | exact absurd hij b12 | exact absurd hij b13 | exact absurd hij b23 | exact absurd hij b1a | exact absurd hij b2a | exact absurd hij b3a | exact absurd hij.symm b12 | exact absurd hij.symm b13 | exact absurd hij.symm b23 | exact absurd hij.symm b1a | exact absurd hij.symm b2a | exact absurd hij.symm b3a
  · have w0 : cw_w2 K w 0 = w 0 := cw_w2_lt (by omega)
    have w1 : cw_w2 K w 1 = w 1 := cw_w2_lt (by omega)
    have w3 : cw_w2 K w 3 = w 3 := cw_w2_lt (by omega)
    unfold cw_W at hW ⊢
    rw [w0, w1, w3]
    omega
  · intro o ho hm
    unfold cw_w2
    split
    · decide
    · exact hZ o ho hm
  · intro o ho hm j
    unfold cw_e2
    constructor
    · split
      · exact (by decide : 0 ≤ (0 : Int32).toInt ∧ (0 : Int32).toInt ≤ 23)
      · exact (hE o ho hm j).1
    · split
      · exact (by decide : -1 ≤ (0 : Int32).toInt ∧ (0 : Int32).toInt ≤ 159)
      · exact (hE o ho hm j).2
end
section
variable {l : Launch} {g : pm_G} {A0 : pm_H} {K nn dn : Nat} {q : Nat → Nat} {w : Nat → Int32} {e : Nat → Nat → Int32} {v : Nat → Int32} {f : Nat → Nat → Int32}
end
end
section
noncomputable def bk_L_law_0 : Nat × List pm_Op × Nat := (0, [(.new 7, 3, 10, 9, 0), (.dup, 1, 0, 0, 0), (.invokespecial 9, 3, 0, 0, 1), (.astore_n 1, 1, 1, 0, 0), (.new 10, 3, 11, 28, 0), (.dup, 1, 0, 0, 0), (.invokespecial 12, 3, 166, 0, 1), (.astore_n 2, 1, 2, 0, 0), (.iconst 0, 1, 0, 0, 0), (.istore_n 3, 1, 3, 0, 0)], 18)
set_option maxRecDepth 100000 in
theorem ok_L_law_0 : pm_ok 12 4 false (some .boolean) cL_law bk_L_law_0.2.2 bk_L_law_0.1 bk_L_law_0.2.1 = true := okG_ok _ _ (by decide +kernel)
noncomputable def bk_L_law_1 : Nat × List pm_Op × Nat := (18, [(.iload_n 3, 1, 3, 0, 0), (.aload_n 0, 1, 0, 0, 0), (.arraylength, 1, 0, 0, 0), (.bipush 6, 2, 0, 0, 6), (.isub, 1, 0, 0, 0), (.if_icmp .gt 2545, 3, 2569, 0, 0), (.aload_n 0, 1, 0, 0, 0), (.iload_n 3, 1, 3, 0, 0), (.iaload, 1, 0, 0, 0), (.bipush 127, 2, 0, 0, 127), (.iand, 1, 0, 0, 0), (.tableswitch 2530 0 64 #[275, 308, 341, 374, 417, 450, 493, 526, 579, 622, 655, 688, 731, 764, 797, 820, 853, 886, 909, 942, 975, 1008, 1051, 1094, 1147, 1200, 1243, 1306, 1349, 1382, 1425, 1458, 1491, 1534, 1577, 1610, 1643, 1686, 1719, 1752, 1785, 1818, 1851, 1874, 1907, 1930, 1963, 2006, 2039, 2062, 2075, 2098, 2141, 2164, 2197, 2230, 2273, 2316, 2339, 2362, 2395, 2428, 2471, 2484, 2517], 275, 33, 0, 0)], 308)
set_option maxRecDepth 100000 in
theorem ok_L_law_1 : pm_ok 12 4 false (some .boolean) cL_law bk_L_law_1.2.2 bk_L_law_1.1 bk_L_law_1.2.1 = true := okG_ok _ _ (by decide +kernel)
noncomputable def bk_L_law_2 : Nat × List pm_Op × Nat := (308, [(.aload_n 1, 1, 1, 0, 0), (.aload_n 0, 1, 0, 0, 0), (.iload_n 3, 1, 3, 0, 0), (.iconst 1, 1, 0, 0, 1), (.iadd, 1, 0, 0, 0), (.iaload, 1, 0, 0, 0), (.aload_n 0, 1, 0, 0, 0), (.iload_n 3, 1, 3, 0, 0), (.iconst 2, 1, 0, 0, 2), (.iadd, 1, 0, 0, 0), (.iaload, 1, 0, 0, 0), (.invokevirtual 13, 3, 12, 2, 10), (.pop, 1, 0, 0, 0), (.aload_n 2, 1, 2, 0, 0), (.aload_n 0, 1, 0, 0, 0), (.iload_n 3, 1, 3, 0, 0), (.iconst 1, 1, 0, 0, 1), (.iadd, 1, 0, 0, 0), (.iaload, 1, 0, 0, 0), (.aload_n 0, 1, 0, 0, 0), (.iload_n 3, 1, 3, 0, 0), (.iconst 2, 1, 0, 0, 2), (.iadd, 1, 0, 0, 0), (.iaload, 1, 0, 0, 0), (.invokevirtual 17, 3, 167, 2, 11), (.pop, 1, 0, 0, 0), (.goto 2225, 3, 2563, 0, 0)], 341)
set_option maxRecDepth 100000 in
theorem ok_L_law_2 : pm_ok 12 4 false (some .boolean) cL_law bk_L_law_2.2.2 bk_L_law_2.1 bk_L_law_2.2.1 = true := okG_ok _ _ (by decide +kernel)
noncomputable def bk_L_law_3 : Nat × List pm_Op × Nat := (341, [(.aload_n 1, 1, 1, 0, 0), (.aload_n 0, 1, 0, 0, 0), (.iload_n 3, 1, 3, 0, 0), (.iconst 1, 1, 0, 0, 1), (.iadd, 1, 0, 0, 0), (.iaload, 1, 0, 0, 0), (.aload_n 0, 1, 0, 0, 0), (.iload_n 3, 1, 3, 0, 0), (.iconst 2, 1, 0, 0, 2), (.iadd, 1, 0, 0, 0), (.iaload, 1, 0, 0, 0), (.invokevirtual 18, 3, 25, 2, 10), (.pop, 1, 0, 0, 0), (.aload_n 2, 1, 2, 0, 0), (.aload_n 0, 1, 0, 0, 0), (.iload_n 3, 1, 3, 0, 0), (.iconst 1, 1, 0, 0, 1), (.iadd, 1, 0, 0, 0), (.iaload, 1, 0, 0, 0), (.aload_n 0, 1, 0, 0, 0), (.iload_n 3, 1, 3, 0, 0), (.iconst 2, 1, 0, 0, 2), (.iadd, 1, 0, 0, 0), (.iaload, 1, 0, 0, 0), (.invokevirtual 21, 3, 183, 2, 11), (.pop, 1, 0, 0, 0), (.goto 2192, 3, 2563, 0, 0)], 374)
set_option maxRecDepth 100000 in
theorem ok_L_law_3 : pm_ok 12 4 false (some .boolean) cL_law bk_L_law_3.2.2 bk_L_law_3.1 bk_L_law_3.2.1 = true := okG_ok _ _ (by decide +kernel)
noncomputable def bk_L_law_4 : Nat × List pm_Op × Nat := (374, [(.aload_n 1, 1, 1, 0, 0), (.aload_n 0, 1, 0, 0, 0), (.iload_n 3, 1, 3, 0, 0), (.iconst 1, 1, 0, 0, 1), (.iadd, 1, 0, 0, 0), (.iaload, 1, 0, 0, 0), (.aload_n 0, 1, 0, 0, 0), (.iload_n 3, 1, 3, 0, 0), (.iconst 2, 1, 0, 0, 2), (.iadd, 1, 0, 0, 0), (.iaload, 1, 0, 0, 0), (.invokevirtual 22, 3, 29, 2, 10), (.pop, 1, 0, 0, 0), (.aload_n 2, 1, 2, 0, 0), (.aload_n 0, 1, 0, 0, 0), (.iload_n 3, 1, 3, 0, 0), (.iconst 1, 1, 0, 0, 1), (.iadd, 1, 0, 0, 0), (.iaload, 1, 0, 0, 0), (.aload_n 0, 1, 0, 0, 0), (.iload_n 3, 1, 3, 0, 0), (.iconst 2, 1, 0, 0, 2), (.iadd, 1, 0, 0, 0), (.iaload, 1, 0, 0, 0), (.invokevirtual 25, 3, 187, 2, 11), (.pop, 1, 0, 0, 0), (.goto 2159, 3, 2563, 0, 0)], 407)
set_option maxRecDepth 100000 in
theorem ok_L_law_4 : pm_ok 12 4 false (some .boolean) cL_law bk_L_law_4.2.2 bk_L_law_4.1 bk_L_law_4.2.1 = true := okG_ok _ _ (by decide +kernel)
noncomputable def bk_L_law_5 : Nat × List pm_Op × Nat := (407, [(.aload_n 1, 1, 1, 0, 0), (.aload_n 0, 1, 0, 0, 0), (.iload_n 3, 1, 3, 0, 0), (.iconst 1, 1, 0, 0, 1), (.iadd, 1, 0, 0, 0), (.iaload, 1, 0, 0, 0), (.aload_n 0, 1, 0, 0, 0), (.iload_n 3, 1, 3, 0, 0), (.iconst 2, 1, 0, 0, 2), (.iadd, 1, 0, 0, 0), (.iaload, 1, 0, 0, 0), (.aload_n 0, 1, 0, 0, 0), (.iload_n 3, 1, 3, 0, 0), (.iconst 3, 1, 0, 0, 3), (.iadd, 1, 0, 0, 0), (.iaload, 1, 0, 0, 0), (.invokevirtual 26, 3, 13, 3, 10), (.pop, 1, 0, 0, 0), (.aload_n 2, 1, 2, 0, 0), (.aload_n 0, 1, 0, 0, 0), (.iload_n 3, 1, 3, 0, 0), (.iconst 1, 1, 0, 0, 1), (.iadd, 1, 0, 0, 0), (.iaload, 1, 0, 0, 0), (.aload_n 0, 1, 0, 0, 0), (.iload_n 3, 1, 3, 0, 0), (.iconst 2, 1, 0, 0, 2), (.iadd, 1, 0, 0, 0), (.iaload, 1, 0, 0, 0), (.aload_n 0, 1, 0, 0, 0), (.iload_n 3, 1, 3, 0, 0), (.iconst 3, 1, 0, 0, 3), (.iadd, 1, 0, 0, 0), (.iaload, 1, 0, 0, 0), (.invokevirtual 30, 3, 179, 3, 11), (.pop, 1, 0, 0, 0), (.goto 2116, 3, 2563, 0, 0)], 450)
set_option maxRecDepth 100000 in
theorem ok_L_law_5 : pm_ok 12 4 false (some .boolean) cL_law bk_L_law_5.2.2 bk_L_law_5.1 bk_L_law_5.2.1 = true := okG_ok _ _ (by decide +kernel)
noncomputable def bk_L_law_6 : Nat × List pm_Op × Nat := (450, [(.aload_n 1, 1, 1, 0, 0), (.aload_n 0, 1, 0, 0, 0), (.iload_n 3, 1, 3, 0, 0), (.iconst 1, 1, 0, 0, 1), (.iadd, 1, 0, 0, 0), (.iaload, 1, 0, 0, 0), (.aload_n 0, 1, 0, 0, 0), (.iload_n 3, 1, 3, 0, 0), (.iconst 2, 1, 0, 0, 2), (.iadd, 1, 0, 0, 0), (.iaload, 1, 0, 0, 0), (.invokevirtual 31, 3, 30, 2, 10), (.pop, 1, 0, 0, 0), (.aload_n 2, 1, 2, 0, 0), (.aload_n 0, 1, 0, 0, 0), (.iload_n 3, 1, 3, 0, 0), (.iconst 1, 1, 0, 0, 1), (.iadd, 1, 0, 0, 0), (.iaload, 1, 0, 0, 0), (.aload_n 0, 1, 0, 0, 0), (.iload_n 3, 1, 3, 0, 0), (.iconst 2, 1, 0, 0, 2), (.iadd, 1, 0, 0, 0), (.iaload, 1, 0, 0, 0), (.invokevirtual 34, 3, 188, 2, 11), (.pop, 1, 0, 0, 0), (.goto 2083, 3, 2563, 0, 0)], 483)
set_option maxRecDepth 100000 in
theorem ok_L_law_6 : pm_ok 12 4 false (some .boolean) cL_law bk_L_law_6.2.2 bk_L_law_6.1 bk_L_law_6.2.1 = true := okG_ok _ _ (by decide +kernel)
noncomputable def bk_L_law_7 : Nat × List pm_Op × Nat := (483, [(.aload_n 1, 1, 1, 0, 0), (.aload_n 0, 1, 0, 0, 0), (.iload_n 3, 1, 3, 0, 0), (.iconst 1, 1, 0, 0, 1), (.iadd, 1, 0, 0, 0), (.iaload, 1, 0, 0, 0), (.aload_n 0, 1, 0, 0, 0), (.iload_n 3, 1, 3, 0, 0), (.iconst 2, 1, 0, 0, 2), (.iadd, 1, 0, 0, 0), (.iaload, 1, 0, 0, 0), (.aload_n 0, 1, 0, 0, 0), (.iload_n 3, 1, 3, 0, 0), (.iconst 3, 1, 0, 0, 3), (.iadd, 1, 0, 0, 0), (.iaload, 1, 0, 0, 0), (.invokevirtual 35, 3, 31, 3, 10), (.pop, 1, 0, 0, 0), (.aload_n 2, 1, 2, 0, 0), (.aload_n 0, 1, 0, 0, 0), (.iload_n 3, 1, 3, 0, 0), (.iconst 1, 1, 0, 0, 1), (.iadd, 1, 0, 0, 0), (.iaload, 1, 0, 0, 0), (.aload_n 0, 1, 0, 0, 0), (.iload_n 3, 1, 3, 0, 0), (.iconst 2, 1, 0, 0, 2), (.iadd, 1, 0, 0, 0), (.iaload, 1, 0, 0, 0), (.aload_n 0, 1, 0, 0, 0), (.iload_n 3, 1, 3, 0, 0), (.iconst 3, 1, 0, 0, 3), (.iadd, 1, 0, 0, 0), (.iaload, 1, 0, 0, 0), (.invokevirtual 38, 3, 189, 3, 11), (.pop, 1, 0, 0, 0), (.goto 2040, 3, 2563, 0, 0)], 526)
set_option maxRecDepth 100000 in
theorem ok_L_law_7 : pm_ok 12 4 false (some .boolean) cL_law bk_L_law_7.2.2 bk_L_law_7.1 bk_L_law_7.2.1 = true := okG_ok _ _ (by decide +kernel)
noncomputable def bk_L_law_8 : Nat × List pm_Op × Nat := (526, [(.aload_n 1, 1, 1, 0, 0), (.aload_n 0, 1, 0, 0, 0), (.iload_n 3, 1, 3, 0, 0), (.iconst 1, 1, 0, 0, 1), (.iadd, 1, 0, 0, 0), (.iaload, 1, 0, 0, 0), (.aload_n 0, 1, 0, 0, 0), (.iload_n 3, 1, 3, 0, 0), (.iconst 2, 1, 0, 0, 2), (.iadd, 1, 0, 0, 0), (.iaload, 1, 0, 0, 0), (.invokevirtual 39, 3, 32, 2, 10), (.pop, 1, 0, 0, 0), (.aload_n 2, 1, 2, 0, 0), (.aload_n 0, 1, 0, 0, 0), (.iload_n 3, 1, 3, 0, 0), (.iconst 1, 1, 0, 0, 1), (.iadd, 1, 0, 0, 0), (.iaload, 1, 0, 0, 0), (.aload_n 0, 1, 0, 0, 0), (.iload_n 3, 1, 3, 0, 0), (.iconst 2, 1, 0, 0, 2), (.iadd, 1, 0, 0, 0), (.iaload, 1, 0, 0, 0), (.invokevirtual 42, 3, 190, 2, 11), (.pop, 1, 0, 0, 0), (.goto 2007, 3, 2563, 0, 0)], 559)
set_option maxRecDepth 100000 in
theorem ok_L_law_8 : pm_ok 12 4 false (some .boolean) cL_law bk_L_law_8.2.2 bk_L_law_8.1 bk_L_law_8.2.1 = true := okG_ok _ _ (by decide +kernel)
noncomputable def bk_L_law_9 : Nat × List pm_Op × Nat := (559, [(.aload_n 1, 1, 1, 0, 0), (.aload_n 0, 1, 0, 0, 0), (.iload_n 3, 1, 3, 0, 0), (.iconst 1, 1, 0, 0, 1), (.iadd, 1, 0, 0, 0), (.iaload, 1, 0, 0, 0), (.aload_n 0, 1, 0, 0, 0), (.iload_n 3, 1, 3, 0, 0), (.iconst 2, 1, 0, 0, 2), (.iadd, 1, 0, 0, 0), (.iaload, 1, 0, 0, 0), (.aload_n 0, 1, 0, 0, 0), (.iload_n 3, 1, 3, 0, 0), (.iconst 3, 1, 0, 0, 3), (.iadd, 1, 0, 0, 0), (.iaload, 1, 0, 0, 0), (.aload_n 0, 1, 0, 0, 0), (.iload_n 3, 1, 3, 0, 0), (.iconst 4, 1, 0, 0, 4), (.iadd, 1, 0, 0, 0), (.iaload, 1, 0, 0, 0), (.invokevirtual 43, 3, 34, 4, 10), (.pop, 1, 0, 0, 0), (.aload_n 2, 1, 2, 0, 0), (.aload_n 0, 1, 0, 0, 0), (.iload_n 3, 1, 3, 0, 0), (.iconst 1, 1, 0, 0, 1), (.iadd, 1, 0, 0, 0), (.iaload, 1, 0, 0, 0), (.aload_n 0, 1, 0, 0, 0), (.iload_n 3, 1, 3, 0, 0), (.iconst 2, 1, 0, 0, 2), (.iadd, 1, 0, 0, 0), (.iaload, 1, 0, 0, 0), (.aload_n 0, 1, 0, 0, 0), (.iload_n 3, 1, 3, 0, 0), (.iconst 3, 1, 0, 0, 3), (.iadd, 1, 0, 0, 0), (.iaload, 1, 0, 0, 0), (.aload_n 0, 1, 0, 0, 0), (.iload_n 3, 1, 3, 0, 0), (.iconst 4, 1, 0, 0, 4), (.iadd, 1, 0, 0, 0), (.iaload, 1, 0, 0, 0), (.invokevirtual 47, 3, 191, 4, 11), (.pop, 1, 0, 0, 0), (.goto 1954, 3, 2563, 0, 0)], 612)
set_option maxRecDepth 100000 in
theorem ok_L_law_9 : pm_ok 12 4 false (some .boolean) cL_law bk_L_law_9.2.2 bk_L_law_9.1 bk_L_law_9.2.1 = true := okG_ok _ _ (by decide +kernel)
end
section
noncomputable def bk_L_law_10 : Nat × List pm_Op × Nat := (612, [(.aload_n 1, 1, 1, 0, 0), (.aload_n 0, 1, 0, 0, 0), (.iload_n 3, 1, 3, 0, 0), (.iconst 1, 1, 0, 0, 1), (.iadd, 1, 0, 0, 0), (.iaload, 1, 0, 0, 0), (.aload_n 0, 1, 0, 0, 0), (.iload_n 3, 1, 3, 0, 0), (.iconst 2, 1, 0, 0, 2), (.iadd, 1, 0, 0, 0), (.iaload, 1, 0, 0, 0), (.aload_n 0, 1, 0, 0, 0), (.iload_n 3, 1, 3, 0, 0), (.iconst 3, 1, 0, 0, 3), (.iadd, 1, 0, 0, 0), (.iaload, 1, 0, 0, 0), (.invokevirtual 48, 3, 36, 3, 10), (.pop, 1, 0, 0, 0), (.aload_n 2, 1, 2, 0, 0), (.aload_n 0, 1, 0, 0, 0), (.iload_n 3, 1, 3, 0, 0), (.iconst 1, 1, 0, 0, 1), (.iadd, 1, 0, 0, 0), (.iaload, 1, 0, 0, 0), (.aload_n 0, 1, 0, 0, 0), (.iload_n 3, 1, 3, 0, 0), (.iconst 2, 1, 0, 0, 2), (.iadd, 1, 0, 0, 0), (.iaload, 1, 0, 0, 0), (.aload_n 0, 1, 0, 0, 0), (.iload_n 3, 1, 3, 0, 0), (.iconst 3, 1, 0, 0, 3), (.iadd, 1, 0, 0, 0), (.iaload, 1, 0, 0, 0), (.invokevirtual 51, 3, 192, 3, 11), (.pop, 1, 0, 0, 0), (.goto 1911, 3, 2563, 0, 0)], 655)
set_option maxRecDepth 100000 in
theorem ok_L_law_10 : pm_ok 12 4 false (some .boolean) cL_law bk_L_law_10.2.2 bk_L_law_10.1 bk_L_law_10.2.1 = true := okG_ok _ _ (by decide +kernel)
noncomputable def bk_L_law_11 : Nat × List pm_Op × Nat := (655, [(.aload_n 1, 1, 1, 0, 0), (.aload_n 0, 1, 0, 0, 0), (.iload_n 3, 1, 3, 0, 0), (.iconst 1, 1, 0, 0, 1), (.iadd, 1, 0, 0, 0), (.iaload, 1, 0, 0, 0), (.aload_n 0, 1, 0, 0, 0), (.iload_n 3, 1, 3, 0, 0), (.iconst 2, 1, 0, 0, 2), (.iadd, 1, 0, 0, 0), (.iaload, 1, 0, 0, 0), (.invokevirtual 52, 3, 37, 2, 10), (.pop, 1, 0, 0, 0), (.aload_n 2, 1, 2, 0, 0), (.aload_n 0, 1, 0, 0, 0), (.iload_n 3, 1, 3, 0, 0), (.iconst 1, 1, 0, 0, 1), (.iadd, 1, 0, 0, 0), (.iaload, 1, 0, 0, 0), (.aload_n 0, 1, 0, 0, 0), (.iload_n 3, 1, 3, 0, 0), (.iconst 2, 1, 0, 0, 2), (.iadd, 1, 0, 0, 0), (.iaload, 1, 0, 0, 0), (.invokevirtual 55, 3, 181, 2, 11), (.pop, 1, 0, 0, 0), (.goto 1878, 3, 2563, 0, 0)], 688)
set_option maxRecDepth 100000 in
theorem ok_L_law_11 : pm_ok 12 4 false (some .boolean) cL_law bk_L_law_11.2.2 bk_L_law_11.1 bk_L_law_11.2.1 = true := okG_ok _ _ (by decide +kernel)
noncomputable def bk_L_law_12 : Nat × List pm_Op × Nat := (688, [(.aload_n 1, 1, 1, 0, 0), (.aload_n 0, 1, 0, 0, 0), (.iload_n 3, 1, 3, 0, 0), (.iconst 1, 1, 0, 0, 1), (.iadd, 1, 0, 0, 0), (.iaload, 1, 0, 0, 0), (.aload_n 0, 1, 0, 0, 0), (.iload_n 3, 1, 3, 0, 0), (.iconst 2, 1, 0, 0, 2), (.iadd, 1, 0, 0, 0), (.iaload, 1, 0, 0, 0), (.invokevirtual 56, 3, 39, 2, 10), (.pop, 1, 0, 0, 0), (.aload_n 2, 1, 2, 0, 0), (.aload_n 0, 1, 0, 0, 0), (.iload_n 3, 1, 3, 0, 0), (.iconst 1, 1, 0, 0, 1), (.iadd, 1, 0, 0, 0), (.iaload, 1, 0, 0, 0), (.aload_n 0, 1, 0, 0, 0), (.iload_n 3, 1, 3, 0, 0), (.iconst 2, 1, 0, 0, 2), (.iadd, 1, 0, 0, 0), (.iaload, 1, 0, 0, 0), (.invokevirtual 59, 3, 182, 2, 11), (.pop, 1, 0, 0, 0), (.goto 1845, 3, 2563, 0, 0)], 721)
set_option maxRecDepth 100000 in
theorem ok_L_law_12 : pm_ok 12 4 false (some .boolean) cL_law bk_L_law_12.2.2 bk_L_law_12.1 bk_L_law_12.2.1 = true := okG_ok _ _ (by decide +kernel)
noncomputable def bk_L_law_13 : Nat × List pm_Op × Nat := (721, [(.aload_n 1, 1, 1, 0, 0), (.aload_n 0, 1, 0, 0, 0), (.iload_n 3, 1, 3, 0, 0), (.iconst 1, 1, 0, 0, 1), (.iadd, 1, 0, 0, 0), (.iaload, 1, 0, 0, 0), (.aload_n 0, 1, 0, 0, 0), (.iload_n 3, 1, 3, 0, 0), (.iconst 2, 1, 0, 0, 2), (.iadd, 1, 0, 0, 0), (.iaload, 1, 0, 0, 0), (.aload_n 0, 1, 0, 0, 0), (.iload_n 3, 1, 3, 0, 0), (.iconst 3, 1, 0, 0, 3), (.iadd, 1, 0, 0, 0), (.iaload, 1, 0, 0, 0), (.invokevirtual 60, 3, 40, 3, 10), (.pop, 1, 0, 0, 0), (.aload_n 2, 1, 2, 0, 0), (.aload_n 0, 1, 0, 0, 0), (.iload_n 3, 1, 3, 0, 0), (.iconst 1, 1, 0, 0, 1), (.iadd, 1, 0, 0, 0), (.iaload, 1, 0, 0, 0), (.aload_n 0, 1, 0, 0, 0), (.iload_n 3, 1, 3, 0, 0), (.iconst 2, 1, 0, 0, 2), (.iadd, 1, 0, 0, 0), (.iaload, 1, 0, 0, 0), (.aload_n 0, 1, 0, 0, 0), (.iload_n 3, 1, 3, 0, 0), (.iconst 3, 1, 0, 0, 3), (.iadd, 1, 0, 0, 0), (.iaload, 1, 0, 0, 0), (.invokevirtual 63, 3, 193, 3, 11), (.pop, 1, 0, 0, 0), (.goto 1802, 3, 2563, 0, 0)], 764)
set_option maxRecDepth 100000 in
theorem ok_L_law_13 : pm_ok 12 4 false (some .boolean) cL_law bk_L_law_13.2.2 bk_L_law_13.1 bk_L_law_13.2.1 = true := okG_ok _ _ (by decide +kernel)
noncomputable def bk_L_law_14 : Nat × List pm_Op × Nat := (764, [(.aload_n 1, 1, 1, 0, 0), (.aload_n 0, 1, 0, 0, 0), (.iload_n 3, 1, 3, 0, 0), (.iconst 1, 1, 0, 0, 1), (.iadd, 1, 0, 0, 0), (.iaload, 1, 0, 0, 0), (.aload_n 0, 1, 0, 0, 0), (.iload_n 3, 1, 3, 0, 0), (.iconst 2, 1, 0, 0, 2), (.iadd, 1, 0, 0, 0), (.iaload, 1, 0, 0, 0), (.invokevirtual 64, 3, 41, 2, 10), (.pop, 1, 0, 0, 0), (.aload_n 2, 1, 2, 0, 0), (.aload_n 0, 1, 0, 0, 0), (.iload_n 3, 1, 3, 0, 0), (.iconst 1, 1, 0, 0, 1), (.iadd, 1, 0, 0, 0), (.iaload, 1, 0, 0, 0), (.aload_n 0, 1, 0, 0, 0), (.iload_n 3, 1, 3, 0, 0), (.iconst 2, 1, 0, 0, 2), (.iadd, 1, 0, 0, 0), (.iaload, 1, 0, 0, 0), (.invokevirtual 67, 3, 194, 2, 11), (.pop, 1, 0, 0, 0), (.goto 1769, 3, 2563, 0, 0)], 797)
set_option maxRecDepth 100000 in
theorem ok_L_law_14 : pm_ok 12 4 false (some .boolean) cL_law bk_L_law_14.2.2 bk_L_law_14.1 bk_L_law_14.2.1 = true := okG_ok _ _ (by decide +kernel)
noncomputable def bk_L_law_15 : Nat × List pm_Op × Nat := (797, [(.aload_n 1, 1, 1, 0, 0), (.aload_n 0, 1, 0, 0, 0), (.iload_n 3, 1, 3, 0, 0), (.iconst 1, 1, 0, 0, 1), (.iadd, 1, 0, 0, 0), (.iaload, 1, 0, 0, 0), (.aload_n 0, 1, 0, 0, 0), (.iload_n 3, 1, 3, 0, 0), (.iconst 2, 1, 0, 0, 2), (.iadd, 1, 0, 0, 0), (.iaload, 1, 0, 0, 0), (.invokevirtual 68, 3, 42, 2, 10), (.pop, 1, 0, 0, 0), (.aload_n 2, 1, 2, 0, 0), (.aload_n 0, 1, 0, 0, 0), (.iload_n 3, 1, 3, 0, 0), (.iconst 1, 1, 0, 0, 1), (.iadd, 1, 0, 0, 0), (.iaload, 1, 0, 0, 0), (.aload_n 0, 1, 0, 0, 0), (.iload_n 3, 1, 3, 0, 0), (.iconst 2, 1, 0, 0, 2), (.iadd, 1, 0, 0, 0), (.iaload, 1, 0, 0, 0), (.invokevirtual 71, 3, 195, 2, 11), (.pop, 1, 0, 0, 0), (.goto 1736, 3, 2563, 0, 0)], 830)
set_option maxRecDepth 100000 in
theorem ok_L_law_15 : pm_ok 12 4 false (some .boolean) cL_law bk_L_law_15.2.2 bk_L_law_15.1 bk_L_law_15.2.1 = true := okG_ok _ _ (by decide +kernel)
noncomputable def bk_L_law_16 : Nat × List pm_Op × Nat := (830, [(.aload_n 1, 1, 1, 0, 0), (.aload_n 0, 1, 0, 0, 0), (.iload_n 3, 1, 3, 0, 0), (.iconst 1, 1, 0, 0, 1), (.iadd, 1, 0, 0, 0), (.iaload, 1, 0, 0, 0), (.invokevirtual 72, 3, 45, 1, 10), (.pop, 1, 0, 0, 0), (.aload_n 2, 1, 2, 0, 0), (.aload_n 0, 1, 0, 0, 0), (.iload_n 3, 1, 3, 0, 0), (.iconst 1, 1, 0, 0, 1), (.iadd, 1, 0, 0, 0), (.iaload, 1, 0, 0, 0), (.invokevirtual 76, 3, 197, 1, 11), (.pop, 1, 0, 0, 0), (.goto 1713, 3, 2563, 0, 0)], 853)
set_option maxRecDepth 100000 in
theorem ok_L_law_16 : pm_ok 12 4 false (some .boolean) cL_law bk_L_law_16.2.2 bk_L_law_16.1 bk_L_law_16.2.1 = true := okG_ok _ _ (by decide +kernel)
noncomputable def bk_L_law_17 : Nat × List pm_Op × Nat := (853, [(.aload_n 1, 1, 1, 0, 0), (.aload_n 0, 1, 0, 0, 0), (.iload_n 3, 1, 3, 0, 0), (.iconst 1, 1, 0, 0, 1), (.iadd, 1, 0, 0, 0), (.iaload, 1, 0, 0, 0), (.aload_n 0, 1, 0, 0, 0), (.iload_n 3, 1, 3, 0, 0), (.iconst 2, 1, 0, 0, 2), (.iadd, 1, 0, 0, 0), (.iaload, 1, 0, 0, 0), (.invokevirtual 77, 3, 47, 2, 10), (.pop, 1, 0, 0, 0), (.aload_n 2, 1, 2, 0, 0), (.aload_n 0, 1, 0, 0, 0), (.iload_n 3, 1, 3, 0, 0), (.iconst 1, 1, 0, 0, 1), (.iadd, 1, 0, 0, 0), (.iaload, 1, 0, 0, 0), (.aload_n 0, 1, 0, 0, 0), (.iload_n 3, 1, 3, 0, 0), (.iconst 2, 1, 0, 0, 2), (.iadd, 1, 0, 0, 0), (.iaload, 1, 0, 0, 0), (.invokevirtual 80, 3, 199, 2, 11), (.pop, 1, 0, 0, 0), (.goto 1680, 3, 2563, 0, 0)], 886)
set_option maxRecDepth 100000 in
theorem ok_L_law_17 : pm_ok 12 4 false (some .boolean) cL_law bk_L_law_17.2.2 bk_L_law_17.1 bk_L_law_17.2.1 = true := okG_ok _ _ (by decide +kernel)
noncomputable def bk_L_law_18 : Nat × List pm_Op × Nat := (886, [(.aload_n 1, 1, 1, 0, 0), (.aload_n 0, 1, 0, 0, 0), (.iload_n 3, 1, 3, 0, 0), (.iconst 1, 1, 0, 0, 1), (.iadd, 1, 0, 0, 0), (.iaload, 1, 0, 0, 0), (.aload_n 0, 1, 0, 0, 0), (.iload_n 3, 1, 3, 0, 0), (.iconst 2, 1, 0, 0, 2), (.iadd, 1, 0, 0, 0), (.iaload, 1, 0, 0, 0), (.invokevirtual 81, 3, 52, 2, 10), (.pop, 1, 0, 0, 0), (.aload_n 2, 1, 2, 0, 0), (.aload_n 0, 1, 0, 0, 0), (.iload_n 3, 1, 3, 0, 0), (.iconst 1, 1, 0, 0, 1), (.iadd, 1, 0, 0, 0), (.iaload, 1, 0, 0, 0), (.aload_n 0, 1, 0, 0, 0), (.iload_n 3, 1, 3, 0, 0), (.iconst 2, 1, 0, 0, 2), (.iadd, 1, 0, 0, 0), (.iaload, 1, 0, 0, 0), (.invokevirtual 84, 3, 204, 2, 11), (.pop, 1, 0, 0, 0), (.goto 1647, 3, 2563, 0, 0)], 919)
set_option maxRecDepth 100000 in
theorem ok_L_law_18 : pm_ok 12 4 false (some .boolean) cL_law bk_L_law_18.2.2 bk_L_law_18.1 bk_L_law_18.2.1 = true := okG_ok _ _ (by decide +kernel)
noncomputable def bk_L_law_19 : Nat × List pm_Op × Nat := (919, [(.aload_n 1, 1, 1, 0, 0), (.aload_n 0, 1, 0, 0, 0), (.iload_n 3, 1, 3, 0, 0), (.iconst 1, 1, 0, 0, 1), (.iadd, 1, 0, 0, 0), (.iaload, 1, 0, 0, 0), (.invokevirtual 85, 3, 53, 1, 10), (.aload_n 2, 1, 2, 0, 0), (.aload_n 0, 1, 0, 0, 0), (.iload_n 3, 1, 3, 0, 0), (.iconst 1, 1, 0, 0, 1), (.iadd, 1, 0, 0, 0), (.iaload, 1, 0, 0, 0), (.invokevirtual 88, 3, 205, 1, 11), (.if_icmp .eq 1626, 3, 2563, 0, 0), (.iconst 0, 1, 0, 0, 0), (.ireturn, 1, 1, 0, 0)], 942)
set_option maxRecDepth 100000 in
theorem ok_L_law_19 : pm_ok 12 4 false (some .boolean) cL_law bk_L_law_19.2.2 bk_L_law_19.1 bk_L_law_19.2.1 = true := okG_ok _ _ (by decide +kernel)
end
section
noncomputable def bk_L_law_20 : Nat × List pm_Op × Nat := (942, [(.aload_n 1, 1, 1, 0, 0), (.aload_n 0, 1, 0, 0, 0), (.iload_n 3, 1, 3, 0, 0), (.iconst 1, 1, 0, 0, 1), (.iadd, 1, 0, 0, 0), (.iaload, 1, 0, 0, 0), (.aload_n 0, 1, 0, 0, 0), (.iload_n 3, 1, 3, 0, 0), (.iconst 2, 1, 0, 0, 2), (.iadd, 1, 0, 0, 0), (.iaload, 1, 0, 0, 0), (.invokevirtual 89, 3, 58, 2, 10), (.pop, 1, 0, 0, 0), (.aload_n 2, 1, 2, 0, 0), (.aload_n 0, 1, 0, 0, 0), (.iload_n 3, 1, 3, 0, 0), (.iconst 1, 1, 0, 0, 1), (.iadd, 1, 0, 0, 0), (.iaload, 1, 0, 0, 0), (.aload_n 0, 1, 0, 0, 0), (.iload_n 3, 1, 3, 0, 0), (.iconst 2, 1, 0, 0, 2), (.iadd, 1, 0, 0, 0), (.iaload, 1, 0, 0, 0), (.invokevirtual 92, 3, 208, 2, 11), (.pop, 1, 0, 0, 0), (.goto 1591, 3, 2563, 0, 0)], 975)
set_option maxRecDepth 100000 in
theorem ok_L_law_20 : pm_ok 12 4 false (some .boolean) cL_law bk_L_law_20.2.2 bk_L_law_20.1 bk_L_law_20.2.1 = true := okG_ok _ _ (by decide +kernel)
noncomputable def bk_L_law_21 : Nat × List pm_Op × Nat := (975, [(.aload_n 1, 1, 1, 0, 0), (.aload_n 0, 1, 0, 0, 0), (.iload_n 3, 1, 3, 0, 0), (.iconst 1, 1, 0, 0, 1), (.iadd, 1, 0, 0, 0), (.iaload, 1, 0, 0, 0), (.aload_n 0, 1, 0, 0, 0), (.iload_n 3, 1, 3, 0, 0), (.iconst 2, 1, 0, 0, 2), (.iadd, 1, 0, 0, 0), (.iaload, 1, 0, 0, 0), (.invokevirtual 93, 3, 60, 2, 10), (.pop, 1, 0, 0, 0), (.aload_n 2, 1, 2, 0, 0), (.aload_n 0, 1, 0, 0, 0), (.iload_n 3, 1, 3, 0, 0), (.iconst 1, 1, 0, 0, 1), (.iadd, 1, 0, 0, 0), (.iaload, 1, 0, 0, 0), (.aload_n 0, 1, 0, 0, 0), (.iload_n 3, 1, 3, 0, 0), (.iconst 2, 1, 0, 0, 2), (.iadd, 1, 0, 0, 0), (.iaload, 1, 0, 0, 0), (.invokevirtual 96, 3, 210, 2, 11), (.pop, 1, 0, 0, 0), (.goto 1558, 3, 2563, 0, 0)], 1008)
set_option maxRecDepth 100000 in
theorem ok_L_law_21 : pm_ok 12 4 false (some .boolean) cL_law bk_L_law_21.2.2 bk_L_law_21.1 bk_L_law_21.2.1 = true := okG_ok _ _ (by decide +kernel)
noncomputable def bk_L_law_22 : Nat × List pm_Op × Nat := (1008, [(.aload_n 1, 1, 1, 0, 0), (.aload_n 0, 1, 0, 0, 0), (.iload_n 3, 1, 3, 0, 0), (.iconst 1, 1, 0, 0, 1), (.iadd, 1, 0, 0, 0), (.iaload, 1, 0, 0, 0), (.aload_n 0, 1, 0, 0, 0), (.iload_n 3, 1, 3, 0, 0), (.iconst 2, 1, 0, 0, 2), (.iadd, 1, 0, 0, 0), (.iaload, 1, 0, 0, 0), (.invokevirtual 97, 3, 61, 2, 10), (.pop, 1, 0, 0, 0), (.aload_n 2, 1, 2, 0, 0), (.aload_n 0, 1, 0, 0, 0), (.iload_n 3, 1, 3, 0, 0), (.iconst 1, 1, 0, 0, 1), (.iadd, 1, 0, 0, 0), (.iaload, 1, 0, 0, 0), (.aload_n 0, 1, 0, 0, 0), (.iload_n 3, 1, 3, 0, 0), (.iconst 2, 1, 0, 0, 2), (.iadd, 1, 0, 0, 0), (.iaload, 1, 0, 0, 0), (.invokevirtual 100, 3, 212, 2, 11), (.pop, 1, 0, 0, 0), (.goto 1525, 3, 2563, 0, 0)], 1041)
set_option maxRecDepth 100000 in
theorem ok_L_law_22 : pm_ok 12 4 false (some .boolean) cL_law bk_L_law_22.2.2 bk_L_law_22.1 bk_L_law_22.2.1 = true := okG_ok _ _ (by decide +kernel)
noncomputable def bk_L_law_23 : Nat × List pm_Op × Nat := (1041, [(.aload_n 1, 1, 1, 0, 0), (.aload_n 0, 1, 0, 0, 0), (.iload_n 3, 1, 3, 0, 0), (.iconst 1, 1, 0, 0, 1), (.iadd, 1, 0, 0, 0), (.iaload, 1, 0, 0, 0), (.aload_n 0, 1, 0, 0, 0), (.iload_n 3, 1, 3, 0, 0), (.iconst 2, 1, 0, 0, 2), (.iadd, 1, 0, 0, 0), (.iaload, 1, 0, 0, 0), (.aload_n 0, 1, 0, 0, 0), (.iload_n 3, 1, 3, 0, 0), (.iconst 3, 1, 0, 0, 3), (.iadd, 1, 0, 0, 0), (.iaload, 1, 0, 0, 0), (.invokevirtual 101, 3, 62, 3, 10), (.pop, 1, 0, 0, 0), (.aload_n 2, 1, 2, 0, 0), (.aload_n 0, 1, 0, 0, 0), (.iload_n 3, 1, 3, 0, 0), (.iconst 1, 1, 0, 0, 1), (.iadd, 1, 0, 0, 0), (.iaload, 1, 0, 0, 0), (.aload_n 0, 1, 0, 0, 0), (.iload_n 3, 1, 3, 0, 0), (.iconst 2, 1, 0, 0, 2), (.iadd, 1, 0, 0, 0), (.iaload, 1, 0, 0, 0), (.aload_n 0, 1, 0, 0, 0), (.iload_n 3, 1, 3, 0, 0), (.iconst 3, 1, 0, 0, 3), (.iadd, 1, 0, 0, 0), (.iaload, 1, 0, 0, 0), (.invokevirtual 104, 3, 213, 3, 11), (.pop, 1, 0, 0, 0), (.goto 1482, 3, 2563, 0, 0)], 1084)
set_option maxRecDepth 100000 in
theorem ok_L_law_23 : pm_ok 12 4 false (some .boolean) cL_law bk_L_law_23.2.2 bk_L_law_23.1 bk_L_law_23.2.1 = true := okG_ok _ _ (by decide +kernel)
noncomputable def bk_L_law_24 : Nat × List pm_Op × Nat := (1084, [(.aload_n 1, 1, 1, 0, 0), (.aload_n 0, 1, 0, 0, 0), (.iload_n 3, 1, 3, 0, 0), (.iconst 1, 1, 0, 0, 1), (.iadd, 1, 0, 0, 0), (.iaload, 1, 0, 0, 0), (.aload_n 0, 1, 0, 0, 0), (.iload_n 3, 1, 3, 0, 0), (.iconst 2, 1, 0, 0, 2), (.iadd, 1, 0, 0, 0), (.iaload, 1, 0, 0, 0), (.aload_n 0, 1, 0, 0, 0), (.iload_n 3, 1, 3, 0, 0), (.iconst 3, 1, 0, 0, 3), (.iadd, 1, 0, 0, 0), (.iaload, 1, 0, 0, 0), (.invokevirtual 105, 3, 63, 3, 10), (.pop, 1, 0, 0, 0), (.aload_n 2, 1, 2, 0, 0), (.aload_n 0, 1, 0, 0, 0), (.iload_n 3, 1, 3, 0, 0), (.iconst 1, 1, 0, 0, 1), (.iadd, 1, 0, 0, 0), (.iaload, 1, 0, 0, 0), (.aload_n 0, 1, 0, 0, 0), (.iload_n 3, 1, 3, 0, 0), (.iconst 2, 1, 0, 0, 2), (.iadd, 1, 0, 0, 0), (.iaload, 1, 0, 0, 0), (.aload_n 0, 1, 0, 0, 0), (.iload_n 3, 1, 3, 0, 0), (.iconst 3, 1, 0, 0, 3), (.iadd, 1, 0, 0, 0), (.iaload, 1, 0, 0, 0), (.invokevirtual 108, 3, 214, 3, 11), (.pop, 1, 0, 0, 0), (.goto 1439, 3, 2563, 0, 0)], 1127)
set_option maxRecDepth 100000 in
theorem ok_L_law_24 : pm_ok 12 4 false (some .boolean) cL_law bk_L_law_24.2.2 bk_L_law_24.1 bk_L_law_24.2.1 = true := okG_ok _ _ (by decide +kernel)
noncomputable def bk_L_law_25 : Nat × List pm_Op × Nat := (1127, [(.aload_n 1, 1, 1, 0, 0), (.aload_n 0, 1, 0, 0, 0), (.iload_n 3, 1, 3, 0, 0), (.iconst 1, 1, 0, 0, 1), (.iadd, 1, 0, 0, 0), (.iaload, 1, 0, 0, 0), (.aload_n 0, 1, 0, 0, 0), (.iload_n 3, 1, 3, 0, 0), (.iconst 2, 1, 0, 0, 2), (.iadd, 1, 0, 0, 0), (.iaload, 1, 0, 0, 0), (.aload_n 0, 1, 0, 0, 0), (.iload_n 3, 1, 3, 0, 0), (.iconst 3, 1, 0, 0, 3), (.iadd, 1, 0, 0, 0), (.iaload, 1, 0, 0, 0), (.aload_n 0, 1, 0, 0, 0), (.iload_n 3, 1, 3, 0, 0), (.iconst 4, 1, 0, 0, 4), (.iadd, 1, 0, 0, 0), (.iaload, 1, 0, 0, 0), (.invokevirtual 109, 3, 65, 4, 10), (.pop, 1, 0, 0, 0), (.aload_n 2, 1, 2, 0, 0), (.aload_n 0, 1, 0, 0, 0), (.iload_n 3, 1, 3, 0, 0), (.iconst 1, 1, 0, 0, 1), (.iadd, 1, 0, 0, 0), (.iaload, 1, 0, 0, 0), (.aload_n 0, 1, 0, 0, 0), (.iload_n 3, 1, 3, 0, 0), (.iconst 2, 1, 0, 0, 2), (.iadd, 1, 0, 0, 0), (.iaload, 1, 0, 0, 0), (.aload_n 0, 1, 0, 0, 0), (.iload_n 3, 1, 3, 0, 0), (.iconst 3, 1, 0, 0, 3), (.iadd, 1, 0, 0, 0), (.iaload, 1, 0, 0, 0), (.aload_n 0, 1, 0, 0, 0), (.iload_n 3, 1, 3, 0, 0), (.iconst 4, 1, 0, 0, 4), (.iadd, 1, 0, 0, 0), (.iaload, 1, 0, 0, 0), (.invokevirtual 112, 3, 217, 4, 11), (.pop, 1, 0, 0, 0), (.goto 1386, 3, 2563, 0, 0)], 1180)
set_option maxRecDepth 100000 in
theorem ok_L_law_25 : pm_ok 12 4 false (some .boolean) cL_law bk_L_law_25.2.2 bk_L_law_25.1 bk_L_law_25.2.1 = true := okG_ok _ _ (by decide +kernel)
noncomputable def bk_L_law_26 : Nat × List pm_Op × Nat := (1180, [(.aload_n 1, 1, 1, 0, 0), (.aload_n 0, 1, 0, 0, 0), (.iload_n 3, 1, 3, 0, 0), (.iconst 1, 1, 0, 0, 1), (.iadd, 1, 0, 0, 0), (.iaload, 1, 0, 0, 0), (.aload_n 0, 1, 0, 0, 0), (.iload_n 3, 1, 3, 0, 0), (.iconst 2, 1, 0, 0, 2), (.iadd, 1, 0, 0, 0), (.iaload, 1, 0, 0, 0), (.aload_n 0, 1, 0, 0, 0), (.iload_n 3, 1, 3, 0, 0), (.iconst 3, 1, 0, 0, 3), (.iadd, 1, 0, 0, 0), (.iaload, 1, 0, 0, 0), (.aload_n 0, 1, 0, 0, 0), (.iload_n 3, 1, 3, 0, 0), (.iconst 4, 1, 0, 0, 4), (.iadd, 1, 0, 0, 0), (.iaload, 1, 0, 0, 0), (.invokevirtual 113, 3, 67, 4, 10), (.pop, 1, 0, 0, 0), (.aload_n 2, 1, 2, 0, 0), (.aload_n 0, 1, 0, 0, 0), (.iload_n 3, 1, 3, 0, 0), (.iconst 1, 1, 0, 0, 1), (.iadd, 1, 0, 0, 0), (.iaload, 1, 0, 0, 0), (.aload_n 0, 1, 0, 0, 0), (.iload_n 3, 1, 3, 0, 0), (.iconst 2, 1, 0, 0, 2), (.iadd, 1, 0, 0, 0), (.iaload, 1, 0, 0, 0), (.aload_n 0, 1, 0, 0, 0), (.iload_n 3, 1, 3, 0, 0), (.iconst 3, 1, 0, 0, 3), (.iadd, 1, 0, 0, 0), (.iaload, 1, 0, 0, 0), (.aload_n 0, 1, 0, 0, 0), (.iload_n 3, 1, 3, 0, 0), (.iconst 4, 1, 0, 0, 4), (.iadd, 1, 0, 0, 0), (.iaload, 1, 0, 0, 0), (.invokevirtual 116, 3, 220, 4, 11), (.pop, 1, 0, 0, 0), (.goto 1333, 3, 2563, 0, 0)], 1233)
set_option maxRecDepth 100000 in
theorem ok_L_law_26 : pm_ok 12 4 false (some .boolean) cL_law bk_L_law_26.2.2 bk_L_law_26.1 bk_L_law_26.2.1 = true := okG_ok _ _ (by decide +kernel)
noncomputable def bk_L_law_27 : Nat × List pm_Op × Nat := (1233, [(.aload_n 1, 1, 1, 0, 0), (.aload_n 0, 1, 0, 0, 0), (.iload_n 3, 1, 3, 0, 0), (.iconst 1, 1, 0, 0, 1), (.iadd, 1, 0, 0, 0), (.iaload, 1, 0, 0, 0), (.aload_n 0, 1, 0, 0, 0), (.iload_n 3, 1, 3, 0, 0), (.iconst 2, 1, 0, 0, 2), (.iadd, 1, 0, 0, 0), (.iaload, 1, 0, 0, 0), (.aload_n 0, 1, 0, 0, 0), (.iload_n 3, 1, 3, 0, 0), (.iconst 3, 1, 0, 0, 3), (.iadd, 1, 0, 0, 0), (.iaload, 1, 0, 0, 0), (.invokevirtual 117, 3, 73, 3, 10), (.pop, 1, 0, 0, 0), (.aload_n 2, 1, 2, 0, 0), (.aload_n 0, 1, 0, 0, 0), (.iload_n 3, 1, 3, 0, 0), (.iconst 1, 1, 0, 0, 1), (.iadd, 1, 0, 0, 0), (.iaload, 1, 0, 0, 0), (.aload_n 0, 1, 0, 0, 0), (.iload_n 3, 1, 3, 0, 0), (.iconst 2, 1, 0, 0, 2), (.iadd, 1, 0, 0, 0), (.iaload, 1, 0, 0, 0), (.aload_n 0, 1, 0, 0, 0), (.iload_n 3, 1, 3, 0, 0), (.iconst 3, 1, 0, 0, 3), (.iadd, 1, 0, 0, 0), (.iaload, 1, 0, 0, 0), (.invokevirtual 120, 3, 223, 3, 11), (.pop, 1, 0, 0, 0), (.goto 1290, 3, 2563, 0, 0)], 1276)
set_option maxRecDepth 100000 in
theorem ok_L_law_27 : pm_ok 12 4 false (some .boolean) cL_law bk_L_law_27.2.2 bk_L_law_27.1 bk_L_law_27.2.1 = true := okG_ok _ _ (by decide +kernel)
noncomputable def bk_L_law_28 : Nat × List pm_Op × Nat := (1276, [(.aload_n 1, 1, 1, 0, 0), (.aload_n 0, 1, 0, 0, 0), (.iload_n 3, 1, 3, 0, 0), (.iconst 1, 1, 0, 0, 1), (.iadd, 1, 0, 0, 0), (.iaload, 1, 0, 0, 0), (.aload_n 0, 1, 0, 0, 0), (.iload_n 3, 1, 3, 0, 0), (.iconst 2, 1, 0, 0, 2), (.iadd, 1, 0, 0, 0), (.iaload, 1, 0, 0, 0), (.aload_n 0, 1, 0, 0, 0), (.iload_n 3, 1, 3, 0, 0), (.iconst 3, 1, 0, 0, 3), (.iadd, 1, 0, 0, 0), (.iaload, 1, 0, 0, 0), (.aload_n 0, 1, 0, 0, 0), (.iload_n 3, 1, 3, 0, 0), (.iconst 4, 1, 0, 0, 4), (.iadd, 1, 0, 0, 0), (.iaload, 1, 0, 0, 0), (.aload_n 0, 1, 0, 0, 0), (.iload_n 3, 1, 3, 0, 0), (.iconst 5, 1, 0, 0, 5), (.iadd, 1, 0, 0, 0), (.iaload, 1, 0, 0, 0), (.invokevirtual 121, 3, 74, 5, 10), (.pop, 1, 0, 0, 0), (.aload_n 2, 1, 2, 0, 0), (.aload_n 0, 1, 0, 0, 0), (.iload_n 3, 1, 3, 0, 0), (.iconst 1, 1, 0, 0, 1), (.iadd, 1, 0, 0, 0), (.iaload, 1, 0, 0, 0), (.aload_n 0, 1, 0, 0, 0), (.iload_n 3, 1, 3, 0, 0), (.iconst 2, 1, 0, 0, 2), (.iadd, 1, 0, 0, 0), (.iaload, 1, 0, 0, 0), (.aload_n 0, 1, 0, 0, 0), (.iload_n 3, 1, 3, 0, 0), (.iconst 3, 1, 0, 0, 3), (.iadd, 1, 0, 0, 0), (.iaload, 1, 0, 0, 0), (.aload_n 0, 1, 0, 0, 0), (.iload_n 3, 1, 3, 0, 0), (.iconst 4, 1, 0, 0, 4), (.iadd, 1, 0, 0, 0), (.iaload, 1, 0, 0, 0), (.aload_n 0, 1, 0, 0, 0), (.iload_n 3, 1, 3, 0, 0), (.iconst 5, 1, 0, 0, 5), (.iadd, 1, 0, 0, 0), (.iaload, 1, 0, 0, 0), (.invokevirtual 125, 3, 224, 5, 11), (.pop, 1, 0, 0, 0), (.goto 1227, 3, 2563, 0, 0)], 1339)
set_option maxRecDepth 100000 in
theorem ok_L_law_28 : pm_ok 12 4 false (some .boolean) cL_law bk_L_law_28.2.2 bk_L_law_28.1 bk_L_law_28.2.1 = true := okG_ok _ _ (by decide +kernel)
noncomputable def bk_L_law_29 : Nat × List pm_Op × Nat := (1339, [(.aload_n 1, 1, 1, 0, 0), (.aload_n 0, 1, 0, 0, 0), (.iload_n 3, 1, 3, 0, 0), (.iconst 1, 1, 0, 0, 1), (.iadd, 1, 0, 0, 0), (.iaload, 1, 0, 0, 0), (.aload_n 0, 1, 0, 0, 0), (.iload_n 3, 1, 3, 0, 0), (.iconst 2, 1, 0, 0, 2), (.iadd, 1, 0, 0, 0), (.iaload, 1, 0, 0, 0), (.aload_n 0, 1, 0, 0, 0), (.iload_n 3, 1, 3, 0, 0), (.iconst 3, 1, 0, 0, 3), (.iadd, 1, 0, 0, 0), (.iaload, 1, 0, 0, 0), (.invokevirtual 126, 3, 76, 3, 10), (.pop, 1, 0, 0, 0), (.aload_n 2, 1, 2, 0, 0), (.aload_n 0, 1, 0, 0, 0), (.iload_n 3, 1, 3, 0, 0), (.iconst 1, 1, 0, 0, 1), (.iadd, 1, 0, 0, 0), (.iaload, 1, 0, 0, 0), (.aload_n 0, 1, 0, 0, 0), (.iload_n 3, 1, 3, 0, 0), (.iconst 2, 1, 0, 0, 2), (.iadd, 1, 0, 0, 0), (.iaload, 1, 0, 0, 0), (.aload_n 0, 1, 0, 0, 0), (.iload_n 3, 1, 3, 0, 0), (.iconst 3, 1, 0, 0, 3), (.iadd, 1, 0, 0, 0), (.iaload, 1, 0, 0, 0), (.invokevirtual 129, 3, 215, 3, 11), (.pop, 1, 0, 0, 0), (.goto 1184, 3, 2563, 0, 0)], 1382)
set_option maxRecDepth 100000 in
theorem ok_L_law_29 : pm_ok 12 4 false (some .boolean) cL_law bk_L_law_29.2.2 bk_L_law_29.1 bk_L_law_29.2.1 = true := okG_ok _ _ (by decide +kernel)
end
