section
variable {l : Launch} {g : pm_G} {A0 : pm_H} {K nn dn : Nat} {q : Nat → Nat} {w : Nat → Int32} {e : Nat → Nat → Int32} {v : Nat → Int32} {f : Nat → Nat → Int32}
set_option maxRecDepth 100000 in
set_option maxHeartbeats 2000000 in
theorem c_X6_findLongestUnlike (hI : cw_I K nn dn q w e) (hs : cw_S v f) {o1 : Nat} (ho1 : cw_ro K o1)  : pm_Mt l g 116 1 0 0 [.ref (q 5), .ref (q o1)] (cw A0 g K nn dn q w e v f) (cw_Qs A0 g K nn dn q w e (fun r v2 f2 => r = none ∧ (True))) := by
  refine mt_X6_findLongestUnlike rfl (fun J hC => ?_)
  have hu1 := hI.2.1
  unfold cw_W at hu1
  have ro_nn : cw_ro K nn := hI.2.1.2.1
  have ro_dn : cw_ro K dn := hI.2.1.2.2.1
  have zz0 := cw_sz hI ho1
  refine hC.1 0 0 _ _ rfl _ _ _ _ _ ?_
  refine And.intro (Exists.intro _ (cw_o5 hI.1)) (Exists.intro _ (Exists.intro _ (Exists.intro _ (Exists.intro _ (And.intro (c_X6_clearFound hI hs  ) (And.intro rfl (fun r9 A9 h9 => ?_)))))))
  rcases h9 with ⟨v3, f3, rfl, hs3, rfl, by2⟩
  have k0 : (0 : Int32).toInt = 0 := rfl
  have lp5 : ∀ (n : Nat) (z2_8 : Int32) (z3_8 : Int32) (v4 : Nat → Int32) (f4 : Nat → Nat → Int32), cw_S v4 f4 → (0 ≤ z3_8.toInt ∧ z3_8.toInt ≤ 160) → 200 - z3_8.toInt < (n : Int) → J 8 [some (.ref (q 5)), some (.ref (q o1)), some (.int z2_8), some (.int z3_8)] [] (cw A0 g K nn dn q w e v4 f4) 0 0 := by
    intro n
    induction n with
    | zero =>
      intro z2_8 z3_8 v4 f4 hs4 j0_8 j1_8
      omega
    | succ n ih6 =>
      intro z2_8 z3_8 v4 f4 hs4 j0_8 j1_8
      refine hC.1 1 8 _ _ rfl _ _ _ _ _ ?_
      refine Exists.intro _ (And.intro (cw_ro_o hI.1 ho1) ?_)
      have z7 := cw_sz hI ho1
      refine And.intro (fun c8 => ?_) (fun c8 => ?_)
      · skip
        refine hC.1 2 41 _ _ rfl _ _ _ _ _ ?_
        exact ⟨rfl, rfl, v4, f4, rfl, hs4, rfl, by first | trivial | omega | (dsimp only; omega)⟩
      · skip
        refine Exists.intro _ (And.intro (cw_ro_o hI.1 ho1) ?_)
        refine Exists.intro _ (Exists.intro _ (And.intro (Or.inl (cw_ro_3 hI.1 ho1)) (And.intro (by omega) ?_)))
        have w9 := cw_ahd hI ho1 (z3_8).toInt.toNat
        have k1 : (1 : Int32).toInt = 1 := rfl
        intro m10 em_24
        try have e10 : m10.toInt = ((e (o1 + 3) (z3_8).toInt.toNat)).toInt + (1) := by rw [em_24]; exact pm_addc _ _ (1) rfl (by omega) (by omega)
        refine Exists.intro _ (Exists.intro _ (Exists.intro _ (Exists.intro _ (And.intro (c_J9_max_7cf53 (cw A0 g K nn dn q w e v4 f4) z2_8 m10 ) (And.intro rfl (fun r9 A9 h9 => ?_))))))
        obtain ⟨y11, rfl, rfl, by11⟩ := h9
        refine And.intro (Exists.intro _ (cw_o5 hI.1)) (Exists.intro _ (Exists.intro _ (Exists.intro _ (Exists.intro _ (And.intro (c_X6_offerLonger hI hs4 y11 z3_8 ) (And.intro rfl (fun r9 A9 h9 => ?_)))))))
        rcases h9 with ⟨v14, f14, rfl, hs14, rfl, by13⟩
        intro m15 em_35
        try have e15 : m15.toInt = (z3_8).toInt + (1) := by rw [em_35]; exact pm_addc _ _ (1) rfl (by omega) (by omega)
        exact ih6 y11 m15 v14 f14 hs14 (by omega) (by omega)
  exact lp5 (200 - (0 : Int32).toInt).toNat.succ (0 : Int32) (0 : Int32) v3 f3 hs3 (by omega) (by omega)

set_option maxRecDepth 100000 in
set_option maxHeartbeats 2000000 in
theorem c_X6_findHeaviest (hI : cw_I K nn dn q w e) (hs : cw_S v f) {o1 : Nat} (ho1 : cw_ro K o1) (x3 : Int32) (p0 : 1 ≤ x3.toInt ∧ x3.toInt ≤ (w o1).toInt) : pm_Mt l g 118 3 0 0 [.ref (q 5), .ref (q o1), .ref (q 2), .int x3] (cw A0 g K nn dn q w e v f) (cw_Qs A0 g K nn dn q w e (fun r v2 f2 => r = none ∧ (True))) := by
  refine mt_X6_findHeaviest rfl (fun J hC => ?_)
  have hu1 := hI.2.1
  unfold cw_W at hu1
  have ro_nn : cw_ro K nn := hI.2.1.2.1
  have ro_dn : cw_ro K dn := hI.2.1.2.2.1
  have rg_x3 := pm_rng x3
  have zz0 := cw_sz hI ho1
  refine hC.1 0 0 _ _ rfl _ _ _ _ _ ?_
  have k0 : (0 : Int32).toInt = 0 := rfl
  have k1 : (1 : Int32).toInt = 1 := rfl
  intro m2 em_5
  try have e2 : m2.toInt = (x3).toInt - (1) := by rw [em_5]; exact pm_subc _ _ (1) rfl (by omega) (by omega)
  refine And.intro (Exists.intro _ (cw_o2 hI.1)) (Exists.intro _ (Exists.intro _ (Exists.intro _ (Exists.intro _ (And.intro (c_X2_read hI hs ho1 (0 : Int32) m2 ) (And.intro rfl (fun r9 A9 h9 => ?_)))))))
  rcases h9 with ⟨v4, f4, rfl, hs4, rfl, by3⟩
  refine Exists.intro _ (And.intro (cw_o5 hI.1) (And.intro rfl ?_))
  rw [cw_p_first hI.1]
  obtain ⟨v5, ev5⟩ : ∃ z9, z9 = upd v4 7 (0 : Int32) := ⟨_, rfl⟩
  rw [← ev5]
  have hs5 : cw_S v5 f4 := by rw [ev5]; exact cw_S_v hs4 7 _ (by decide)
  have ev5_0 : (v5 0).toInt = (v4 0).toInt := by rw [ev5]; rfl
  refine Exists.intro _ (And.intro (cw_o2 hI.1) ?_)
  refine Exists.intro _ (And.intro (cw_o5 hI.1) (And.intro rfl ?_))
  rw [cw_p_massFound hI.1]
  obtain ⟨v6, ev6⟩ : ∃ z9, z9 = upd v5 9 (v5 4) := ⟨_, rfl⟩
  rw [← ev6]
  have hs6 : cw_S v6 f4 := by rw [ev6]; exact cw_S_v hs5 9 _ (by decide)
  have ev6_0 : (v6 0).toInt = (v5 0).toInt := by rw [ev6]; rfl
  have lp8 : ∀ (n : Nat) (z4_25 : Int32) (v7 : Nat → Int32) (f7 : Nat → Nat → Int32), cw_S v7 f7 → (1 ≤ z4_25.toInt ∧ z4_25.toInt ≤ 161) → 200 - z4_25.toInt < (n : Int) → J 25 [some (.ref (q 5)), some (.ref (q o1)), some (.ref (q 2)), some (.int x3), some (.int z4_25)] [] (cw A0 g K nn dn q w e v7 f7) 0 0 := by
    intro n
    induction n with
    | zero =>
      intro z4_25 v7 f7 hs7 j0_25 j1_25
      omega
    | succ n ih9 =>
      intro z4_25 v7 f7 hs7 j0_25 j1_25
      refine hC.1 1 25 _ _ rfl _ _ _ _ _ ?_
      intro m10 em_28
      try have e10 : m10.toInt = (z4_25).toInt + (x3).toInt := by rw [em_28]; exact pm_add _ _ (by omega) (by omega)
      refine Exists.intro _ (And.intro (cw_ro_o hI.1 ho1) ?_)
      have z11 := cw_sz hI ho1
      refine And.intro (fun c12 => ?_) (fun c12 => ?_)
      · skip
        refine hC.1 3 95 _ _ rfl _ _ _ _ _ ?_
        exact ⟨rfl, rfl, v7, f7, rfl, hs7, rfl, by first | trivial | omega | (dsimp only; omega)⟩
      · skip
        refine Exists.intro _ (And.intro (cw_ro_o hI.1 ho1) ?_)
        intro m13 em_44
        try have e13 : m13.toInt = (z4_25).toInt - (1) := by rw [em_44]; exact pm_subc _ _ (1) rfl (by omega) (by omega)
        refine Exists.intro _ (Exists.intro _ (And.intro (Or.inl (cw_ro_1 hI.1 ho1)) (And.intro (by omega) ?_)))
        have w14 := cw_col hI ho1 (m13).toInt.toNat
        refine And.intro (Exists.intro _ (cw_o2 hI.1)) (Exists.intro _ (Exists.intro _ (Exists.intro _ (Exists.intro _ (And.intro (c_X2_drop hI hs7 (e (o1 + 1) (m13).toInt.toNat) (by omega)) (And.intro rfl (fun r9 A9 h9 => ?_)))))))
        rcases h9 with ⟨v16, f16, rfl, hs16, rfl, by15⟩
        refine Exists.intro _ (And.intro (cw_ro_o hI.1 ho1) ?_)
        intro m17 em_57
        try have e17 : m17.toInt = (z4_25).toInt + (x3).toInt := by rw [em_57]; exact pm_add _ _ (by omega) (by omega)
        intro m18 em_59
        try have e18 : m18.toInt = (m17).toInt - (1) := by rw [em_59]; exact pm_subc _ _ (1) rfl (by omega) (by omega)
        refine Exists.intro _ (Exists.intro _ (And.intro (Or.inl (cw_ro_1 hI.1 ho1)) (And.intro (by omega) ?_)))
        have w19 := cw_col hI ho1 (m18).toInt.toNat
        refine And.intro (Exists.intro _ (cw_o2 hI.1)) (Exists.intro _ (Exists.intro _ (Exists.intro _ (Exists.intro _ (And.intro (c_X2_take hI hs16 (e (o1 + 1) (m18).toInt.toNat) (by omega)) (And.intro rfl (fun r9 A9 h9 => ?_)))))))
        rcases h9 with ⟨v21, f21, rfl, hs21, rfl, by20⟩
        refine Exists.intro _ (And.intro (cw_o2 hI.1) ?_)
        refine Exists.intro _ (And.intro (cw_o5 hI.1) ?_)
        refine And.intro (fun c22 => ?_) (fun c22 => ?_)
        · skip
          refine hC.1 2 89 _ _ rfl _ _ _ _ _ ?_
          intro m23 em_89
          try have e23 : m23.toInt = (z4_25).toInt + (1) := by rw [em_89]; exact pm_addc _ _ (1) rfl (by omega) (by omega)
          exact ih9 m23 v21 f21 hs21 (by omega) (by omega)
        · skip
          refine Exists.intro _ (And.intro (cw_o5 hI.1) (And.intro rfl ?_))
          rw [cw_p_first hI.1]
          obtain ⟨v24, ev24⟩ : ∃ z9, z9 = upd v21 7 z4_25 := ⟨_, rfl⟩
          rw [← ev24]
          have hs24 : cw_S v24 f21 := by rw [ev24]; exact cw_S_v hs21 7 _ (by decide)
          have ev24_0 : (v24 0).toInt = (v21 0).toInt := by rw [ev24]; rfl
          refine Exists.intro _ (And.intro (cw_o2 hI.1) ?_)
          refine Exists.intro _ (And.intro (cw_o5 hI.1) (And.intro rfl ?_))
          rw [cw_p_massFound hI.1]
          obtain ⟨v25, ev25⟩ : ∃ z9, z9 = upd v24 9 (v24 4) := ⟨_, rfl⟩
          rw [← ev25]
          have hs25 : cw_S v25 f21 := by rw [ev25]; exact cw_S_v hs24 9 _ (by decide)
          have ev25_0 : (v25 0).toInt = (v24 0).toInt := by rw [ev25]; rfl
          refine hC.1 2 89 _ _ rfl _ _ _ _ _ ?_
          intro m26 em_89
          try have e26 : m26.toInt = (z4_25).toInt + (1) := by rw [em_89]; exact pm_addc _ _ (1) rfl (by omega) (by omega)
          exact ih9 m26 v25 f21 hs25 (by omega) (by omega)
  exact lp8 (200 - (1 : Int32).toInt).toNat.succ (1 : Int32) v6 f4 hs6 (by omega) (by omega)

set_option maxRecDepth 100000 in
set_option maxHeartbeats 2000000 in
theorem c_X8_findNextAlike (hI : cw_I K nn dn q w e) (hs : cw_S v f) {o1 : Nat} (ho1 : cw_ro K o1)  : pm_Mt l g 123 1 0 0 [.ref (q 6), .ref (q o1)] (cw A0 g K nn dn q w e v f) (cw_Qs A0 g K nn dn q w e (fun r v2 f2 => r = none ∧ (True))) := by
  refine mt_X8_findNextAlike rfl (fun J hC => ?_)
  have hu1 := hI.2.1
  unfold cw_W at hu1
  have ro_nn : cw_ro K nn := hI.2.1.2.1
  have ro_dn : cw_ro K dn := hI.2.1.2.2.1
  have zz0 := cw_sz hI ho1
  refine hC.1 0 0 _ _ rfl _ _ _ _ _ ?_
  refine Exists.intro _ (And.intro (cw_o6 hI.1) ?_)
  have k160 : (160 : Int32).toInt = 160 := rfl
  refine Exists.intro _ (Exists.intro _ (Exists.intro _ (Exists.intro _ (And.intro (c_fill (cw_a22 hI.1) (by decide) (160 : Int32)) (And.intro rfl (fun r9 A9 h9 => ?_))))))
  obtain ⟨rfl, rfl⟩ := h9
  rw [cw_s22 hI.1]
  obtain ⟨f2, ef2⟩ : ∃ z9, z9 = va_up f 22 (fun j => if j < 160 then (160 : Int32) else f 22 j) := ⟨_, rfl⟩
  rw [← ef2]
  have hs2 : cw_S v f2 := by rw [ef2]; exact cw_S_fr hs _ _ (by decide) (by decide)
  have k0 : (0 : Int32).toInt = 0 := rfl
  have lp4 : ∀ (n : Nat) (z2_12 : Int32) (v3 : Nat → Int32) (f3 : Nat → Nat → Int32), cw_S v3 f3 → (0 ≤ z2_12.toInt ∧ z2_12.toInt ≤ 160) → 200 - z2_12.toInt < (n : Int) → J 12 [some (.ref (q 6)), some (.ref (q o1)), some (.int z2_12)] [] (cw A0 g K nn dn q w e v3 f3) 0 0 := by
    intro n
    induction n with
    | zero =>
      intro z2_12 v3 f3 hs3 j0_12 j1_12
      omega
    | succ n ih5 =>
      intro z2_12 v3 f3 hs3 j0_12 j1_12
      refine hC.1 1 12 _ _ rfl _ _ _ _ _ ?_
      refine Exists.intro _ (And.intro (cw_ro_o hI.1 ho1) ?_)
      have z6 := cw_sz hI ho1
      refine And.intro (fun c7 => ?_) (fun c7 => ?_)
      · skip
        refine hC.1 3 48 _ _ rfl _ _ _ _ _ ?_
        exact ⟨rfl, rfl, v3, f3, rfl, hs3, rfl, by first | trivial | omega | (dsimp only; omega)⟩
      · skip
        refine Exists.intro _ (And.intro (cw_ro_o hI.1 ho1) ?_)
        refine Exists.intro _ (Exists.intro _ (And.intro (Or.inl (cw_ro_3 hI.1 ho1)) (And.intro (by omega) ?_)))
        have w8 := cw_ahd hI ho1 (z2_12).toInt.toNat
        have km1 : (-1 : Int32).toInt = -1 := rfl
        refine And.intro (fun c9 => ?_) (fun c9 => ?_)
        · skip
          have dc9 : ((e (o1 + 3) (z2_12).toInt.toNat)).toInt = ((-1 : Int32) : Int32).toInt := congrArg Int32.toInt c9
          refine hC.1 2 42 _ _ rfl _ _ _ _ _ ?_
          have k1 : (1 : Int32).toInt = 1 := rfl
          intro m10 em_42
          try have e10 : m10.toInt = (z2_12).toInt + (1) := by rw [em_42]; exact pm_addc _ _ (1) rfl (by omega) (by omega)
          exact ih5 m10 v3 f3 hs3 (by omega) (by omega)
        · skip
          have dc9 := pm_neI c9
          refine Exists.intro _ (And.intro (cw_o6 hI.1) ?_)
          refine Exists.intro _ (And.intro (cw_ro_o hI.1 ho1) ?_)
          refine Exists.intro _ (Exists.intro _ (And.intro (Or.inl (cw_ro_3 hI.1 ho1)) (And.intro (by omega) ?_)))
          have w11 := cw_ahd hI ho1 (z2_12).toInt.toNat
          refine Exists.intro _ (Exists.intro _ (And.intro (cw_a22 hI.1) (And.intro (by omega) ?_)))
          rw [cw_s22 hI.1]
          obtain ⟨f12, ef12⟩ : ∃ z9, z9 = va_up f3 22 (upd (f3 22) ((e (o1 + 3) (z2_12).toInt.toNat)).toInt.toNat z2_12) := ⟨_, rfl⟩
          rw [← ef12]
          have hs12 : cw_S v3 f12 := by rw [ef12]; exact cw_S_fr hs3 _ _ (by decide) (by decide)
          refine hC.1 2 42 _ _ rfl _ _ _ _ _ ?_
          have k1 : (1 : Int32).toInt = 1 := rfl
          intro m13 em_42
          try have e13 : m13.toInt = (z2_12).toInt + (1) := by rw [em_42]; exact pm_addc _ _ (1) rfl (by omega) (by omega)
          exact ih5 m13 v3 f12 hs12 (by omega) (by omega)
  exact lp4 (200 - (0 : Int32).toInt).toNat.succ (0 : Int32) v f2 hs2 (by omega) (by omega)

set_option maxRecDepth 100000 in
set_option maxHeartbeats 2000000 in
theorem c_X8_goesRather (hI : cw_I K nn dn q w e) (hs : cw_S v f) (x1 : Int32) (x2 : Int32) (x3 : Int32) (p0 : 0 ≤ x1.toInt ∧ x1.toInt ≤ 23) (p1 : 0 ≤ x2.toInt ∧ x2.toInt ≤ 23) : pm_Mt l g 125 0 0 0 [.ref (q 6), .int x1, .int x2, .int x3] (cw A0 g K nn dn q w e v f) (md_Qp (cw A0 g K nn dn q w e v f) (fun r => (r = 1 ∧ (True)) ∨ (r = 0 ∧ (True)))) := by
  refine mt_X8_goesRather rfl (fun J hC => ?_)
  have hu1 := hI.2.1
  unfold cw_W at hu1
  have ro_nn : cw_ro K nn := hI.2.1.2.1
  have ro_dn : cw_ro K dn := hI.2.1.2.2.1
  have rg_x1 := pm_rng x1
  have rg_x2 := pm_rng x2
  have rg_x3 := pm_rng x3
  refine hC.1 0 0 _ _ rfl _ _ _ _ _ ?_
  refine And.intro (fun c2 => ?_) (fun c2 => ?_)
  · skip
    have dc2 := pm_neI c2
    have k0 : (0 : Int32).toInt = 0 := rfl
    refine hC.1 3 25 _ _ rfl _ _ _ _ _ ?_
    refine Exists.intro _ (And.intro (cw_o6 hI.1) ?_)
    refine Exists.intro _ (Exists.intro _ (And.intro (Or.inl (cw_a24 hI.1)) (And.intro (by omega) ?_)))
    refine Exists.intro _ (And.intro (cw_o6 hI.1) ?_)
    refine Exists.intro _ (Exists.intro _ (And.intro (Or.inl (cw_a24 hI.1)) (And.intro (by omega) ?_)))
    refine And.intro (fun c3 => ?_) (fun c3 => ?_)
    · skip
      refine hC.1 4 44 _ _ rfl _ _ _ _ _ ?_
      refine hC.1 5 45 _ _ rfl _ _ _ _ _ ?_
      exact ⟨rfl, fun _ => (by decide), rfl, (0 : Int32), rfl, rfl, Or.inr ⟨rfl, by first | trivial | omega | (dsimp only; omega)⟩⟩
    · skip
      have k1 : (1 : Int32).toInt = 1 := rfl
      refine hC.1 5 45 _ _ rfl _ _ _ _ _ ?_
      exact ⟨rfl, fun _ => (by decide), rfl, (1 : Int32), rfl, rfl, Or.inl ⟨rfl, by first | trivial | omega | (dsimp only; omega)⟩⟩
  · skip
    have dc2 : (x3).toInt = (0 : Int32).toInt := congrArg Int32.toInt c2
    have k0 : (0 : Int32).toInt = 0 := rfl
    refine Exists.intro _ (And.intro (cw_o6 hI.1) ?_)
    refine Exists.intro _ (Exists.intro _ (And.intro (Or.inl (cw_a23 hI.1)) (And.intro (by omega) ?_)))
    refine Exists.intro _ (And.intro (cw_o6 hI.1) ?_)
    refine Exists.intro _ (Exists.intro _ (And.intro (Or.inl (cw_a23 hI.1)) (And.intro (by omega) ?_)))
    refine And.intro (fun c4 => ?_) (fun c4 => ?_)
    · skip
      refine hC.1 1 23 _ _ rfl _ _ _ _ _ ?_
      refine hC.1 2 24 _ _ rfl _ _ _ _ _ ?_
      exact ⟨rfl, fun _ => (by decide), rfl, (0 : Int32), rfl, rfl, Or.inr ⟨rfl, by first | trivial | omega | (dsimp only; omega)⟩⟩
    · skip
      have k1 : (1 : Int32).toInt = 1 := rfl
      refine hC.1 2 24 _ _ rfl _ _ _ _ _ ?_
      exact ⟨rfl, fun _ => (by decide), rfl, (1 : Int32), rfl, rfl, Or.inl ⟨rfl, by first | trivial | omega | (dsimp only; omega)⟩⟩

set_option maxRecDepth 100000 in
set_option maxHeartbeats 2000000 in
theorem c_X8_oneToGo (hI : cw_I K nn dn q w e) (hs : cw_S v f) (x1 : Int32)  : pm_Mt l g 124 1 0 0 [.ref (q 6), .int x1] (cw A0 g K nn dn q w e v f) (md_Qp (cw A0 g K nn dn q w e v f) (fun r => 0 ≤ r.toInt ∧ r.toInt ≤ 23)) := by
  refine mt_X8_oneToGo rfl (fun J hC => ?_)
  have hu1 := hI.2.1
  unfold cw_W at hu1
  have ro_nn : cw_ro K nn := hI.2.1.2.1
  have ro_dn : cw_ro K dn := hI.2.1.2.2.1
  have rg_x1 := pm_rng x1
  refine hC.1 0 0 _ _ rfl _ _ _ _ _ ?_
  have km1 : (-1 : Int32).toInt = -1 := rfl
  have k0 : (0 : Int32).toInt = 0 := rfl
  have lp3 : ∀ (n : Nat) (z2_4 : Int32) (z3_4 : Int32), (0 ≤ z3_4.toInt ∧ z3_4.toInt ≤ 24) → (-1 ≤ z2_4.toInt ∧ z2_4.toInt ≤ 23) → 200 - z3_4.toInt < (n : Int) → J 4 [some (.ref (q 6)), some (.int x1), some (.int z2_4), some (.int z3_4)] [] (cw A0 g K nn dn q w e v f) 0 0 := by
    intro n
    induction n with
    | zero =>
      intro z2_4 z3_4 j0_4 j1_4 j2_4
      omega
    | succ n ih4 =>
      intro z2_4 z3_4 j0_4 j1_4 j2_4
      refine hC.1 1 4 _ _ rfl _ _ _ _ _ ?_
      have k24 : (24 : Int32).toInt = 24 := rfl
      refine And.intro (fun c5 => ?_) (fun c5 => ?_)
      · skip
        refine hC.1 4 44 _ _ rfl _ _ _ _ _ ?_
        refine Exists.intro _ (Exists.intro _ (Exists.intro _ (Exists.intro _ (And.intro (c_J9_max_7cf53 (cw A0 g K nn dn q w e v f) z2_4 (0 : Int32) ) (And.intro rfl (fun r9 A9 h9 => ?_))))))
        obtain ⟨y6, rfl, rfl, by6⟩ := h9
        exact ⟨rfl, fun e9 => absurd e9 (by decide), rfl, y6, rfl, rfl, by first | trivial | omega | (dsimp only; omega)⟩
      · skip
        refine Exists.intro _ (And.intro (cw_o6 hI.1) ?_)
        have k1 : (1 : Int32).toInt = 1 := rfl
        refine And.intro (fun c8 => ?_) (fun c8 => ?_)
        · skip
          have dc8 : (((v 12) &&& ((1 : Int32) <<< (z3_4 &&& 31)))).toInt = (0 : Int32).toInt := congrArg Int32.toInt c8
          refine hC.1 3 38 _ _ rfl _ _ _ _ _ ?_
          intro m9 em_38
          try have e9 : m9.toInt = (z3_4).toInt + (1) := by rw [em_38]; exact pm_addc _ _ (1) rfl (by omega) (by omega)
          exact ih4 z2_4 m9 (by omega) (by omega) (by omega)
        · skip
          have dc8 := pm_neI c8
          refine And.intro (fun c10 => ?_) (fun c10 => ?_)
          · skip
            have dc10 : (z2_4).toInt = ((-1 : Int32) : Int32).toInt := congrArg Int32.toInt c10
            refine hC.1 2 36 _ _ rfl _ _ _ _ _ ?_
            refine hC.1 3 38 _ _ rfl _ _ _ _ _ ?_
            intro m11 em_38
            try have e11 : m11.toInt = (z3_4).toInt + (1) := by rw [em_38]; exact pm_addc _ _ (1) rfl (by omega) (by omega)
            exact ih4 z3_4 m11 (by omega) (by omega) (by omega)
          · skip
            have dc10 := pm_neI c10
            refine And.intro (Exists.intro _ (cw_o6 hI.1)) (Exists.intro _ (Exists.intro _ (Exists.intro _ (Exists.intro _ (And.intro (c_X8_goesRather hI hs z3_4 z2_4 x1 (by omega) (by omega)) (And.intro rfl (fun r9 A9 h9 => ?_)))))))
            rcases h9 with ⟨y12, rfl, rfl, ⟨rfl, by12⟩ | ⟨rfl, by12⟩⟩
            · skip
              refine And.intro (fun c9 => absurd c9 (by decide)) (fun _ => ?_)
              refine hC.1 2 36 _ _ rfl _ _ _ _ _ ?_
              refine hC.1 3 38 _ _ rfl _ _ _ _ _ ?_
              intro m14 em_38
              try have e14 : m14.toInt = (z3_4).toInt + (1) := by rw [em_38]; exact pm_addc _ _ (1) rfl (by omega) (by omega)
              exact ih4 z3_4 m14 (by omega) (by omega) (by omega)
            · skip
              refine And.intro (fun _ => ?_) (fun c9 => absurd c9 (by decide))
              refine hC.1 3 38 _ _ rfl _ _ _ _ _ ?_
              intro m15 em_38
              try have e15 : m15.toInt = (z3_4).toInt + (1) := by rw [em_38]; exact pm_addc _ _ (1) rfl (by omega) (by omega)
              exact ih4 z2_4 m15 (by omega) (by omega) (by omega)
  exact lp3 (200 - (0 : Int32).toInt).toNat.succ (-1 : Int32) (0 : Int32) (by omega) (by omega) (by omega)

set_option maxRecDepth 100000 in
set_option maxHeartbeats 2000000 in
theorem c_X8_goThrough (hI : cw_I K nn dn q w e) (hs : cw_S v f) {o1 : Nat} (ho1 : cw_ro K o1) (x2 : Int32) (x3 : Int32) (x4 : Int32)  : pm_Mt l g 122 2 0 0 [.ref (q 6), .ref (q o1), .int x2, .int x3, .int x4] (cw A0 g K nn dn q w e v f) (cw_Qs A0 g K nn dn q w e (fun r v2 f2 => r = none ∧ (True))) := by
  refine mt_X8_goThrough rfl (fun J hC => ?_)
  have hu1 := hI.2.1
  unfold cw_W at hu1
  have ro_nn : cw_ro K nn := hI.2.1.2.1
  have ro_dn : cw_ro K dn := hI.2.1.2.2.1
  have rg_x2 := pm_rng x2
  have rg_x3 := pm_rng x3
  have rg_x4 := pm_rng x4
  have zz0 := cw_sz hI ho1
  refine hC.1 0 0 _ _ rfl _ _ _ _ _ ?_
  refine And.intro (Exists.intro _ (cw_o6 hI.1)) (Exists.intro _ (Exists.intro _ (Exists.intro _ (Exists.intro _ (And.intro (c_X8_findNextAlike hI hs ho1 ) (And.intro rfl (fun r9 A9 h9 => ?_)))))))
  rcases h9 with ⟨v3, f3, rfl, hs3, rfl, by2⟩
  have k0 : (0 : Int32).toInt = 0 := rfl
  refine Exists.intro _ (And.intro (cw_o6 hI.1) (And.intro rfl ?_))
  rw [cw_p_missed hI.1]
  obtain ⟨v4, ev4⟩ : ∃ z9, z9 = upd v3 11 (0 : Int32) := ⟨_, rfl⟩
  rw [← ev4]
  have hs4 : cw_S v4 f3 := by rw [ev4]; exact cw_S_v hs3 11 _ (by decide)
  have ev4_0 : (v4 0).toInt = (v3 0).toInt := by rw [ev4]; rfl
  refine Exists.intro _ (And.intro (cw_o6 hI.1) (And.intro rfl ?_))
  rw [cw_p_sbits hI.1]
  obtain ⟨v5, ev5⟩ : ∃ z9, z9 = upd v4 12 (0 : Int32) := ⟨_, rfl⟩
  rw [← ev5]
  have hs5 : cw_S v5 f3 := by rw [ev5]; exact cw_S_v hs4 12 _ (by decide)
  have ev5_0 : (v5 0).toInt = (v4 0).toInt := by rw [ev5]; rfl
  have lp7 : ∀ (n : Nat) (z5_18 : Int32) (v6 : Nat → Int32) (f6 : Nat → Nat → Int32), cw_S v6 f6 → (0 ≤ z5_18.toInt ∧ z5_18.toInt ≤ 160) → 200 - z5_18.toInt < (n : Int) → J 18 [some (.ref (q 6)), some (.ref (q o1)), some (.int x2), some (.int x3), some (.int x4), some (.int z5_18), none] [] (cw A0 g K nn dn q w e v6 f6) 0 0 := by
    intro n
    induction n with
    | zero =>
      intro z5_18 v6 f6 hs6 j0_18 j1_18
      omega
    | succ n ih8 =>
      intro z5_18 v6 f6 hs6 j0_18 j1_18
      refine hC.1 1 18 _ _ rfl _ _ _ _ _ ?_
      refine And.intro (fun c9 => ?_) (fun c9 => ?_)
      · skip
        refine hC.1 4 136 _ _ rfl _ _ _ _ _ ?_
        exact ⟨rfl, rfl, v6, f6, rfl, hs6, rfl, by first | trivial | omega | (dsimp only; omega)⟩
      · skip
        refine And.intro (Exists.intro _ (cw_ro_o hI.1 ho1)) (Exists.intro _ (Exists.intro _ (Exists.intro _ (Exists.intro _ (And.intro (c_X7_has hI hs6 ho1 z5_18 ) (And.intro rfl (fun r9 A9 h9 => ?_)))))))
        rcases h9 with ⟨y10, rfl, rfl, ⟨rfl, by10⟩ | ⟨rfl, by10⟩⟩
        · skip
          have k1 : (1 : Int32).toInt = 1 := rfl
          refine And.intro (fun c9 => absurd c9 (by decide)) (fun _ => ?_)
          refine Exists.intro _ (And.intro (cw_ro_o hI.1 ho1) ?_)
          refine Exists.intro _ (Exists.intro _ (And.intro (Or.inl (cw_ro_1 hI.1 ho1)) (And.intro (by omega) ?_)))
          have w12 := cw_col hI ho1 (z5_18).toInt.toNat
          refine Exists.intro _ (And.intro (cw_o6 hI.1) ?_)
          refine And.intro (fun c13 => ?_) (fun c13 => ?_)
          · skip
            have dc13 := pm_neI c13
            refine hC.1 3 107 _ _ rfl _ _ _ _ _ ?_
            refine Exists.intro _ (And.intro (cw_o6 hI.1) ?_)
            refine Exists.intro _ (Exists.intro _ (And.intro (cw_a23 hI.1) (And.intro (by omega) ?_)))
            rw [cw_s23 hI.1]
            obtain ⟨f14, ef14⟩ : ∃ z9, z9 = va_up f6 23 (upd (f6 23) ((e (o1 + 1) (z5_18).toInt.toNat)).toInt.toNat z5_18) := ⟨_, rfl⟩
            rw [← ef14]
            have hs14 : cw_S v6 f14 := by rw [ef14]; exact cw_S_fr hs6 _ _ (by decide) (by decide)
            refine Exists.intro _ (And.intro (cw_o6 hI.1) ?_)
            refine Exists.intro _ (And.intro (cw_o6 hI.1) ?_)
            refine Exists.intro _ (Exists.intro _ (And.intro (Or.inl (cw_a22 hI.1)) (And.intro (by omega) ?_)))
            refine Exists.intro _ (Exists.intro _ (And.intro (cw_a24 hI.1) (And.intro (by omega) ?_)))
            rw [cw_s24 hI.1]
            obtain ⟨f15, ef15⟩ : ∃ z9, z9 = va_up f14 24 (upd (f14 24) ((e (o1 + 1) (z5_18).toInt.toNat)).toInt.toNat (f14 22 (z5_18).toInt.toNat)) := ⟨_, rfl⟩
            rw [← ef15]
            have hs15 : cw_S v6 f15 := by rw [ef15]; exact cw_S_fr hs14 _ _ (by decide) (by decide)
            intro m16 em_130
            try have e16 : m16.toInt = (z5_18).toInt + (1) := by rw [em_130]; exact pm_addc _ _ (1) rfl (by omega) (by omega)
            exact hC.2 [false, false, false, false, false, false, true] _ _ _ _ _ _ (ih8 m16 v6 f15 hs15 (by omega) (by omega))
          · skip
            have dc13 : (((v6 12) &&& ((1 : Int32) <<< ((e (o1 + 1) (z5_18).toInt.toNat) &&& 31)))).toInt = (0 : Int32).toInt := congrArg Int32.toInt c13
            refine Exists.intro _ (And.intro (cw_o6 hI.1) ?_)
            intro m17 em_60
            try have e17 : m17.toInt = ((v6 11)).toInt + (1) := by rw [em_60]; exact pm_addc _ _ (1) rfl (by omega) (by omega)
            refine Exists.intro _ (And.intro (cw_o6 hI.1) (And.intro rfl ?_))
            rw [cw_p_missed hI.1]
            obtain ⟨v18, ev18⟩ : ∃ z9, z9 = upd v6 11 m17 := ⟨_, rfl⟩
            rw [← ev18]
            have hs18 : cw_S v18 f6 := by rw [ev18]; exact cw_S_v hs6 11 _ (by decide)
            have ev18_0 : (v18 0).toInt = (v6 0).toInt := by rw [ev18]; rfl
            refine Exists.intro _ (And.intro (cw_o6 hI.1) ?_)
            refine Exists.intro _ (Exists.intro _ (Exists.intro _ (Exists.intro _ (And.intro (c_J6_bitCount_0f7a4 (cw A0 g K nn dn q w e v18 f6) (v18 12) ) (And.intro rfl (fun r9 A9 h9 => ?_))))))
            obtain ⟨y19, rfl, rfl, by19⟩ := h9
            refine And.intro (fun c21 => ?_) (fun c21 => ?_)
            · skip
              refine hC.1 2 94 _ _ rfl _ _ _ _ _ ?_
              refine Exists.intro _ (And.intro (cw_o6 hI.1) ?_)
              refine Exists.intro _ (And.intro (cw_o6 hI.1) (And.intro rfl ?_))
              rw [cw_p_sbits hI.1]
              obtain ⟨v22, ev22⟩ : ∃ z9, z9 = upd v18 12 ((v18 12) ||| ((1 : Int32) <<< ((e (o1 + 1) (z5_18).toInt.toNat) &&& 31))) := ⟨_, rfl⟩
              rw [← ev22]
              have hs22 : cw_S v22 f6 := by rw [ev22]; exact cw_S_v hs18 12 _ (by decide)
              have ev22_0 : (v22 0).toInt = (v18 0).toInt := by rw [ev22]; rfl
              refine hC.1 3 107 _ _ rfl _ _ _ _ _ ?_
              refine Exists.intro _ (And.intro (cw_o6 hI.1) ?_)
              refine Exists.intro _ (Exists.intro _ (And.intro (cw_a23 hI.1) (And.intro (by omega) ?_)))
              rw [cw_s23 hI.1]
              obtain ⟨f23, ef23⟩ : ∃ z9, z9 = va_up f6 23 (upd (f6 23) ((e (o1 + 1) (z5_18).toInt.toNat)).toInt.toNat z5_18) := ⟨_, rfl⟩
              rw [← ef23]
              have hs23 : cw_S v22 f23 := by rw [ef23]; exact cw_S_fr hs22 _ _ (by decide) (by decide)
              refine Exists.intro _ (And.intro (cw_o6 hI.1) ?_)
              refine Exists.intro _ (And.intro (cw_o6 hI.1) ?_)
              refine Exists.intro _ (Exists.intro _ (And.intro (Or.inl (cw_a22 hI.1)) (And.intro (by omega) ?_)))
              refine Exists.intro _ (Exists.intro _ (And.intro (cw_a24 hI.1) (And.intro (by omega) ?_)))
              rw [cw_s24 hI.1]
              obtain ⟨f24, ef24⟩ : ∃ z9, z9 = va_up f23 24 (upd (f23 24) ((e (o1 + 1) (z5_18).toInt.toNat)).toInt.toNat (f23 22 (z5_18).toInt.toNat)) := ⟨_, rfl⟩
              rw [← ef24]
              have hs24 : cw_S v22 f24 := by rw [ef24]; exact cw_S_fr hs23 _ _ (by decide) (by decide)
              intro m25 em_130
              try have e25 : m25.toInt = (z5_18).toInt + (1) := by rw [em_130]; exact pm_addc _ _ (1) rfl (by omega) (by omega)
              exact hC.2 [false, false, false, false, false, false, true] _ _ _ _ _ _ (ih8 m25 v22 f24 hs24 (by omega) (by omega))
            · skip
              refine Exists.intro _ (And.intro (cw_o6 hI.1) ?_)
              refine And.intro (Exists.intro _ (cw_o6 hI.1)) (Exists.intro _ (Exists.intro _ (Exists.intro _ (Exists.intro _ (And.intro (c_X8_oneToGo hI hs18 x4 ) (And.intro rfl (fun r9 A9 h9 => ?_)))))))
              obtain ⟨y26, rfl, rfl, by26⟩ := h9
              have km1 : (-1 : Int32).toInt = -1 := rfl
              refine Exists.intro _ (And.intro (cw_o6 hI.1) (And.intro rfl ?_))
              rw [cw_p_sbits hI.1]
              obtain ⟨v28, ev28⟩ : ∃ z9, z9 = upd v18 12 ((v18 12) &&& (((1 : Int32) <<< (y26 &&& 31)) ^^^ (-1 : Int32))) := ⟨_, rfl⟩
              rw [← ev28]
              have hs28 : cw_S v28 f6 := by rw [ev28]; exact cw_S_v hs18 12 _ (by decide)
              have ev28_0 : (v28 0).toInt = (v18 0).toInt := by rw [ev28]; rfl
              refine hC.1 2 94 _ _ rfl _ _ _ _ _ ?_
              refine Exists.intro _ (And.intro (cw_o6 hI.1) ?_)
              refine Exists.intro _ (And.intro (cw_o6 hI.1) (And.intro rfl ?_))
              rw [cw_p_sbits hI.1]
              obtain ⟨v29, ev29⟩ : ∃ z9, z9 = upd v28 12 ((v28 12) ||| ((1 : Int32) <<< ((e (o1 + 1) (z5_18).toInt.toNat) &&& 31))) := ⟨_, rfl⟩
              rw [← ev29]
              have hs29 : cw_S v29 f6 := by rw [ev29]; exact cw_S_v hs28 12 _ (by decide)
              have ev29_0 : (v29 0).toInt = (v28 0).toInt := by rw [ev29]; rfl
              refine hC.1 3 107 _ _ rfl _ _ _ _ _ ?_
              refine Exists.intro _ (And.intro (cw_o6 hI.1) ?_)
              refine Exists.intro _ (Exists.intro _ (And.intro (cw_a23 hI.1) (And.intro (by omega) ?_)))
              rw [cw_s23 hI.1]
              obtain ⟨f30, ef30⟩ : ∃ z9, z9 = va_up f6 23 (upd (f6 23) ((e (o1 + 1) (z5_18).toInt.toNat)).toInt.toNat z5_18) := ⟨_, rfl⟩
              rw [← ef30]
              have hs30 : cw_S v29 f30 := by rw [ef30]; exact cw_S_fr hs29 _ _ (by decide) (by decide)
              refine Exists.intro _ (And.intro (cw_o6 hI.1) ?_)
              refine Exists.intro _ (And.intro (cw_o6 hI.1) ?_)
              refine Exists.intro _ (Exists.intro _ (And.intro (Or.inl (cw_a22 hI.1)) (And.intro (by omega) ?_)))
              refine Exists.intro _ (Exists.intro _ (And.intro (cw_a24 hI.1) (And.intro (by omega) ?_)))
              rw [cw_s24 hI.1]
              obtain ⟨f31, ef31⟩ : ∃ z9, z9 = va_up f30 24 (upd (f30 24) ((e (o1 + 1) (z5_18).toInt.toNat)).toInt.toNat (f30 22 (z5_18).toInt.toNat)) := ⟨_, rfl⟩
              rw [← ef31]
              have hs31 : cw_S v29 f31 := by rw [ef31]; exact cw_S_fr hs30 _ _ (by decide) (by decide)
              intro m32 em_130
              try have e32 : m32.toInt = (z5_18).toInt + (1) := by rw [em_130]; exact pm_addc _ _ (1) rfl (by omega) (by omega)
              exact hC.2 [false, false, false, false, false, false, true] _ _ _ _ _ _ (ih8 m32 v29 f31 hs31 (by omega) (by omega))
        · skip
          refine And.intro (fun _ => ?_) (fun c9 => absurd c9 (by decide))
          refine hC.1 4 136 _ _ rfl _ _ _ _ _ ?_
          exact ⟨rfl, rfl, v6, f6, rfl, hs6, rfl, by first | trivial | omega | (dsimp only; omega)⟩
  exact lp7 (200 - (0 : Int32).toInt).toNat.succ (0 : Int32) v5 f3 hs5 (by omega) (by omega)

set_option maxRecDepth 100000 in
set_option maxHeartbeats 2000000 in
theorem c_X4_stepWithin (hI : cw_I K nn dn q w e) (hs : cw_S v f) {o0 : Nat} (ho0 : cw_ro K o0) (x1 : Int32) (x2 : Int32) (p0 : 0 ≤ x2.toInt ∧ x2.toInt < 160) : pm_Mt l g 137 0 0 0 [.ref (q o0), .int x1, .int x2] (cw A0 g K nn dn q w e v f) (md_Qp (cw A0 g K nn dn q w e v f) (fun r => True)) := by
  refine mt_X4_stepWithin rfl (fun J hC => ?_)
  have hu1 := hI.2.1
  unfold cw_W at hu1
  have ro_nn : cw_ro K nn := hI.2.1.2.1
  have ro_dn : cw_ro K dn := hI.2.1.2.2.1
  have rg_x1 := pm_rng x1
  have rg_x2 := pm_rng x2
  refine hC.1 0 0 _ _ rfl _ _ _ _ _ ?_
  refine Exists.intro _ (And.intro (cw_ro_o hI.1 ho0) ?_)
  refine Exists.intro _ (Exists.intro _ (And.intro (Or.inl (cw_ro_3 hI.1 ho0)) (And.intro (by omega) ?_)))
  have w2 := cw_ahd hI ho0 (x2).toInt.toNat
  refine And.intro (fun c3 => ?_) (fun c3 => ?_)
  · skip
    refine hC.1 1 21 _ _ rfl _ _ _ _ _ ?_
    have k0 : (0 : Int32).toInt = 0 := rfl
    refine hC.1 2 22 _ _ rfl _ _ _ _ _ ?_
    exact ⟨rfl, fun e9 => absurd e9 (by decide), rfl, (0 : Int32), rfl, rfl, by first | trivial | omega | (dsimp only; omega)⟩
  · skip
    refine Exists.intro _ (And.intro (cw_ro_o hI.1 ho0) ?_)
    refine Exists.intro _ (Exists.intro _ (And.intro (Or.inl (cw_ro_3 hI.1 ho0)) (And.intro (by omega) ?_)))
    have w4 := cw_ahd hI ho0 (x2).toInt.toNat
    intro m5 em_17
    try have e5 : m5.toInt = (x2).toInt - ((e (o0 + 3) (x2).toInt.toNat)).toInt := by rw [em_17]; exact pm_sub _ _ (by omega) (by omega)
    refine hC.1 2 22 _ _ rfl _ _ _ _ _ ?_
    exact ⟨rfl, fun e9 => absurd e9 (by decide), rfl, m5, rfl, rfl, by first | trivial | omega | (dsimp only; omega)⟩

set_option maxRecDepth 100000 in
set_option maxHeartbeats 2000000 in
theorem c_X4_areMatching (hI : cw_I K nn dn q w e) (hs : cw_S v f) {o0 : Nat} (ho0 : cw_ro K o0) (x1 : Int32) (x2 : Int32) (x3 : Int32) (p0 : 0 ≤ x1.toInt ∧ x1.toInt + x3.toInt ≤ 160) (p1 : 0 ≤ x2.toInt ∧ x2.toInt + x3.toInt ≤ 160) : pm_Mt l g 136 1 0 0 [.ref (q o0), .int x1, .int x2, .int x3] (cw A0 g K nn dn q w e v f) (md_Qp (cw A0 g K nn dn q w e v f) (fun r => (r = 1 ∧ (True)) ∨ (r = 0 ∧ (True)))) := by
  refine mt_X4_areMatching rfl (fun J hC => ?_)
  have hu1 := hI.2.1
  unfold cw_W at hu1
  have ro_nn : cw_ro K nn := hI.2.1.2.1
  have ro_dn : cw_ro K dn := hI.2.1.2.2.1
  have rg_x1 := pm_rng x1
  have rg_x2 := pm_rng x2
  have rg_x3 := pm_rng x3
  refine hC.1 0 0 _ _ rfl _ _ _ _ _ ?_
  have k0 : (0 : Int32).toInt = 0 := rfl
  have lp3 : ∀ (n : Nat) (z4_3 : Int32), (0 ≤ z4_3.toInt ∧ z4_3.toInt ≤ 161) → 200 - z4_3.toInt < (n : Int) → J 3 [some (.ref (q o0)), some (.int x1), some (.int x2), some (.int x3), some (.int z4_3)] [] (cw A0 g K nn dn q w e v f) 0 0 := by
    intro n
    induction n with
    | zero =>
      intro z4_3 j0_3 j1_3
      omega
    | succ n ih4 =>
      intro z4_3 j0_3 j1_3
      refine hC.1 1 3 _ _ rfl _ _ _ _ _ ?_
      refine And.intro (fun c5 => ?_) (fun c5 => ?_)
      · skip
        refine hC.1 3 38 _ _ rfl _ _ _ _ _ ?_
        have k1 : (1 : Int32).toInt = 1 := rfl
        exact ⟨rfl, fun _ => (by decide), rfl, (1 : Int32), rfl, rfl, Or.inl ⟨rfl, by first | trivial | omega | (dsimp only; omega)⟩⟩
      · skip
        intro m6 em_14
        try have e6 : m6.toInt = (x1).toInt + (z4_3).toInt := by rw [em_14]; exact pm_add _ _ (by omega) (by omega)
        refine Exists.intro _ (Exists.intro _ (Exists.intro _ (Exists.intro _ (And.intro (c_X4_stepWithin hI hs ho0 x1 m6 (by omega)) (And.intro rfl (fun r9 A9 h9 => ?_))))))
        obtain ⟨y7, rfl, rfl, by7⟩ := h9
        intro m9 em_23
        try have e9 : m9.toInt = (x2).toInt + (z4_3).toInt := by rw [em_23]; exact pm_add _ _ (by omega) (by omega)
        refine Exists.intro _ (Exists.intro _ (Exists.intro _ (Exists.intro _ (And.intro (c_X4_stepWithin hI hs ho0 x2 m9 (by omega)) (And.intro rfl (fun r9 A9 h9 => ?_))))))
        obtain ⟨y10, rfl, rfl, by10⟩ := h9
        refine And.intro (fun c12 => ?_) (fun c12 => ?_)
        · skip
          have dc12 : (y7).toInt = (y10 : Int32).toInt := congrArg Int32.toInt c12
          refine hC.1 2 32 _ _ rfl _ _ _ _ _ ?_
          have k1 : (1 : Int32).toInt = 1 := rfl
          intro m13 em_32
          try have e13 : m13.toInt = (z4_3).toInt + (1) := by rw [em_32]; exact pm_addc _ _ (1) rfl (by omega) (by omega)
          exact ih4 m13 (by omega) (by omega)
        · skip
          have dc12 := pm_neI c12
          exact ⟨rfl, fun _ => (by decide), rfl, (0 : Int32), rfl, rfl, Or.inr ⟨rfl, by first | trivial | omega | (dsimp only; omega)⟩⟩
  exact lp3 (200 - (0 : Int32).toInt).toNat.succ (0 : Int32) (by omega) (by omega)

end
