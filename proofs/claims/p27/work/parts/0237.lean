section
variable {l : Launch} {g : pm_G} {A0 : pm_H} {K nn dn : Nat} {q : Nat → Nat} {w : Nat → Int32} {e : Nat → Nat → Int32} {v : Nat → Int32} {f : Nat → Nat → Int32}
set_option maxRecDepth 100000 in
set_option maxHeartbeats 2000000 in
theorem c_X6_findHeaviest (hI : cw_I K nn dn q w e) (hs : cw_S v f) {o1 : Nat} (ho1 : cw_ro K o1) (x3 : Int32) (p0 : 1 ≤ x3.toInt ∧ x3.toInt ≤ (w o1).toInt) : pm_Mt l g 118 3 0 0 [.ref (q 5), .ref (q o1), .ref (q 2), .int x3] (cw A0 g K nn dn q w e v f) (cw_Qs A0 g K nn dn q w e (fun r v2 f2 => r = none ∧ (True))) := by
  refine mt_X6_findHeaviest rfl (fun J hC => ?_)
  have ro_nn : cw_ro K nn := hI.2.1.2.1
  have ro_dn : cw_ro K dn := hI.2.1.2.2.1
  have hu1 := hI.2.1
  unfold cw_W at hu1
  have rg_x3 := pm_rng x3
  have zz0 := cw_sz hI ho1
  refine hC.1 0 0 _ _ rfl _ _ _ _ _ ?_
  have k0 : (0 : Int32).toInt = 0 := rfl
  have k1 : (1 : Int32).toInt = 1 := rfl
  intro m2 em_5
  try have e2 : m2.toInt = (x3).toInt - (1) := by rw [em_5]; exact pm_subc _ _ (1) rfl (by omega) (by omega)
  refine And.intro (Exists.intro _ (cw_o2 hI.1)) (Exists.intro _ (Exists.intro _ (Exists.intro _ (Exists.intro _ (And.intro (c_X2_read hI hs ho1 (0 : Int32) m2 ) (And.intro rfl (fun r9 A9 h9 => ?_)))))))
  rcases h9 with ⟨v4, f4, rfl, hs4, rfl, by3⟩
  refine Exists.intro _ (And.intro (cw_o5 hI.1) (And.intro rfl ?_))
  rw [cw_p_first hI.1]
  obtain ⟨v5, ev5⟩ : ∃ z9, z9 = upd v4 7 (0 : Int32) := ⟨_, rfl⟩
  rw [← ev5]
  have hs5 : cw_S v5 f4 := by rw [ev5]; exact cw_S_v hs4 7 _ (by decide)
  have ev5_0 : (v5 0).toInt = (v4 0).toInt := by rw [ev5]; rfl
  refine Exists.intro _ (And.intro (cw_o2 hI.1) ?_)
  refine Exists.intro _ (And.intro (cw_o5 hI.1) (And.intro rfl ?_))
  rw [cw_p_massFound hI.1]
  obtain ⟨v6, ev6⟩ : ∃ z9, z9 = upd v5 9 (v5 4) := ⟨_, rfl⟩
  rw [← ev6]
  have hs6 : cw_S v6 f4 := by rw [ev6]; exact cw_S_v hs5 9 _ (by decide)
  have ev6_0 : (v6 0).toInt = (v5 0).toInt := by rw [ev6]; rfl
  have lp8 : ∀ (n : Nat) (z4_25 : Int32) (v7 : Nat → Int32) (f7 : Nat → Nat → Int32), cw_S v7 f7 → (1 ≤ z4_25.toInt ∧ z4_25.toInt ≤ 161) → 200 - z4_25.toInt < (n : Int) → J 25 [some (.ref (q 5)), some (.ref (q o1)), some (.ref (q 2)), some (.int x3), some (.int z4_25)] [] (cw A0 g K nn dn q w e v7 f7) 0 0 := by
    intro n
    induction n with
    | zero =>
      intro z4_25 v7 f7 hs7 j0_25 j1_25
      omega
    | succ n ih9 =>
      intro z4_25 v7 f7 hs7 j0_25 j1_25
      refine hC.1 1 25 _ _ rfl _ _ _ _ _ ?_
      intro m10 em_28
      try have e10 : m10.toInt = (z4_25).toInt + (x3).toInt := by rw [em_28]; exact pm_add _ _ (by omega) (by omega)
      refine Exists.intro _ (And.intro (cw_ro_o hI.1 ho1) ?_)
      have z11 := cw_sz hI ho1
      refine And.intro (fun c12 => ?_) (fun c12 => ?_)
      · skip
        refine hC.1 3 95 _ _ rfl _ _ _ _ _ ?_
        exact ⟨rfl, rfl, v7, f7, rfl, hs7, rfl, by exact True.intro⟩
      · skip
        refine Exists.intro _ (And.intro (cw_ro_o hI.1 ho1) ?_)
        intro m13 em_44
        try have e13 : m13.toInt = (z4_25).toInt - (1) := by rw [em_44]; exact pm_subc _ _ (1) rfl (by omega) (by omega)
        refine Exists.intro _ (Exists.intro _ (And.intro (Or.inl (cw_ro_1 hI.1 ho1)) (And.intro (by omega) ?_)))
        have w14 := cw_col hI ho1 (m13).toInt.toNat
        refine And.intro (Exists.intro _ (cw_o2 hI.1)) (Exists.intro _ (Exists.intro _ (Exists.intro _ (Exists.intro _ (And.intro (c_X2_drop hI hs7 (e (o1 + 1) (m13).toInt.toNat) (by omega)) (And.intro rfl (fun r9 A9 h9 => ?_)))))))
        rcases h9 with ⟨v16, f16, rfl, hs16, rfl, by15⟩
        refine Exists.intro _ (And.intro (cw_ro_o hI.1 ho1) ?_)
        intro m17 em_57
        try have e17 : m17.toInt = (z4_25).toInt + (x3).toInt := by rw [em_57]; exact pm_add _ _ (by omega) (by omega)
        intro m18 em_59
        try have e18 : m18.toInt = (m17).toInt - (1) := by rw [em_59]; exact pm_subc _ _ (1) rfl (by omega) (by omega)
        refine Exists.intro _ (Exists.intro _ (And.intro (Or.inl (cw_ro_1 hI.1 ho1)) (And.intro (by omega) ?_)))
        have w19 := cw_col hI ho1 (m18).toInt.toNat
        refine And.intro (Exists.intro _ (cw_o2 hI.1)) (Exists.intro _ (Exists.intro _ (Exists.intro _ (Exists.intro _ (And.intro (c_X2_take hI hs16 (e (o1 + 1) (m18).toInt.toNat) (by omega)) (And.intro rfl (fun r9 A9 h9 => ?_)))))))
        rcases h9 with ⟨v21, f21, rfl, hs21, rfl, by20⟩
        refine Exists.intro _ (And.intro (cw_o2 hI.1) ?_)
        refine Exists.intro _ (And.intro (cw_o5 hI.1) ?_)
        refine And.intro (fun c22 => ?_) (fun c22 => ?_)
        · skip
          refine hC.1 2 89 _ _ rfl _ _ _ _ _ ?_
          intro m23 em_89
          try have e23 : m23.toInt = (z4_25).toInt + (1) := by rw [em_89]; exact pm_addc _ _ (1) rfl (by omega) (by omega)
          exact ih9 m23 v21 f21 hs21 (by omega) (by omega)
        · skip
          refine Exists.intro _ (And.intro (cw_o5 hI.1) (And.intro rfl ?_))
          rw [cw_p_first hI.1]
          obtain ⟨v24, ev24⟩ : ∃ z9, z9 = upd v21 7 z4_25 := ⟨_, rfl⟩
          rw [← ev24]
          have hs24 : cw_S v24 f21 := by rw [ev24]; exact cw_S_v hs21 7 _ (by decide)
          have ev24_0 : (v24 0).toInt = (v21 0).toInt := by rw [ev24]; rfl
          refine Exists.intro _ (And.intro (cw_o2 hI.1) ?_)
          refine Exists.intro _ (And.intro (cw_o5 hI.1) (And.intro rfl ?_))
          rw [cw_p_massFound hI.1]
          obtain ⟨v25, ev25⟩ : ∃ z9, z9 = upd v24 9 (v24 4) := ⟨_, rfl⟩
          rw [← ev25]
          have hs25 : cw_S v25 f21 := by rw [ev25]; exact cw_S_v hs24 9 _ (by decide)
          have ev25_0 : (v25 0).toInt = (v24 0).toInt := by rw [ev25]; rfl
          refine hC.1 2 89 _ _ rfl _ _ _ _ _ ?_
          intro m26 em_89
          try have e26 : m26.toInt = (z4_25).toInt + (1) := by rw [em_89]; exact pm_addc _ _ (1) rfl (by omega) (by omega)
          exact ih9 m26 v25 f21 hs25 (by omega) (by omega)
  exact lp8 (200 - (1 : Int32).toInt).toNat.succ (1 : Int32) v6 f4 hs6 (by omega) (by omega)

end
