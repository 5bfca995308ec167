section
variable {l : Launch} {g : pm_G} {A0 : pm_H} {K nn dn : Nat} {q : Nat → Nat} {w : Nat → Int32} {e : Nat → Nat → Int32} {v : Nat → Int32} {f : Nat → Nat → Int32}
set_option maxRecDepth 100000 in
set_option maxHeartbeats 2000000 in
theorem c_X6_findShortestWith (hI : cw_I K nn dn q w e) (hs : cw_S v f) {o1 : Nat} (ho1 : cw_ro K o1) (x2 : Int32)  : pm_Mt l g 107 2 0 0 [.ref (q 5), .ref (q o1), .int x2] (cw A0 g K nn dn q w e v f) (cw_Qs A0 g K nn dn q w e (fun r v2 f2 => r = none ∧ (True))) := by
  refine mt_X6_findShortestWith rfl (fun J hC => ?_)
  have ro_nn : cw_ro K nn := hI.2.1.2.1
  have ro_dn : cw_ro K dn := hI.2.1.2.2.1
  have hu1 := hI.2.1
  unfold cw_W at hu1
  have rg_x2 := pm_rng x2
  have zz0 := cw_sz hI ho1
  refine hC.1 0 0 _ _ rfl _ _ _ _ _ ?_
  refine And.intro (Exists.intro _ (cw_o5 hI.1)) (Exists.intro _ (Exists.intro _ (Exists.intro _ (Exists.intro _ (And.intro (c_X6_clearFound hI hs  ) (And.intro rfl (fun r9 A9 h9 => ?_)))))))
  rcases h9 with ⟨v3, f3, rfl, hs3, rfl, by2⟩
  have k0 : (0 : Int32).toInt = 0 := rfl
  refine Exists.intro _ (And.intro (cw_o5 hI.1) (And.intro rfl ?_))
  rw [cw_p_spansWithAll hI.1]
  obtain ⟨v4, ev4⟩ : ∃ z9, z9 = upd v3 10 (0 : Int32) := ⟨_, rfl⟩
  rw [← ev4]
  have hs4 : cw_S v4 f3 := by rw [ev4]; exact cw_S_v hs3 10 _ (by decide)
  have ev4_0 : (v4 0).toInt = (v3 0).toInt := by rw [ev4]; rfl
  refine Exists.intro _ (And.intro (cw_o5 hI.1) ?_)
  have km1 : (-1 : Int32).toInt = -1 := rfl
  refine Exists.intro _ (Exists.intro _ (Exists.intro _ (Exists.intro _ (And.intro (c_fill (cw_a21 hI.1) (by decide) (-1 : Int32)) (And.intro rfl (fun r9 A9 h9 => ?_))))))
  obtain ⟨rfl, rfl⟩ := h9
  rw [cw_s21 hI.1]
  obtain ⟨f5, ef5⟩ : ∃ z9, z9 = va_up f3 21 (fun j => if j < 24 then (-1 : Int32) else f3 21 j) := ⟨_, rfl⟩
  rw [← ef5]
  have hs5 : cw_S v4 f5 := by rw [ef5]; exact cw_S_fr hs4 _ _ (by decide) (by decide)
  have lp7 : ∀ (n : Nat) (z3_19 : Int32) (v6 : Nat → Int32) (f6 : Nat → Nat → Int32), cw_S v6 f6 → (0 ≤ z3_19.toInt ∧ z3_19.toInt ≤ 160) → 200 - z3_19.toInt < (n : Int) → J 19 [some (.ref (q 5)), some (.ref (q o1)), some (.int x2), some (.int z3_19), none] [] (cw A0 g K nn dn q w e v6 f6) 0 0 := by
    intro n
    induction n with
    | zero =>
      intro z3_19 v6 f6 hs6 j0_19 j1_19
      omega
    | succ n ih8 =>
      intro z3_19 v6 f6 hs6 j0_19 j1_19
      refine hC.1 1 19 _ _ rfl _ _ _ _ _ ?_
      refine Exists.intro _ (And.intro (cw_ro_o hI.1 ho1) ?_)
      have z9 := cw_sz hI ho1
      refine And.intro (fun c10 => ?_) (fun c10 => ?_)
      · skip
        refine hC.1 4 107 _ _ rfl _ _ _ _ _ ?_
        exact ⟨rfl, rfl, v6, f6, rfl, hs6, rfl, by exact True.intro⟩
      · skip
        refine Exists.intro _ (And.intro (cw_o5 hI.1) ?_)
        refine Exists.intro _ (And.intro (cw_ro_o hI.1 ho1) ?_)
        refine Exists.intro _ (Exists.intro _ (And.intro (Or.inl (cw_ro_1 hI.1 ho1)) (And.intro (by omega) ?_)))
        have w11 := cw_col hI ho1 (z3_19).toInt.toNat
        refine Exists.intro _ (Exists.intro _ (And.intro (cw_a21 hI.1) (And.intro (by omega) ?_)))
        rw [cw_s21 hI.1]
        obtain ⟨f12, ef12⟩ : ∃ z9, z9 = va_up f6 21 (upd (f6 21) ((e (o1 + 1) (z3_19).toInt.toNat)).toInt.toNat z3_19) := ⟨_, rfl⟩
        rw [← ef12]
        have hs12 : cw_S v6 f12 := by rw [ef12]; exact cw_S_fr hs6 _ _ (by decide) (by decide)
        refine And.intro (Exists.intro _ (cw_o5 hI.1)) (Exists.intro _ (Exists.intro _ (Exists.intro _ (Exists.intro _ (And.intro (c_X6_earliestLatest hI hs12 x2 z3_19 ) (And.intro rfl (fun r9 A9 h9 => ?_)))))))
        obtain ⟨y13, rfl, rfl, by13⟩ := h9
        refine Exists.intro _ (And.intro (cw_o5 hI.1) ?_)
        have k1 : (1 : Int32).toInt = 1 := rfl
        intro m15 em_55
        try have e15 : m15.toInt = (y13).toInt + (1) := by rw [em_55]; exact pm_addc _ _ (1) rfl (by omega) (by omega)
        intro m16 em_56
        try have e16 : m16.toInt = ((v6 10)).toInt + (m15).toInt := by rw [em_56]; exact pm_add _ _ (by omega) (by omega)
        refine Exists.intro _ (And.intro (cw_o5 hI.1) (And.intro rfl ?_))
        rw [cw_p_spansWithAll hI.1]
        obtain ⟨v17, ev17⟩ : ∃ z9, z9 = upd v6 10 m16 := ⟨_, rfl⟩
        rw [← ev17]
        have hs17 : cw_S v17 f12 := by rw [ev17]; exact cw_S_v hs12 10 _ (by decide)
        have ev17_0 : (v17 0).toInt = (v6 0).toInt := by rw [ev17]; rfl
        refine And.intro (fun c18 => ?_) (fun c18 => ?_)
        · skip
          have dc18 : (y13).toInt = ((-1 : Int32) : Int32).toInt := congrArg Int32.toInt c18
          refine hC.1 3 101 _ _ rfl _ _ _ _ _ ?_
          intro m19 em_101
          try have e19 : m19.toInt = (z3_19).toInt + (1) := by rw [em_101]; exact pm_addc _ _ (1) rfl (by omega) (by omega)
          exact hC.2 [false, false, false, false, true] _ _ _ _ _ _ (ih8 m19 v17 f12 hs17 (by omega) (by omega))
        · skip
          have dc18 := pm_neI c18
          refine Exists.intro _ (And.intro (cw_o5 hI.1) ?_)
          refine And.intro (fun c20 => ?_) (fun c20 => ?_)
          · skip
            have dc20 : ((v17 7)).toInt = ((-1 : Int32) : Int32).toInt := congrArg Int32.toInt c20
            refine hC.1 2 90 _ _ rfl _ _ _ _ _ ?_
            refine Exists.intro _ (And.intro (cw_o5 hI.1) (And.intro rfl ?_))
            rw [cw_p_first hI.1]
            obtain ⟨v21, ev21⟩ : ∃ z9, z9 = upd v17 7 y13 := ⟨_, rfl⟩
            rw [← ev21]
            have hs21 : cw_S v21 f12 := by rw [ev21]; exact cw_S_v hs17 7 _ (by decide)
            have ev21_0 : (v21 0).toInt = (v17 0).toInt := by rw [ev21]; rfl
            refine Exists.intro _ (And.intro (cw_o5 hI.1) (And.intro rfl ?_))
            rw [cw_p_last hI.1]
            obtain ⟨v22, ev22⟩ : ∃ z9, z9 = upd v21 8 z3_19 := ⟨_, rfl⟩
            rw [← ev22]
            have hs22 : cw_S v22 f12 := by rw [ev22]; exact cw_S_v hs21 8 _ (by decide)
            have ev22_0 : (v22 0).toInt = (v21 0).toInt := by rw [ev22]; rfl
            refine hC.1 3 101 _ _ rfl _ _ _ _ _ ?_
            intro m23 em_101
            try have e23 : m23.toInt = (z3_19).toInt + (1) := by rw [em_101]; exact pm_addc _ _ (1) rfl (by omega) (by omega)
            exact hC.2 [false, false, false, false, true] _ _ _ _ _ _ (ih8 m23 v22 f12 hs22 (by omega) (by omega))
          · skip
            have dc20 := pm_neI c20
            intro m24 em_77
            try have e24 : m24.toInt = (z3_19).toInt - (y13).toInt := by rw [em_77]; exact pm_sub _ _ (by omega) (by omega)
            refine Exists.intro _ (And.intro (cw_o5 hI.1) ?_)
            refine Exists.intro _ (And.intro (cw_o5 hI.1) ?_)
            intro m25 em_86
            try have e25 : m25.toInt = ((v17 8)).toInt - ((v17 7)).toInt := by rw [em_86]; exact pm_sub _ _ (by omega) (by omega)
            refine And.intro (fun c26 => ?_) (fun c26 => ?_)
            · skip
              refine hC.1 3 101 _ _ rfl _ _ _ _ _ ?_
              intro m27 em_101
              try have e27 : m27.toInt = (z3_19).toInt + (1) := by rw [em_101]; exact pm_addc _ _ (1) rfl (by omega) (by omega)
              exact hC.2 [false, false, false, false, true] _ _ _ _ _ _ (ih8 m27 v17 f12 hs17 (by omega) (by omega))
            · skip
              refine hC.1 2 90 _ _ rfl _ _ _ _ _ ?_
              refine Exists.intro _ (And.intro (cw_o5 hI.1) (And.intro rfl ?_))
              rw [cw_p_first hI.1]
              obtain ⟨v28, ev28⟩ : ∃ z9, z9 = upd v17 7 y13 := ⟨_, rfl⟩
              rw [← ev28]
              have hs28 : cw_S v28 f12 := by rw [ev28]; exact cw_S_v hs17 7 _ (by decide)
              have ev28_0 : (v28 0).toInt = (v17 0).toInt := by rw [ev28]; rfl
              refine Exists.intro _ (And.intro (cw_o5 hI.1) (And.intro rfl ?_))
              rw [cw_p_last hI.1]
              obtain ⟨v29, ev29⟩ : ∃ z9, z9 = upd v28 8 z3_19 := ⟨_, rfl⟩
              rw [← ev29]
              have hs29 : cw_S v29 f12 := by rw [ev29]; exact cw_S_v hs28 8 _ (by decide)
              have ev29_0 : (v29 0).toInt = (v28 0).toInt := by rw [ev29]; rfl
              refine hC.1 3 101 _ _ rfl _ _ _ _ _ ?_
              intro m30 em_101
              try have e30 : m30.toInt = (z3_19).toInt + (1) := by rw [em_101]; exact pm_addc _ _ (1) rfl (by omega) (by omega)
              exact hC.2 [false, false, false, false, true] _ _ _ _ _ _ (ih8 m30 v29 f12 hs29 (by omega) (by omega))
  exact lp7 (200 - (0 : Int32).toInt).toNat.succ (0 : Int32) v4 f5 hs5 (by omega) (by omega)

end
