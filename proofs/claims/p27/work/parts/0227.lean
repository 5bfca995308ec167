section
variable {l : Launch} {g : pm_G} {A0 : pm_H} {K nn dn : Nat} {q : Nat → Nat} {w : Nat → Int32} {e : Nat → Nat → Int32} {v : Nat → Int32} {f : Nat → Nat → Int32}
set_option maxRecDepth 100000 in
set_option maxHeartbeats 2000000 in
theorem c_X1_evenestEnd (hI : cw_I K nn dn q w e) (hs : cw_S v f) {o1 : Nat} (ho1 : cw_ro K o1) (x3 : Int32) (x4 : Int32) (p0 : 0 ≤ x3.toInt ∧ x3.toInt ≤ x4.toInt ∧ x4.toInt < (w o1).toInt) : pm_Mt l g 97 2 0 0 [.ref (q 4), .ref (q o1), .ref (q 2), .int x3, .int x4] (cw A0 g K nn dn q w e v f) (cw_Qs A0 g K nn dn q w e (fun r v2 f2 => ∃ x : Int32, r = some (.int x) ∧ (True))) := by
  refine mt_X1_evenestEnd rfl (fun J hC => ?_)
  have ro_nn : cw_ro K nn := hI.2.1.2.1
  have ro_dn : cw_ro K dn := hI.2.1.2.2.1
  have hu1 := hI.2.1
  unfold cw_W at hu1
  have rg_x3 := pm_rng x3
  have rg_x4 := pm_rng x4
  have zz0 := cw_sz hI ho1
  refine hC.1 0 0 _ _ rfl _ _ _ _ _ ?_
  refine And.intro (Exists.intro _ (cw_o2 hI.1)) (Exists.intro _ (Exists.intro _ (Exists.intro _ (Exists.intro _ (And.intro (c_X2_clear hI hs  ) (And.intro rfl (fun r9 A9 h9 => ?_)))))))
  rcases h9 with ⟨v3, f3, rfl, hs3, rfl, by2⟩
  have lp5 : ∀ (n : Nat) (z5_7 : Int32) (v4 : Nat → Int32) (f4 : Nat → Nat → Int32), cw_S v4 f4 → (x3.toInt ≤ z5_7.toInt ∧ z5_7.toInt ≤ x4.toInt + 1) → 200 - z5_7.toInt < (n : Int) → J 7 [some (.ref (q 4)), some (.ref (q o1)), some (.ref (q 2)), some (.int x3), some (.int x4), some (.int z5_7), none, none, none] [] (cw A0 g K nn dn q w e v4 f4) 0 0 := by
    intro n
    induction n with
    | zero =>
      intro z5_7 v4 f4 hs4 j0_7 j1_7
      omega
    | succ n ih6 =>
      intro z5_7 v4 f4 hs4 j0_7 j1_7
      refine hC.1 1 7 _ _ rfl _ _ _ _ _ ?_
      refine And.intro (fun c7 => ?_) (fun c7 => ?_)
      · skip
        refine hC.1 2 42 _ _ rfl _ _ _ _ _ ?_
        refine And.intro (Exists.intro _ (cw_o2 hI.1)) (Exists.intro _ (Exists.intro _ (Exists.intro _ (Exists.intro _ (And.intro (c_X2_clear hI hs4  ) (And.intro rfl (fun r9 A9 h9 => ?_)))))))
        rcases h9 with ⟨v9, f9, rfl, hs9, rfl, by8⟩
        have km1 : (-1 : Int32).toInt = -1 := rfl
        have k25 : (25 : Int32).toInt = 25 := rfl
        have k1 : (1 : Int32).toInt = 1 := rfl
        intro m10 em_56
        try have e10 : m10.toInt = (x4).toInt - (1) := by rw [em_56]; exact pm_subc _ _ (1) rfl (by omega) (by omega)
        have lp12 : ∀ (n : Nat) (z5_59 : Int32) (z6_59 : Int32) (z7_59 : Int32) (v11 : Nat → Int32) (f11 : Nat → Nat → Int32), cw_S v11 f11 → (x3.toInt - 1 ≤ z7_59.toInt ∧ z7_59.toInt ≤ x4.toInt - 1) → z7_59.toInt + 1 < (n : Int) → J 59 [some (.ref (q 4)), some (.ref (q o1)), some (.ref (q 2)), some (.int x3), some (.int x4), some (.int z5_59), some (.int z6_59), some (.int z7_59), none] [] (cw A0 g K nn dn q w e v11 f11) 0 0 := by
          intro n
          induction n with
          | zero =>
            intro z5_59 z6_59 z7_59 v11 f11 hs11 j0_59 j1_59
            omega
          | succ n ih13 =>
            intro z5_59 z6_59 z7_59 v11 f11 hs11 j0_59 j1_59
            refine hC.1 3 59 _ _ rfl _ _ _ _ _ ?_
            refine And.intro (fun c14 => ?_) (fun c14 => ?_)
            · skip
              refine hC.1 5 116 _ _ rfl _ _ _ _ _ ?_
              exact ⟨rfl, fun e9 => absurd e9 (by decide), rfl, v11, f11, rfl, hs11, z5_59, rfl, by exact True.intro⟩
            · skip
              refine Exists.intro _ (And.intro (cw_ro_o hI.1 ho1) ?_)
              intro m15 em_73
              try have e15 : m15.toInt = (z7_59).toInt + (1) := by rw [em_73]; exact pm_addc _ _ (1) rfl (by omega) (by omega)
              refine Exists.intro _ (Exists.intro _ (And.intro (Or.inl (cw_ro_1 hI.1 ho1)) (And.intro (by omega) ?_)))
              have w16 := cw_col hI ho1 (m15).toInt.toNat
              refine And.intro (Exists.intro _ (cw_o2 hI.1)) (Exists.intro _ (Exists.intro _ (Exists.intro _ (Exists.intro _ (And.intro (c_X2_take hI hs11 (e (o1 + 1) (m15).toInt.toNat) (by omega)) (And.intro rfl (fun r9 A9 h9 => ?_)))))))
              rcases h9 with ⟨v18, f18, rfl, hs18, rfl, by17⟩
              refine Exists.intro _ (And.intro (cw_o4 hI.1) ?_)
              refine Exists.intro _ (Exists.intro _ (And.intro (Or.inl (cw_a18 hI.1)) (And.intro (by omega) ?_)))
              refine Exists.intro _ (And.intro (cw_o2 hI.1) ?_)
              intro m19 em_89
              try have e19 : m19.toInt = ((f18 18 (z7_59).toInt.toNat)).toInt - ((v18 2)).toInt := by rw [em_89]; exact pm_sub _ _ (by omega) (by omega)
              refine Exists.intro _ (Exists.intro _ (Exists.intro _ (Exists.intro _ (And.intro (c_J9_abs_0f7a4 (cw A0 g K nn dn q w e v18 f18) m19 ) (And.intro rfl (fun r9 A9 h9 => ?_))))))
              obtain ⟨y20, rfl, rfl, by20⟩ := h9
              refine And.intro (fun c22 => ?_) (fun c22 => ?_)
              · skip
                refine hC.1 4 110 _ _ rfl _ _ _ _ _ ?_
                intro m23 em_110
                try have e23 : m23.toInt = (z7_59).toInt + (-1) := by rw [em_110]; exact pm_addc _ _ (-1) rfl (by omega) (by omega)
                exact hC.2 [false, false, false, false, false, false, false, false, true] _ _ _ _ _ _ (ih13 z5_59 z6_59 m23 v18 f18 hs18 (by omega) (by omega))
              · skip
                refine hC.1 4 110 _ _ rfl _ _ _ _ _ ?_
                intro m24 em_110
                try have e24 : m24.toInt = (z7_59).toInt + (-1) := by rw [em_110]; exact pm_addc _ _ (-1) rfl (by omega) (by omega)
                exact hC.2 [false, false, false, false, false, false, false, false, true] _ _ _ _ _ _ (ih13 z7_59 y20 m24 v18 f18 hs18 (by omega) (by omega))
        exact lp12 (m10.toInt + 1).toNat.succ (-1 : Int32) (25 : Int32) m10 v9 f9 hs9 (by omega) (by omega)
      · skip
        refine Exists.intro _ (And.intro (cw_ro_o hI.1 ho1) ?_)
        refine Exists.intro _ (Exists.intro _ (And.intro (Or.inl (cw_ro_1 hI.1 ho1)) (And.intro (by omega) ?_)))
        have w25 := cw_col hI ho1 (z5_7).toInt.toNat
        refine And.intro (Exists.intro _ (cw_o2 hI.1)) (Exists.intro _ (Exists.intro _ (Exists.intro _ (Exists.intro _ (And.intro (c_X2_take hI hs4 (e (o1 + 1) (z5_7).toInt.toNat) (by omega)) (And.intro rfl (fun r9 A9 h9 => ?_)))))))
        rcases h9 with ⟨v27, f27, rfl, hs27, rfl, by26⟩
        refine Exists.intro _ (And.intro (cw_o4 hI.1) ?_)
        refine Exists.intro _ (And.intro (cw_o2 hI.1) ?_)
        refine Exists.intro _ (Exists.intro _ (And.intro (cw_a18 hI.1) (And.intro (by omega) ?_)))
        rw [cw_s18 hI.1]
        obtain ⟨f28, ef28⟩ : ∃ z9, z9 = va_up f27 18 (upd (f27 18) (z5_7).toInt.toNat (v27 2)) := ⟨_, rfl⟩
        rw [← ef28]
        have hs28 : cw_S v27 f28 := by rw [ef28]; exact cw_S_fr hs27 _ _ (by decide) (by decide)
        have k1 : (1 : Int32).toInt = 1 := rfl
        intro m29 em_36
        try have e29 : m29.toInt = (z5_7).toInt + (1) := by rw [em_36]; exact pm_addc _ _ (1) rfl (by omega) (by omega)
        exact ih6 m29 v27 f28 hs28 (by omega) (by omega)
  exact lp5 (200 - x3.toInt).toNat.succ x3 v3 f3 hs3 (by omega) (by omega)

end
