section
variable {l : Launch} {g : pm_G} {A0 : pm_H} {K nn dn : Nat} {q : Nat → Nat} {w : Nat → Int32} {e : Nat → Nat → Int32} {v : Nat → Int32} {f : Nat → Nat → Int32}
set_option maxRecDepth 100000 in
set_option maxHeartbeats 2000000 in
theorem c_X4_spansUpTo (hI : cw_I K nn dn q w e) (hs : cw_S v f) {o1 : Nat} (ho1 : cw_ro K o1) (x3 : Int32)  : pm_Mt l g 129 2 0 0 [.ref (q 7), .ref (q o1), .ref (q 2), .int x3] (cw A0 g K nn dn q w e v f) (cw_Qs A0 g K nn dn q w e (fun r v2 f2 => ∃ x : Int32, r = some (.int x) ∧ (True))) := by
  refine mt_X4_spansUpTo rfl (fun J hC => ?_)
  have ro_nn : cw_ro K nn := hI.2.1.2.1
  have ro_dn : cw_ro K dn := hI.2.1.2.2.1
  have hu1 := hI.2.1
  unfold cw_W at hu1
  have rg_x3 := pm_rng x3
  have zz0 := cw_sz hI ho1
  refine hC.1 0 0 _ _ rfl _ _ _ _ _ ?_
  refine And.intro (Exists.intro _ (cw_o2 hI.1)) (Exists.intro _ (Exists.intro _ (Exists.intro _ (Exists.intro _ (And.intro (c_X2_clear hI hs  ) (And.intro rfl (fun r9 A9 h9 => ?_)))))))
  rcases h9 with ⟨v3, f3, rfl, hs3, rfl, by2⟩
  have k0 : (0 : Int32).toInt = 0 := rfl
  have lp5 : ∀ (n : Nat) (z4_13 : Int32) (z5_13 : Int32) (z6_13 : Int32) (v4 : Nat → Int32) (f4 : Nat → Nat → Int32), cw_S v4 f4 → (0 ≤ z6_13.toInt ∧ z6_13.toInt ≤ 160) → (0 ≤ z5_13.toInt ∧ z5_13.toInt ≤ z6_13.toInt) → 200 - z6_13.toInt < (n : Int) → J 13 [some (.ref (q 7)), some (.ref (q o1)), some (.ref (q 2)), some (.int x3), some (.int z4_13), some (.int z5_13), some (.int z6_13)] [] (cw A0 g K nn dn q w e v4 f4) 0 0 := by
    intro n
    induction n with
    | zero =>
      intro z4_13 z5_13 z6_13 v4 f4 hs4 j0_13 j1_13 j2_13
      omega
    | succ n ih6 =>
      intro z4_13 z5_13 z6_13 v4 f4 hs4 j0_13 j1_13 j2_13
      refine hC.1 1 13 _ _ rfl _ _ _ _ _ ?_
      refine Exists.intro _ (And.intro (cw_ro_o hI.1 ho1) ?_)
      have z7 := cw_sz hI ho1
      refine And.intro (fun c8 => ?_) (fun c8 => ?_)
      · skip
        refine hC.1 4 83 _ _ rfl _ _ _ _ _ ?_
        exact ⟨rfl, fun e9 => absurd e9 (by decide), rfl, v4, f4, rfl, hs4, z4_13, rfl, by exact True.intro⟩
      · skip
        refine Exists.intro _ (And.intro (cw_ro_o hI.1 ho1) ?_)
        refine Exists.intro _ (Exists.intro _ (And.intro (Or.inl (cw_ro_1 hI.1 ho1)) (And.intro (by omega) ?_)))
        have w9 := cw_col hI ho1 (z6_13).toInt.toNat
        refine And.intro (Exists.intro _ (cw_o2 hI.1)) (Exists.intro _ (Exists.intro _ (Exists.intro _ (Exists.intro _ (And.intro (c_X2_take hI hs4 (e (o1 + 1) (z6_13).toInt.toNat) (by omega)) (And.intro rfl (fun r9 A9 h9 => ?_)))))))
        rcases h9 with ⟨v11, f11, rfl, hs11, rfl, by10⟩
        have lp13 : ∀ (n : Nat) (z5_33 : Int32) (v12 : Nat → Int32) (f12 : Nat → Nat → Int32), cw_S v12 f12 → (0 ≤ z5_33.toInt ∧ z5_33.toInt ≤ z6_13.toInt + 1) → 200 - z5_33.toInt < (n : Int) → J 33 [some (.ref (q 7)), some (.ref (q o1)), some (.ref (q 2)), some (.int x3), some (.int z4_13), some (.int z5_33), some (.int z6_13)] [] (cw A0 g K nn dn q w e v12 f12) 0 0 := by
          intro n
          induction n with
          | zero =>
            intro z5_33 v12 f12 hs12 j0_33 j1_33
            omega
          | succ n ih14 =>
            intro z5_33 v12 f12 hs12 j0_33 j1_33
            refine hC.1 2 33 _ _ rfl _ _ _ _ _ ?_
            refine Exists.intro _ (And.intro (cw_o2 hI.1) ?_)
            refine And.intro (fun c15 => ?_) (fun c15 => ?_)
            · skip
              refine hC.1 3 65 _ _ rfl _ _ _ _ _ ?_
              intro m16 em_71
              try have e16 : m16.toInt = (z6_13).toInt - (z5_33).toInt := by rw [em_71]; exact pm_sub _ _ (by omega) (by omega)
              have k1 : (1 : Int32).toInt = 1 := rfl
              intro m17 em_73
              try have e17 : m17.toInt = (m16).toInt + (1) := by rw [em_73]; exact pm_addc _ _ (1) rfl (by omega) (by omega)
              intro m18 em_74
              try have e18 : m18.toInt = (z4_13).toInt + (m17).toInt := by rw [em_74]; exact pm_add _ _ (by omega) (by omega)
              intro m19 em_77
              try have e19 : m19.toInt = (z6_13).toInt + (1) := by rw [em_77]; exact pm_addc _ _ (1) rfl (by omega) (by omega)
              exact ih6 m18 z5_33 m19 v12 f12 hs12 (by omega) (by omega) (by omega)
            · skip
              refine And.intro (fun c20 => ?_) (fun c20 => ?_)
              · skip
                refine hC.1 3 65 _ _ rfl _ _ _ _ _ ?_
                intro m21 em_71
                try have e21 : m21.toInt = (z6_13).toInt - (z5_33).toInt := by rw [em_71]; exact pm_sub _ _ (by omega) (by omega)
                have k1 : (1 : Int32).toInt = 1 := rfl
                intro m22 em_73
                try have e22 : m22.toInt = (m21).toInt + (1) := by rw [em_73]; exact pm_addc _ _ (1) rfl (by omega) (by omega)
                intro m23 em_74
                try have e23 : m23.toInt = (z4_13).toInt + (m22).toInt := by rw [em_74]; exact pm_add _ _ (by omega) (by omega)
                intro m24 em_77
                try have e24 : m24.toInt = (z6_13).toInt + (1) := by rw [em_77]; exact pm_addc _ _ (1) rfl (by omega) (by omega)
                exact ih6 m23 z5_33 m24 v12 f12 hs12 (by omega) (by omega) (by omega)
              · skip
                refine Exists.intro _ (And.intro (cw_ro_o hI.1 ho1) ?_)
                refine Exists.intro _ (Exists.intro _ (And.intro (Or.inl (cw_ro_1 hI.1 ho1)) (And.intro (by omega) ?_)))
                have w25 := cw_col hI ho1 (z5_33).toInt.toNat
                refine And.intro (Exists.intro _ (cw_o2 hI.1)) (Exists.intro _ (Exists.intro _ (Exists.intro _ (Exists.intro _ (And.intro (c_X2_drop hI hs12 (e (o1 + 1) (z5_33).toInt.toNat) (by omega)) (And.intro rfl (fun r9 A9 h9 => ?_)))))))
                rcases h9 with ⟨v27, f27, rfl, hs27, rfl, by26⟩
                have k1 : (1 : Int32).toInt = 1 := rfl
                intro m28 em_59
                try have e28 : m28.toInt = (z5_33).toInt + (1) := by rw [em_59]; exact pm_addc _ _ (1) rfl (by omega) (by omega)
                exact ih14 m28 v27 f27 hs27 (by omega) (by omega)
        exact lp13 (200 - z5_13.toInt).toNat.succ z5_13 v11 f11 hs11 (by omega) (by omega)
  exact lp5 (200 - (0 : Int32).toInt).toNat.succ (0 : Int32) (0 : Int32) (0 : Int32) v3 f3 hs3 (by omega) (by omega) (by omega)

end
