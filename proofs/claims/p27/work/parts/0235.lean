section
variable {l : Launch} {g : pm_G} {A0 : pm_H} {K nn dn : Nat} {q : Nat → Nat} {w : Nat → Int32} {e : Nat → Nat → Int32} {v : Nat → Int32} {f : Nat → Nat → Int32}
set_option maxRecDepth 100000 in
set_option maxHeartbeats 2000000 in
theorem c_X6_findLongestOf (hI : cw_I K nn dn q w e) (hs : cw_S v f) {o1 : Nat} (ho1 : cw_ro K o1) (x3 : Int32)  : pm_Mt l g 112 2 0 0 [.ref (q 5), .ref (q o1), .ref (q 2), .int x3] (cw A0 g K nn dn q w e v f) (cw_Qs A0 g K nn dn q w e (fun r v2 f2 => r = none ∧ (True))) := by
  refine mt_X6_findLongestOf rfl (fun J hC => ?_)
  have ro_nn : cw_ro K nn := hI.2.1.2.1
  have ro_dn : cw_ro K dn := hI.2.1.2.2.1
  have hu1 := hI.2.1
  unfold cw_W at hu1
  have rg_x3 := pm_rng x3
  have zz0 := cw_sz hI ho1
  refine hC.1 0 0 _ _ rfl _ _ _ _ _ ?_
  refine And.intro (Exists.intro _ (cw_o5 hI.1)) (Exists.intro _ (Exists.intro _ (Exists.intro _ (Exists.intro _ (And.intro (c_X6_clearFound hI hs  ) (And.intro rfl (fun r9 A9 h9 => ?_)))))))
  rcases h9 with ⟨v3, f3, rfl, hs3, rfl, by2⟩
  refine And.intro (Exists.intro _ (cw_o2 hI.1)) (Exists.intro _ (Exists.intro _ (Exists.intro _ (Exists.intro _ (And.intro (c_X2_clear hI hs3  ) (And.intro rfl (fun r9 A9 h9 => ?_)))))))
  rcases h9 with ⟨v5, f5, rfl, hs5, rfl, by4⟩
  have k0 : (0 : Int32).toInt = 0 := rfl
  have lp7 : ∀ (n : Nat) (z4_14 : Int32) (z5_14 : Int32) (v6 : Nat → Int32) (f6 : Nat → Nat → Int32), cw_S v6 f6 → (0 ≤ z5_14.toInt ∧ z5_14.toInt ≤ 160) → (0 ≤ z4_14.toInt ∧ z4_14.toInt ≤ z5_14.toInt) → 200 - z5_14.toInt < (n : Int) → J 14 [some (.ref (q 5)), some (.ref (q o1)), some (.ref (q 2)), some (.int x3), some (.int z4_14), some (.int z5_14)] [] (cw A0 g K nn dn q w e v6 f6) 0 0 := by
    intro n
    induction n with
    | zero =>
      intro z4_14 z5_14 v6 f6 hs6 j0_14 j1_14 j2_14
      omega
    | succ n ih8 =>
      intro z4_14 z5_14 v6 f6 hs6 j0_14 j1_14 j2_14
      refine hC.1 1 14 _ _ rfl _ _ _ _ _ ?_
      refine Exists.intro _ (And.intro (cw_ro_o hI.1 ho1) ?_)
      have z9 := cw_sz hI ho1
      refine And.intro (fun c10 => ?_) (fun c10 => ?_)
      · skip
        refine hC.1 4 80 _ _ rfl _ _ _ _ _ ?_
        exact ⟨rfl, rfl, v6, f6, rfl, hs6, rfl, by exact True.intro⟩
      · skip
        refine Exists.intro _ (And.intro (cw_ro_o hI.1 ho1) ?_)
        refine Exists.intro _ (Exists.intro _ (And.intro (Or.inl (cw_ro_1 hI.1 ho1)) (And.intro (by omega) ?_)))
        have w11 := cw_col hI ho1 (z5_14).toInt.toNat
        refine And.intro (Exists.intro _ (cw_o2 hI.1)) (Exists.intro _ (Exists.intro _ (Exists.intro _ (Exists.intro _ (And.intro (c_X2_take hI hs6 (e (o1 + 1) (z5_14).toInt.toNat) (by omega)) (And.intro rfl (fun r9 A9 h9 => ?_)))))))
        rcases h9 with ⟨v13, f13, rfl, hs13, rfl, by12⟩
        have lp15 : ∀ (n : Nat) (z4_34 : Int32) (v14 : Nat → Int32) (f14 : Nat → Nat → Int32), cw_S v14 f14 → (0 ≤ z4_34.toInt ∧ z4_34.toInt ≤ z5_14.toInt) → 200 - z4_34.toInt < (n : Int) → J 34 [some (.ref (q 5)), some (.ref (q o1)), some (.ref (q 2)), some (.int x3), some (.int z4_34), some (.int z5_14)] [] (cw A0 g K nn dn q w e v14 f14) 0 0 := by
          intro n
          induction n with
          | zero =>
            intro z4_34 v14 f14 hs14 j0_34 j1_34
            omega
          | succ n ih16 =>
            intro z4_34 v14 f14 hs14 j0_34 j1_34
            refine hC.1 2 34 _ _ rfl _ _ _ _ _ ?_
            refine Exists.intro _ (And.intro (cw_o2 hI.1) ?_)
            refine And.intro (fun c17 => ?_) (fun c17 => ?_)
            · skip
              refine hC.1 3 66 _ _ rfl _ _ _ _ _ ?_
              refine And.intro (Exists.intro _ (cw_o5 hI.1)) (Exists.intro _ (Exists.intro _ (Exists.intro _ (Exists.intro _ (And.intro (c_X6_offerLonger hI hs14 z4_34 z5_14 ) (And.intro rfl (fun r9 A9 h9 => ?_)))))))
              rcases h9 with ⟨v19, f19, rfl, hs19, rfl, by18⟩
              have k1 : (1 : Int32).toInt = 1 := rfl
              intro m20 em_74
              try have e20 : m20.toInt = (z5_14).toInt + (1) := by rw [em_74]; exact pm_addc _ _ (1) rfl (by omega) (by omega)
              exact ih8 z4_34 m20 v19 f19 hs19 (by omega) (by omega) (by omega)
            · skip
              refine And.intro (fun c21 => ?_) (fun c21 => ?_)
              · skip
                refine hC.1 3 66 _ _ rfl _ _ _ _ _ ?_
                refine And.intro (Exists.intro _ (cw_o5 hI.1)) (Exists.intro _ (Exists.intro _ (Exists.intro _ (Exists.intro _ (And.intro (c_X6_offerLonger hI hs14 z4_34 z5_14 ) (And.intro rfl (fun r9 A9 h9 => ?_)))))))
                rcases h9 with ⟨v23, f23, rfl, hs23, rfl, by22⟩
                have k1 : (1 : Int32).toInt = 1 := rfl
                intro m24 em_74
                try have e24 : m24.toInt = (z5_14).toInt + (1) := by rw [em_74]; exact pm_addc _ _ (1) rfl (by omega) (by omega)
                exact ih8 z4_34 m24 v23 f23 hs23 (by omega) (by omega) (by omega)
              · skip
                refine Exists.intro _ (And.intro (cw_ro_o hI.1 ho1) ?_)
                refine Exists.intro _ (Exists.intro _ (And.intro (Or.inl (cw_ro_1 hI.1 ho1)) (And.intro (by omega) ?_)))
                have w25 := cw_col hI ho1 (z4_34).toInt.toNat
                refine And.intro (Exists.intro _ (cw_o2 hI.1)) (Exists.intro _ (Exists.intro _ (Exists.intro _ (Exists.intro _ (And.intro (c_X2_drop hI hs14 (e (o1 + 1) (z4_34).toInt.toNat) (by omega)) (And.intro rfl (fun r9 A9 h9 => ?_)))))))
                rcases h9 with ⟨v27, f27, rfl, hs27, rfl, by26⟩
                have k1 : (1 : Int32).toInt = 1 := rfl
                intro m28 em_60
                try have e28 : m28.toInt = (z4_34).toInt + (1) := by rw [em_60]; exact pm_addc _ _ (1) rfl (by omega) (by omega)
                exact ih16 m28 v27 f27 hs27 (by omega) (by omega)
        exact lp15 (200 - z4_14.toInt).toNat.succ z4_14 v13 f13 hs13 (by omega) (by omega)
  exact lp7 (200 - (0 : Int32).toInt).toNat.succ (0 : Int32) (0 : Int32) v5 f5 hs5 (by omega) (by omega) (by omega)

end
