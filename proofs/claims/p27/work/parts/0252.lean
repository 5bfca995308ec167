section
variable {l : Launch} {g : pm_G} {A0 : pm_H} {K nn dn : Nat} {q : Nat → Nat} {w : Nat → Int32} {e : Nat → Nat → Int32} {v : Nat → Int32} {f : Nat → Nat → Int32}
set_option maxRecDepth 100000 in
set_option maxHeartbeats 2000000 in
theorem c_X3_shortestBestEnd (hI : cw_I K nn dn q w e) (hs : cw_S v f) {o1 : Nat} (ho1 : cw_ro K o1) (x3 : Int32) (x4 : Int32) (p0 : 0 ≤ x3.toInt ∧ x3.toInt ≤ 160) : pm_Mt l g 147 2 0 0 [.ref (q 8), .ref (q o1), .ref (q 2), .int x3, .int x4] (cw A0 g K nn dn q w e v f) (cw_Qs A0 g K nn dn q w e (fun r v2 f2 => ∃ x : Int32, r = some (.int x) ∧ (-1 ≤ x.toInt ∧ x.toInt ≤ 159))) := by
  refine mt_X3_shortestBestEnd rfl (fun J hC => ?_)
  have ro_nn : cw_ro K nn := hI.2.1.2.1
  have ro_dn : cw_ro K dn := hI.2.1.2.2.1
  have hu1 := hI.2.1
  unfold cw_W at hu1
  have rg_x3 := pm_rng x3
  have rg_x4 := pm_rng x4
  have zz0 := cw_sz hI ho1
  refine hC.1 0 0 _ _ rfl _ _ _ _ _ ?_
  refine And.intro (Exists.intro _ (cw_o2 hI.1)) (Exists.intro _ (Exists.intro _ (Exists.intro _ (Exists.intro _ (And.intro (c_X2_clear hI hs  ) (And.intro rfl (fun r9 A9 h9 => ?_)))))))
  rcases h9 with ⟨v3, f3, rfl, hs3, rfl, by2⟩
  have lp5 : ∀ (n : Nat) (z5_7 : Int32) (v4 : Nat → Int32) (f4 : Nat → Nat → Int32), cw_S v4 f4 → (0 ≤ z5_7.toInt ∧ z5_7.toInt ≤ 160) → 200 - z5_7.toInt < (n : Int) → J 7 [some (.ref (q 8)), some (.ref (q o1)), some (.ref (q 2)), some (.int x3), some (.int x4), some (.int z5_7), none] [] (cw A0 g K nn dn q w e v4 f4) 0 0 := by
    intro n
    induction n with
    | zero =>
      intro z5_7 v4 f4 hs4 j0_7 j1_7
      omega
    | succ n ih6 =>
      intro z5_7 v4 f4 hs4 j0_7 j1_7
      refine hC.1 1 7 _ _ rfl _ _ _ _ _ ?_
      refine Exists.intro _ (And.intro (cw_ro_o hI.1 ho1) ?_)
      have z7 := cw_sz hI ho1
      refine And.intro (fun c8 => ?_) (fun c8 => ?_)
      · skip
        refine hC.1 3 73 _ _ rfl _ _ _ _ _ ?_
        have km1 : (-1 : Int32).toInt = -1 := rfl
        exact ⟨rfl, fun e9 => absurd e9 (by decide), rfl, v4, f4, rfl, hs4, (-1 : Int32), rfl, by first | omega | (dsimp only; omega) | trivial⟩
      · skip
        refine Exists.intro _ (And.intro (cw_ro_o hI.1 ho1) ?_)
        refine Exists.intro _ (Exists.intro _ (And.intro (Or.inl (cw_ro_1 hI.1 ho1)) (And.intro (by omega) ?_)))
        have w9 := cw_col hI ho1 (z5_7).toInt.toNat
        refine And.intro (Exists.intro _ (cw_o2 hI.1)) (Exists.intro _ (Exists.intro _ (Exists.intro _ (Exists.intro _ (And.intro (c_X2_take hI hs4 (e (o1 + 1) (z5_7).toInt.toNat) (by omega)) (And.intro rfl (fun r9 A9 h9 => ?_)))))))
        rcases h9 with ⟨v11, f11, rfl, hs11, rfl, by10⟩
        have k1 : (1 : Int32).toInt = 1 := rfl
        intro m12 em_31
        try have e12 : m12.toInt = (x4).toInt - (1) := by rw [em_31]; exact pm_subc _ _ (1) rfl (by omega) (by omega)
        intro m13 em_35
        try have e13 : m13.toInt = (z5_7).toInt + (1) := by rw [em_35]; exact pm_addc _ _ (1) rfl (by omega) (by omega)
        refine And.intro (Exists.intro _ (cw_o8 hI.1)) (Exists.intro _ (Exists.intro _ (Exists.intro _ (Exists.intro _ (And.intro (c_X3_worthOf hI hs11 m12 m13 ) (And.intro rfl (fun r9 A9 h9 => ?_)))))))
        obtain ⟨y14, rfl, rfl, by14⟩ := h9
        have km1 : (-1 : Int32).toInt = -1 := rfl
        refine And.intro (fun c16 => ?_) (fun c16 => ?_)
        · skip
          have dc16 : (y14).toInt = ((-1 : Int32) : Int32).toInt := congrArg Int32.toInt c16
          refine hC.1 2 67 _ _ rfl _ _ _ _ _ ?_
          intro m17 em_67
          try have e17 : m17.toInt = (z5_7).toInt + (1) := by rw [em_67]; exact pm_addc _ _ (1) rfl (by omega) (by omega)
          exact hC.2 [false, false, false, false, false, false, true] _ _ _ _ _ _ (ih6 m17 v11 f11 hs11 (by omega) (by omega))
        · skip
          have dc16 := pm_neI c16
          refine Exists.intro _ (And.intro (cw_o2 hI.1) ?_)
          intro m18 em_53
          try have e18 : m18.toInt = ((v11 2)).toInt + (y14).toInt := by rw [em_53]; exact pm_add _ _ (by omega) (by omega)
          refine And.intro (Exists.intro _ (cw_o8 hI.1)) (Exists.intro _ (Exists.intro _ (Exists.intro _ (Exists.intro _ (And.intro (c_X3_worthOf hI hs11 x4 x3 ) (And.intro rfl (fun r9 A9 h9 => ?_)))))))
          obtain ⟨y19, rfl, rfl, by19⟩ := h9
          refine And.intro (fun c21 => ?_) (fun c21 => ?_)
          · skip
            have dc21 := pm_neI c21
            refine hC.1 2 67 _ _ rfl _ _ _ _ _ ?_
            intro m22 em_67
            try have e22 : m22.toInt = (z5_7).toInt + (1) := by rw [em_67]; exact pm_addc _ _ (1) rfl (by omega) (by omega)
            exact hC.2 [false, false, false, false, false, false, true] _ _ _ _ _ _ (ih6 m22 v11 f11 hs11 (by omega) (by omega))
          · skip
            have dc21 : (m18).toInt = (y19 : Int32).toInt := congrArg Int32.toInt c21
            exact ⟨rfl, fun e9 => absurd e9 (by decide), rfl, v11, f11, rfl, hs11, z5_7, rfl, by first | omega | (dsimp only; omega) | trivial⟩
  exact lp5 (200 - x3.toInt).toNat.succ x3 v3 f3 hs3 (by omega) (by omega)

end
