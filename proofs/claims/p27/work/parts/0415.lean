section
variable {l : Launch} {g : pm_G} {A0 : pm_H} {h : Nat} {q : Nat → Nat}
set_option maxRecDepth 100000 in
set_option maxHeartbeats 2000000 in
theorem F_X11_absent (D : md_D h q) (v : Nat → Int32) (f : Nat → Nat → Int32) (hv : md_V v) (hf : md_F f) (x1 : Int32) (x2 : Int32) (x3 : Int32)  : pm_Mt l g 223 1 0 0 [.ref h, .int x1, .int x2, .int x3] (md A0 g h q v f) (md_Qp (md A0 g h q v f) (fun r => ABS (f 0) (v 0).toInt x1.toInt x2.toInt x3.toInt r.toInt)) := by
  refine mt_X11_absent rfl (fun J hC => ?_)
  have hv9 := hv
  unfold md_V at hv9
  have rg_x1 := pm_rng x1
  have rg_x2 := pm_rng x2
  have rg_x3 := pm_rng x3
  refine hC.1 0 0 _ _ rfl _ _ _ _ _ ?_
  refine And.intro (Exists.intro _ md_o) (Exists.intro _ (Exists.intro _ (Exists.intro _ (Exists.intro _ (And.intro (c_X11_isSpan D v f hv hf x1 x2 ) (And.intro rfl (fun r9 A9 h9 => ?_)))))))
  rcases h9 with ⟨y1, rfl, rfl, ⟨rfl, by1⟩ | ⟨rfl, by1⟩⟩
  · skip
    have k1 : (1 : Int32).toInt = 1 := rfl
    refine And.intro (fun c9 => absurd c9 (by decide)) (fun _ => ?_)
    refine And.intro (fun c2 => ?_) (fun c2 => ?_)
    · skip
      refine hC.1 2 15 _ _ rfl _ _ _ _ _ ?_
      refine And.intro (Exists.intro _ md_o) (Exists.intro _ (Exists.intro _ (Exists.intro _ (Exists.intro _ (And.intro (c_X11_setOf D v f hv hf x1 x2 (by omega) (by omega)) (And.intro rfl (fun r9 A9 h9 => ?_)))))))
      obtain ⟨y3, rfl, rfl, by3⟩ := h9
      have hs9 : y3 = sS (f 0) x1.toInt x2.toInt := by3
      have k0 : (0 : Int32).toInt = 0 := rfl
      have lp4 : ∀ (n : Nat) (z5_29 : Int32) (z6_29 : Int32), (0 ≤ z6_29.toInt ∧ z6_29.toInt ≤ 24) → (0 ≤ z5_29.toInt ∧ z5_29.toInt = x3.toInt - (cn (bf y3) 0 z6_29.toInt.toNat : Int)) → (∀ i9 : Nat, (i9 : Int) < z6_29.toInt → ¬ (bf y3 i9 = 0 ∧ (cn (bf y3) 0 i9 : Int) = x3.toInt)) → 200 - z6_29.toInt < (n : Int) → J 29 [some (.ref h), some (.int x1), some (.int x2), some (.int x3), some (.int y3), some (.int z5_29), some (.int z6_29)] [] (md A0 g h q v f) 0 0 := by
        intro n
        induction n with
        | zero =>
          intro z5_29 z6_29 j0_29 j1_29 j2_29 j3_29
          omega
        | succ n ih5 =>
          intro z5_29 z6_29 j0_29 j1_29 j2_29 j3_29
          refine hC.1 3 29 _ _ rfl _ _ _ _ _ ?_
          have k24 : (24 : Int32).toInt = 24 := rfl
          refine And.intro (fun c6 => ?_) (fun c6 => ?_)
          · skip
            refine hC.1 7 67 _ _ rfl _ _ _ _ _ ?_
            have km1 : (-1 : Int32).toInt = -1 := rfl
            exact ⟨rfl, fun e9 => absurd e9 (by decide), rfl, (-1 : Int32), rfl, rfl, by refine Or.inr ⟨by omega, by omega, ?_⟩; rw [← hs9]; exact Or.inl ⟨rfl, fun i9 h9 => j2_29 i9 (by omega)⟩⟩
          · skip
            refine And.intro (fun c7 => ?_) (fun c7 => ?_)
            · skip
              have dc7 := pm_neI c7
              refine hC.1 4 50 _ _ rfl _ _ _ _ _ ?_
              refine And.intro (fun c8 => ?_) (fun c8 => ?_)
              · skip
                have dc8 := pm_neI c8
                refine hC.1 5 58 _ _ rfl _ _ _ _ _ ?_
                have km1 : (-1 : Int32).toInt = -1 := rfl
                intro m9 em_58
                try have e9 : m9.toInt = (z5_29).toInt + (-1) := by rw [em_58]; exact pm_addc _ _ (-1) rfl (by omega) (by omega)
                refine hC.1 6 61 _ _ rfl _ _ _ _ _ ?_
                intro m10 em_61
                try have e10 : m10.toInt = (z6_29).toInt + (1) := by rw [em_61]; exact pm_addc _ _ (1) rfl (by omega) (by omega)
                exact ih5 m9 m10 (by omega) (by rw [show m10.toInt.toNat = z6_29.toInt.toNat + 1 by omega]; first | (rw [cn_n (c := bf y3) (x := 0) (k := z6_29.toInt.toNat) (fun e9 => bf_0.mp e9 (b_y1 (x := y3) (c := z6_29) (by omega) (by assumption)))]; exact j1_29) | (rw [cn_y (c := bf y3) (x := 0) (k := z6_29.toInt.toNat) (bf_0.mpr (by rw [b_n (x := y3) (c := z6_29) (by omega) (by assumption)]; decide))]; omega)) (by intro i9 h9; by_cases h8 : i9 = z6_29.toInt.toNat; (subst h8; intro h7; first | (exact bf_0.mp h7.1 (b_y1 (x := y3) (c := z6_29) (by omega) (by assumption))) | omega); (exact j2_29 i9 (by omega))) (by omega)
              · skip
                have dc8 : (z5_29).toInt = (0 : Int32).toInt := congrArg Int32.toInt c8
                exact ⟨rfl, fun e9 => absurd e9 (by decide), rfl, z6_29, rfl, rfl, by refine Or.inr ⟨by omega, by omega, ?_⟩; rw [← hs9]; exact Or.inr ⟨by omega, by omega, (bf_0.mpr (by rw [b_n (x := y3) (c := z6_29) (by omega) (by assumption)]; decide)), by omega⟩⟩
            · skip
              have dc7 : (((y3 >>> (z6_29 &&& 31)) &&& (1 : Int32))).toInt = ((1 : Int32) : Int32).toInt := congrArg Int32.toInt c7
              refine hC.1 6 61 _ _ rfl _ _ _ _ _ ?_
              intro m11 em_61
              try have e11 : m11.toInt = (z6_29).toInt + (1) := by rw [em_61]; exact pm_addc _ _ (1) rfl (by omega) (by omega)
              exact ih5 z5_29 m11 (by omega) (by rw [show m11.toInt.toNat = z6_29.toInt.toNat + 1 by omega]; first | (rw [cn_n (c := bf y3) (x := 0) (k := z6_29.toInt.toNat) (fun e9 => bf_0.mp e9 (b_y1 (x := y3) (c := z6_29) (by omega) (by assumption)))]; exact j1_29) | (rw [cn_y (c := bf y3) (x := 0) (k := z6_29.toInt.toNat) (bf_0.mpr (by rw [b_n (x := y3) (c := z6_29) (by omega) (by assumption)]; decide))]; omega)) (by intro i9 h9; by_cases h8 : i9 = z6_29.toInt.toNat; (subst h8; intro h7; first | (exact bf_0.mp h7.1 (b_y1 (x := y3) (c := z6_29) (by omega) (by assumption))) | omega); (exact j2_29 i9 (by omega))) (by omega)
      exact lp4 (200 - (0 : Int32).toInt).toNat.succ x3 (0 : Int32) (by omega) (by exact ⟨by omega, by rw [show ((0 : Int32).toInt.toNat) = 0 from rfl]; show _ = _ - ((0 : Nat) : Int); omega⟩) (by intro i9 h9; omega) (by omega)
    · skip
      refine hC.1 1 13 _ _ rfl _ _ _ _ _ ?_
      have km1 : (-1 : Int32).toInt = -1 := rfl
      exact ⟨rfl, fun e9 => absurd e9 (by decide), rfl, (-1 : Int32), rfl, rfl, by exact Or.inl ⟨by omega, rfl⟩⟩
  · skip
    have k0 : (0 : Int32).toInt = 0 := rfl
    refine And.intro (fun _ => ?_) (fun c9 => absurd c9 (by decide))
    refine hC.1 1 13 _ _ rfl _ _ _ _ _ ?_
    have km1 : (-1 : Int32).toInt = -1 := rfl
    exact ⟨rfl, fun e9 => absurd e9 (by decide), rfl, (-1 : Int32), rfl, rfl, by exact Or.inl ⟨by omega, rfl⟩⟩

end
