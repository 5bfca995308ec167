section
variable {l : Launch} {g : pm_G} {A0 : pm_H} {h : Nat} {q : Nat → Nat}
set_option maxRecDepth 100000 in
set_option maxHeartbeats 2000000 in
theorem F_X11_best (D : md_D h q) (v : Nat → Int32) (f : Nat → Nat → Int32) (hv : md_V v) (hf : md_F f) (x1 : Int32) (x2 : Int32)  : pm_Mt l g 272 3 0 0 [.ref h, .int x1, .int x2] (md A0 g h q v f) (md_Qw A0 g h q f (fun r v2 f2 => f2 0 = f 0 ∧ f2 1 = f 1 ∧ (v2 0).toInt = (v 0).toInt ∧ (v2 1).toInt = (v 1).toInt ∧ (v2 2).toInt = (v 2).toInt ∧ (v2 3).toInt = (v 3).toInt ∧ (v2 4).toInt = (v 4).toInt ∧ (v2 6).toInt = (v 6).toInt)) := by
  refine mt_X11_best rfl (fun J hC => ?_)
  have hv9 := hv
  unfold md_V at hv9
  have rg_x1 := pm_rng x1
  have rg_x2 := pm_rng x2
  refine hC.1 0 0 _ _ rfl _ _ _ _ _ ?_
  have k1 : (1 : Int32).toInt = 1 := rfl
  have k8 : (8 : Int32).toInt = 8 := rfl
  refine Exists.intro _ (Exists.intro _ (Exists.intro _ (Exists.intro _ (And.intro (c_X11_isIn (md A0 g h q v f) x1 (1 : Int32) (8 : Int32) ) (And.intro rfl (fun r9 A9 h9 => ?_))))))
  rcases h9 with ⟨y1, rfl, rfl, ⟨rfl, by1⟩ | ⟨rfl, by1⟩⟩
  · skip
    refine And.intro (fun c9 => absurd c9 (by decide)) (fun _ => ?_)
    refine Exists.intro _ (And.intro md_o ?_)
    refine And.intro (fun c2 => ?_) (fun c2 => ?_)
    · skip
      refine hC.1 1 29 _ _ rfl _ _ _ _ _ ?_
      have km1 : (-1 : Int32).toInt = -1 := rfl
      exact ⟨rfl, fun e9 => absurd e9 (by decide), rfl, (-1 : Int32), v, f, rfl, rfl, hv, hf, rfl, rfl, rfl, by first | omega | (dsimp only; omega) | trivial⟩
    · skip
      have km1 : (-1 : Int32).toInt = -1 := rfl
      intro m3 em_22
      try have e3 : m3.toInt = (x1).toInt - (1) := by rw [em_22]; exact pm_subc _ _ (1) rfl (by omega) (by omega)
      refine Exists.intro _ (Exists.intro _ (Exists.intro _ (Exists.intro _ (And.intro (c_X11_isIn (md A0 g h q v f) x2 (-1 : Int32) m3 ) (And.intro rfl (fun r9 A9 h9 => ?_))))))
      rcases h9 with ⟨y4, rfl, rfl, ⟨rfl, by4⟩ | ⟨rfl, by4⟩⟩
      · skip
        refine And.intro (fun _ => ?_) (fun c9 => absurd c9 (by decide))
        refine hC.1 2 31 _ _ rfl _ _ _ _ _ ?_
        refine And.intro (Exists.intro _ md_o) (Exists.intro _ (Exists.intro _ (Exists.intro _ (Exists.intro _ (And.intro (F_X11_layBest D v f hv hf x1 (by omega)) (And.intro rfl (fun r9 A9 h9 => ?_)))))))
        obtain ⟨v6, f6, rfl, rfl, hv6, hf6, hx6, hg6_0, hg6_1, by5⟩ := h9
        have hw6 : f6 2 = f 2 := hx6.trans rfl
        have hr6_0 : f6 0 = f 0 := hg6_0.trans rfl
        have hr6_1 : f6 1 = f 1 := hg6_1.trans rfl
        have hu7 := hv6
        unfold md_V at hu7
        have k161 : (161 : Int32).toInt = 161 := rfl
        refine And.intro (fun c8 => ?_) (fun c8 => ?_)
        · skip
          have dc8 := pm_neI c8
          refine hC.1 3 54 _ _ rfl _ _ _ _ _ ?_
          have k0 : (0 : Int32).toInt = 0 := rfl
          have lp9 : ∀ (n : Nat) (z4_60 : Int32) (z5_60 : Int32), (0 ≤ z4_60.toInt ∧ z4_60.toInt ≤ 160) → (0 ≤ z5_60.toInt ∧ z5_60.toInt ≤ x1.toInt) → z5_60.toInt < (n : Int) → J 60 [some (.ref h), some (.int x1), some (.int x2), some (.int (161 : Int32)), some (.int z4_60), some (.int z5_60)] [] (md A0 g h q v6 f6) 0 0 := by
            intro n
            induction n with
            | zero =>
              intro z4_60 z5_60 j0_60 j1_60 j2_60
              omega
            | succ n ih10 =>
              intro z4_60 z5_60 j0_60 j1_60 j2_60
              refine hC.1 4 60 _ _ rfl _ _ _ _ _ ?_
              intro m11 em_64
              try have e11 : m11.toInt = (x1).toInt - (x2).toInt := by rw [em_64]; exact pm_sub _ _ (by omega) (by omega)
              refine And.intro (fun c12 => ?_) (fun c12 => ?_)
              · skip
                refine hC.1 5 90 _ _ rfl _ _ _ _ _ ?_
                refine Exists.intro _ (And.intro md_o ?_)
                intro m13 em_97
                try have e13 : m13.toInt = (x1).toInt - (x2).toInt := by rw [em_97]; exact pm_sub _ _ (by omega) (by omega)
                intro m14 em_98
                try have e14 : m14.toInt = (161) * (m13).toInt := by rw [em_98]; exact pm_mulk _ _ (161) rfl (by omega) (by omega)
                intro m15 em_101
                try have e15 : m15.toInt = (m14).toInt + (z4_60).toInt := by rw [em_101]; exact pm_add _ _ (by omega) (by omega)
                refine Exists.intro _ (Exists.intro _ (And.intro (Or.inl (md_a_ends0 D)) (And.intro (by omega) ?_)))
                have w16 : (0 : Int) ≤ (f6 19 (m15).toInt.toNat).toInt ∧ (f6 19 (m15).toInt.toNat).toInt ≤ (159 : Int) := hf6 19 _
                exact ⟨rfl, fun e9 => absurd e9 (by decide), rfl, (f6 19 (m15).toInt.toNat), v6, f6, rfl, rfl, hv6, hf6, hw6, hr6_0, hr6_1, by first | omega | (dsimp only; omega) | trivial⟩
              · skip
                refine Exists.intro _ (And.intro md_o ?_)
                intro m17 em_75
                try have e17 : m17.toInt = (161) * (z5_60).toInt := by rw [em_75]; exact pm_mulk _ _ (161) rfl (by omega) (by omega)
                intro m18 em_78
                try have e18 : m18.toInt = (m17).toInt + (z4_60).toInt := by rw [em_78]; exact pm_add _ _ (by omega) (by omega)
                refine Exists.intro _ (Exists.intro _ (And.intro (Or.inl (md_a_ends0 D)) (And.intro (by omega) ?_)))
                have w19 : (0 : Int) ≤ (f6 19 (m18).toInt.toNat).toInt ∧ (f6 19 (m18).toInt.toNat).toInt ≤ (159 : Int) := hf6 19 _
                intro m20 em_81
                try have e20 : m20.toInt = ((f6 19 (m18).toInt.toNat)).toInt + (1) := by rw [em_81]; exact pm_addc _ _ (1) rfl (by omega) (by omega)
                intro m21 em_84
                try have e21 : m21.toInt = (z5_60).toInt + (-1) := by rw [em_84]; exact pm_addc _ _ (-1) rfl (by omega) (by omega)
                exact ih10 m20 m21 (by omega) (by omega) (by omega)
          exact lp9 (x1.toInt).toNat.succ (0 : Int32) x1 (by omega) (by omega) (by omega)
        · skip
          have dc8 : (x2).toInt = ((-1 : Int32) : Int32).toInt := congrArg Int32.toInt c8
          refine Exists.intro _ (And.intro md_o ?_)
          intro m22 em_51
          try have e22 : m22.toInt = (161) * (x1).toInt := by rw [em_51]; exact pm_mulk _ _ (161) rfl (by omega) (by omega)
          refine Exists.intro _ (Exists.intro _ (And.intro (Or.inl (md_a_worth D)) (And.intro (by omega) ?_)))
          exact ⟨rfl, fun e9 => absurd e9 (by decide), rfl, (f6 18 (m22).toInt.toNat), v6, f6, rfl, rfl, hv6, hf6, hw6, hr6_0, hr6_1, by first | omega | (dsimp only; omega) | trivial⟩
      · skip
        have k0 : (0 : Int32).toInt = 0 := rfl
        refine And.intro (fun c9 => absurd c9 (by decide)) (fun _ => ?_)
        refine hC.1 1 29 _ _ rfl _ _ _ _ _ ?_
        exact ⟨rfl, fun e9 => absurd e9 (by decide), rfl, (-1 : Int32), v, f, rfl, rfl, hv, hf, rfl, rfl, rfl, by first | omega | (dsimp only; omega) | trivial⟩
  · skip
    have k0 : (0 : Int32).toInt = 0 := rfl
    refine And.intro (fun _ => ?_) (fun c9 => absurd c9 (by decide))
    refine hC.1 1 29 _ _ rfl _ _ _ _ _ ?_
    have km1 : (-1 : Int32).toInt = -1 := rfl
    exact ⟨rfl, fun e9 => absurd e9 (by decide), rfl, (-1 : Int32), v, f, rfl, rfl, hv, hf, rfl, rfl, rfl, by first | omega | (dsimp only; omega) | trivial⟩

end
