section
variable {l : Launch} {g : pm_G} {A0 : pm_H} {h : Nat} {q : Nat → Nat}
set_option maxRecDepth 100000 in
set_option maxHeartbeats 2000000 in
theorem F_X11_match (D : md_D h q) (v : Nat → Int32) (f : Nat → Nat → Int32) (hv : md_V v) (hf : md_F f) (x1 : Int32) (x2 : Int32) (x3 : Int32)  : pm_Mt l g 267 2 0 0 [.ref h, .int x1, .int x2, .int x3] (md A0 g h q v f) (md_Qw A0 g h q f (fun r v2 f2 => f2 0 = f 0 ∧ f2 1 = f 1 ∧ (v2 0).toInt = (v 0).toInt ∧ (v2 1).toInt = (v 1).toInt ∧ (v2 2).toInt = (v 2).toInt ∧ (v2 3).toInt = (v 3).toInt ∧ (v2 4).toInt = (v 4).toInt ∧ (v2 6).toInt = (v 6).toInt)) := by
  refine mt_X11_match rfl (fun J hC => ?_)
  have hv9 := hv
  unfold md_V at hv9
  have rg_x1 := pm_rng x1
  have rg_x2 := pm_rng x2
  have rg_x3 := pm_rng x3
  refine hC.1 0 0 _ _ rfl _ _ _ _ _ ?_
  refine And.intro (Exists.intro _ md_o) (Exists.intro _ (Exists.intro _ (Exists.intro _ (Exists.intro _ (And.intro (c_X11_isSpan D v f hv hf x1 x2 ) (And.intro rfl (fun r9 A9 h9 => ?_)))))))
  rcases h9 with ⟨y1, rfl, rfl, ⟨rfl, by1⟩ | ⟨rfl, by1⟩⟩
  · skip
    have k1 : (1 : Int32).toInt = 1 := rfl
    refine And.intro (fun c9 => absurd c9 (by decide)) (fun _ => ?_)
    have km1 : (-1 : Int32).toInt = -1 := rfl
    refine And.intro (fun c2 => ?_) (fun c2 => ?_)
    · skip
      refine hC.1 2 16 _ _ rfl _ _ _ _ _ ?_
      refine And.intro (Exists.intro _ md_o) (Exists.intro _ (Exists.intro _ (Exists.intro _ (Exists.intro _ (And.intro (F_X11_layGaps D v f hv hf  ) (And.intro rfl (fun r9 A9 h9 => ?_)))))))
      obtain ⟨v4, f4, rfl, rfl, hv4, hf4, hx4, hg4_0, hg4_1, by3⟩ := h9
      have hw4 : f4 2 = f 2 := hx4.trans rfl
      have hr4_0 : f4 0 = f 0 := hg4_0.trans rfl
      have hr4_1 : f4 1 = f 1 := hg4_1.trans rfl
      have hu5 := hv4
      unfold md_V at hu5
      intro m6 em_22
      try have e6 : m6.toInt = (x2).toInt - (x1).toInt := by rw [em_22]; exact pm_sub _ _ (by omega) (by omega)
      intro m7 em_24
      try have e7 : m7.toInt = (m6).toInt + (1) := by rw [em_24]; exact pm_addc _ _ (1) rfl (by omega) (by omega)
      have k0 : (0 : Int32).toInt = 0 := rfl
      have lp8 : ∀ (n : Nat) (z5_33 : Int32) (z6_33 : Int32), (0 ≤ z6_33.toInt ∧ z6_33.toInt ≤ 161) → 200 - z6_33.toInt < (n : Int) → J 33 [some (.ref h), some (.int x1), some (.int x2), some (.int x3), some (.int m7), some (.int z5_33), some (.int z6_33)] [] (md A0 g h q v4 f4) 0 0 := by
        intro n
        induction n with
        | zero =>
          intro z5_33 z6_33 j0_33 j1_33
          omega
        | succ n ih9 =>
          intro z5_33 z6_33 j0_33 j1_33
          refine hC.1 3 33 _ _ rfl _ _ _ _ _ ?_
          intro m10 em_37
          try have e10 : m10.toInt = (z6_33).toInt + (m7).toInt := by rw [em_37]; exact pm_add _ _ (by omega) (by omega)
          refine Exists.intro _ (And.intro md_o ?_)
          refine And.intro (fun c11 => ?_) (fun c11 => ?_)
          · skip
            refine hC.1 7 80 _ _ rfl _ _ _ _ _ ?_
            refine And.intro (fun c12 => ?_) (fun c12 => ?_)
            · skip
              have dc12 := pm_neI c12
              refine hC.1 8 90 _ _ rfl _ _ _ _ _ ?_
              refine hC.1 9 91 _ _ rfl _ _ _ _ _ ?_
              exact ⟨rfl, fun e9 => absurd e9 (by decide), rfl, (-1 : Int32), v4, f4, rfl, rfl, hv4, hf4, hw4, hr4_0, hr4_1, by first | omega | (dsimp only; omega) | trivial⟩
            · skip
              have dc12 : (x3).toInt = ((-1 : Int32) : Int32).toInt := congrArg Int32.toInt c12
              refine hC.1 9 91 _ _ rfl _ _ _ _ _ ?_
              exact ⟨rfl, fun e9 => absurd e9 (by decide), rfl, z5_33, v4, f4, rfl, rfl, hv4, hf4, hw4, hr4_0, hr4_1, by first | omega | (dsimp only; omega) | trivial⟩
          · skip
            refine And.intro (Exists.intro _ md_o) (Exists.intro _ (Exists.intro _ (Exists.intro _ (Exists.intro _ (And.intro (c_X11_matched D v4 f4 hv4 hf4 x1 z6_33 m7 (by omega) (by omega) (by omega)) (And.intro rfl (fun r9 A9 h9 => ?_)))))))
            obtain ⟨y13, rfl, rfl, by13⟩ := h9
            refine And.intro (fun c14 => ?_) (fun c14 => ?_)
            · skip
              refine hC.1 4 62 _ _ rfl _ _ _ _ _ ?_
              refine And.intro (fun c15 => ?_) (fun c15 => ?_)
              · skip
                have dc15 := pm_neI c15
                refine hC.1 5 71 _ _ rfl _ _ _ _ _ ?_
                intro m16 em_71
                try have e16 : m16.toInt = (z5_33).toInt + (1) := by rw [em_71]; exact pm_addc _ _ (1) rfl (by omega) (by omega)
                refine hC.1 6 74 _ _ rfl _ _ _ _ _ ?_
                intro m17 em_74
                try have e17 : m17.toInt = (z6_33).toInt + (1) := by rw [em_74]; exact pm_addc _ _ (1) rfl (by omega) (by omega)
                exact ih9 m16 m17 (by omega) (by omega)
              · skip
                have dc15 : (z5_33).toInt = (x3 : Int32).toInt := congrArg Int32.toInt c15
                exact ⟨rfl, fun e9 => absurd e9 (by decide), rfl, z6_33, v4, f4, rfl, rfl, hv4, hf4, hw4, hr4_0, hr4_1, by first | omega | (dsimp only; omega) | trivial⟩
            · skip
              refine hC.1 6 74 _ _ rfl _ _ _ _ _ ?_
              intro m18 em_74
              try have e18 : m18.toInt = (z6_33).toInt + (1) := by rw [em_74]; exact pm_addc _ _ (1) rfl (by omega) (by omega)
              exact ih9 z5_33 m18 (by omega) (by omega)
      exact lp8 (200 - (0 : Int32).toInt).toNat.succ (0 : Int32) (0 : Int32) (by omega) (by omega)
    · skip
      refine hC.1 1 14 _ _ rfl _ _ _ _ _ ?_
      exact ⟨rfl, fun e9 => absurd e9 (by decide), rfl, (-1 : Int32), v, f, rfl, rfl, hv, hf, rfl, rfl, rfl, by first | omega | (dsimp only; omega) | trivial⟩
  · skip
    have k0 : (0 : Int32).toInt = 0 := rfl
    refine And.intro (fun _ => ?_) (fun c9 => absurd c9 (by decide))
    refine hC.1 1 14 _ _ rfl _ _ _ _ _ ?_
    have km1 : (-1 : Int32).toInt = -1 := rfl
    exact ⟨rfl, fun e9 => absurd e9 (by decide), rfl, (-1 : Int32), v, f, rfl, rfl, hv, hf, rfl, rfl, rfl, by first | omega | (dsimp only; omega) | trivial⟩

end
