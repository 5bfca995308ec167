section
variable {l : Launch} {g : pm_G} {A0 : pm_H} {h : Nat} {q : Nat → Nat}
set_option maxRecDepth 100000 in
set_option maxHeartbeats 2000000 in
theorem c_X11_even (D : md_D h q) (v : Nat → Int32) (f : Nat → Nat → Int32) (hv : md_V v) (hf : md_F f) (x1 : Int32) (x2 : Int32)  : pm_Mt l g 245 2 0 0 [.ref h, .int x1, .int x2] (md A0 g h q v f) (md_Qp (md A0 g h q v f) (fun r => True)) := by
  refine mt_X11_even rfl (fun J hC => ?_)
  have hv9 := hv
  unfold md_V at hv9
  have rg_x1 := pm_rng x1
  have rg_x2 := pm_rng x2
  refine hC.1 0 0 _ _ rfl _ _ _ _ _ ?_
  refine And.intro (Exists.intro _ md_o) (Exists.intro _ (Exists.intro _ (Exists.intro _ (Exists.intro _ (And.intro (c_X11_isSpan D v f hv hf x1 x2 ) (And.intro rfl (fun r9 A9 h9 => ?_)))))))
  rcases h9 with ⟨y1, rfl, rfl, ⟨rfl, by1⟩ | ⟨rfl, by1⟩⟩
  · skip
    have k1 : (1 : Int32).toInt = 1 := rfl
    refine And.intro (fun _ => ?_) (fun c9 => absurd c9 (by decide))
    refine hC.1 1 11 _ _ rfl _ _ _ _ _ ?_
    have km1 : (-1 : Int32).toInt = -1 := rfl
    have k268435456 : (268435456 : Int32).toInt = 268435456 := rfl
    have lp2 : ∀ (n : Nat) (z3_20 : Int32) (z4_20 : Int32) (z5_20 : Int32), (x1.toInt ≤ z5_20.toInt ∧ z5_20.toInt ≤ x2.toInt) → 200 - z5_20.toInt < (n : Int) → J 20 [some (.ref h), some (.int x1), some (.int x2), some (.int z3_20), some (.int z4_20), some (.int z5_20), none, none] [] (md A0 g h q v f) 0 0 := by
      intro n
      induction n with
      | zero =>
        intro z3_20 z4_20 z5_20 j0_20 j1_20
        omega
      | succ n ih3 =>
        intro z3_20 z4_20 z5_20 j0_20 j1_20
        refine hC.1 2 20 _ _ rfl _ _ _ _ _ ?_
        refine And.intro (fun c4 => ?_) (fun c4 => ?_)
        · skip
          refine hC.1 7 83 _ _ rfl _ _ _ _ _ ?_
          exact ⟨rfl, fun e9 => absurd e9 (by decide), rfl, z3_20, rfl, rfl, by exact True.intro⟩
        · skip
          refine And.intro (Exists.intro _ md_o) (Exists.intro _ (Exists.intro _ (Exists.intro _ (Exists.intro _ (And.intro (c_X11_countOf D v f hv hf x1 z5_20 (by omega) (by omega)) (And.intro rfl (fun r9 A9 h9 => ?_)))))))
          obtain ⟨y5, rfl, rfl, by5⟩ := h9
          intro m6 em_37
          try have e6 : m6.toInt = (z5_20).toInt + (1) := by rw [em_37]; exact pm_addc _ _ (1) rfl (by omega) (by omega)
          refine And.intro (Exists.intro _ md_o) (Exists.intro _ (Exists.intro _ (Exists.intro _ (Exists.intro _ (And.intro (c_X11_countOf D v f hv hf m6 x2 (by omega) (by omega)) (And.intro rfl (fun r9 A9 h9 => ?_)))))))
          obtain ⟨y7, rfl, rfl, by7⟩ := h9
          intro m8 em_42
          try have e8 : m8.toInt = (y5).toInt - (y7).toInt := by rw [em_42]; exact pm_sub _ _ (by omega) (by omega)
          refine And.intro (fun c9 => ?_) (fun c9 => ?_)
          · skip
            refine hC.1 3 56 _ _ rfl _ _ _ _ _ ?_
            refine hC.1 4 58 _ _ rfl _ _ _ _ _ ?_
            refine And.intro (fun c10 => ?_) (fun c10 => ?_)
            · skip
              refine hC.1 5 70 _ _ rfl _ _ _ _ _ ?_
              refine hC.1 6 77 _ _ rfl _ _ _ _ _ ?_
              intro m11 em_77
              try have e11 : m11.toInt = (z5_20).toInt + (1) := by rw [em_77]; exact pm_addc _ _ (1) rfl (by omega) (by omega)
              exact hC.2 [false, false, false, false, false, false, true, true] _ _ _ _ _ _ (ih3 z5_20 m8 m11 (by omega) (by omega))
            · skip
              refine hC.1 6 77 _ _ rfl _ _ _ _ _ ?_
              intro m12 em_77
              try have e12 : m12.toInt = (z5_20).toInt + (1) := by rw [em_77]; exact pm_addc _ _ (1) rfl (by omega) (by omega)
              exact hC.2 [false, false, false, false, false, false, true, true] _ _ _ _ _ _ (ih3 z3_20 z4_20 m12 (by omega) (by omega))
          · skip
            intro m13 em_52
            refine hC.1 4 58 _ _ rfl _ _ _ _ _ ?_
            refine And.intro (fun c14 => ?_) (fun c14 => ?_)
            · skip
              refine hC.1 5 70 _ _ rfl _ _ _ _ _ ?_
              refine hC.1 6 77 _ _ rfl _ _ _ _ _ ?_
              intro m15 em_77
              try have e15 : m15.toInt = (z5_20).toInt + (1) := by rw [em_77]; exact pm_addc _ _ (1) rfl (by omega) (by omega)
              exact hC.2 [false, false, false, false, false, false, true, true] _ _ _ _ _ _ (ih3 z5_20 m13 m15 (by omega) (by omega))
            · skip
              refine hC.1 6 77 _ _ rfl _ _ _ _ _ ?_
              intro m16 em_77
              try have e16 : m16.toInt = (z5_20).toInt + (1) := by rw [em_77]; exact pm_addc _ _ (1) rfl (by omega) (by omega)
              exact hC.2 [false, false, false, false, false, false, true, true] _ _ _ _ _ _ (ih3 z3_20 z4_20 m16 (by omega) (by omega))
    exact lp2 (200 - x1.toInt).toNat.succ (-1 : Int32) (268435456 : Int32) x1 (by omega) (by omega)
  · skip
    have k0 : (0 : Int32).toInt = 0 := rfl
    refine And.intro (fun c9 => absurd c9 (by decide)) (fun _ => ?_)
    have km1 : (-1 : Int32).toInt = -1 := rfl
    exact ⟨rfl, fun e9 => absurd e9 (by decide), rfl, (-1 : Int32), rfl, rfl, by exact True.intro⟩

end
