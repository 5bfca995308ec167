section
variable {l : Launch} {g : pm_G} {A0 : pm_H} {h : Nat} {q : Nat → Nat}
set_option maxRecDepth 100000 in
set_option maxHeartbeats 2000000 in
theorem c_X11_alike (D : md_D h q) (v : Nat → Int32) (f : Nat → Nat → Int32) (hv : md_V v) (hf : md_F f) (x1 : Int32) (x2 : Int32)  : pm_Mt l g 244 1 0 0 [.ref h, .int x1, .int x2] (md A0 g h q v f) (md_Qp (md A0 g h q v f) (fun r => True)) := by
  refine mt_X11_alike rfl (fun J hC => ?_)
  have hv9 := hv
  unfold md_V at hv9
  have rg_x1 := pm_rng x1
  have rg_x2 := pm_rng x2
  refine hC.1 0 0 _ _ rfl _ _ _ _ _ ?_
  refine And.intro (Exists.intro _ md_o) (Exists.intro _ (Exists.intro _ (Exists.intro _ (Exists.intro _ (And.intro (c_X11_isSpan D v f hv hf x1 x2 ) (And.intro rfl (fun r9 A9 h9 => ?_)))))))
  rcases h9 with ⟨y1, rfl, rfl, ⟨rfl, by1⟩ | ⟨rfl, by1⟩⟩
  · skip
    have k1 : (1 : Int32).toInt = 1 := rfl
    refine And.intro (fun _ => ?_) (fun c9 => absurd c9 (by decide))
    refine hC.1 1 11 _ _ rfl _ _ _ _ _ ?_
    have k0 : (0 : Int32).toInt = 0 := rfl
    have lp2 : ∀ (n : Nat) (z3_16 : Int32) (z4_16 : Int32), (x1.toInt ≤ z4_16.toInt ∧ z4_16.toInt ≤ x2.toInt + 1) → 200 - z4_16.toInt < (n : Int) → J 16 [some (.ref h), some (.int x1), some (.int x2), some (.int z3_16), some (.int z4_16)] [] (md A0 g h q v f) 0 0 := by
      intro n
      induction n with
      | zero =>
        intro z3_16 z4_16 j0_16 j1_16
        omega
      | succ n ih3 =>
        intro z3_16 z4_16 j0_16 j1_16
        refine hC.1 2 16 _ _ rfl _ _ _ _ _ ?_
        refine And.intro (fun c4 => ?_) (fun c4 => ?_)
        · skip
          refine hC.1 3 47 _ _ rfl _ _ _ _ _ ?_
          exact ⟨rfl, fun e9 => absurd e9 (by decide), rfl, z3_16, rfl, rfl, by exact True.intro⟩
        · skip
          intro m5 em_28
          try have e5 : m5.toInt = (z4_16).toInt - (1) := by rw [em_28]; exact pm_subc _ _ (1) rfl (by omega) (by omega)
          refine Exists.intro _ (And.intro md_o ?_)
          refine Exists.intro _ (Exists.intro _ (And.intro (Or.inl (md_a_colours D)) (And.intro (by omega) ?_)))
          have w6 : (0 : Int) ≤ (f 0 (z4_16).toInt.toNat).toInt ∧ (f 0 (z4_16).toInt.toNat).toInt ≤ (23 : Int) := hf 0 _
          refine And.intro (Exists.intro _ md_o) (Exists.intro _ (Exists.intro _ (Exists.intro _ (Exists.intro _ (And.intro (c_X11_timesIn D v f hv hf x1 m5 (f 0 (z4_16).toInt.toNat) (by omega) (by omega)) (And.intro rfl (fun r9 A9 h9 => ?_)))))))
          obtain ⟨y7, rfl, rfl, by7⟩ := h9
          intro m8 em_39
          try have e8 : m8.toInt = (z3_16).toInt + (y7).toInt := by rw [em_39]; exact pm_add _ _ (by omega) (by omega)
          intro m9 em_41
          try have e9 : m9.toInt = (z4_16).toInt + (1) := by rw [em_41]; exact pm_addc _ _ (1) rfl (by omega) (by omega)
          exact ih3 m8 m9 (by omega) (by omega)
    exact lp2 (200 - x1.toInt).toNat.succ (0 : Int32) x1 (by omega) (by omega)
  · skip
    have k0 : (0 : Int32).toInt = 0 := rfl
    refine And.intro (fun c9 => absurd c9 (by decide)) (fun _ => ?_)
    have km1 : (-1 : Int32).toInt = -1 := rfl
    exact ⟨rfl, fun e9 => absurd e9 (by decide), rfl, (-1 : Int32), rfl, rfl, by exact True.intro⟩

end
