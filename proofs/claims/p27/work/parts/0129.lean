section
variable {l : Launch} {g : pm_G} {A0 : pm_H} {h : Nat} {q : Nat → Nat}
set_option maxRecDepth 100000 in
set_option maxHeartbeats 2000000 in
theorem c_X11_setOf (D : md_D h q) (v : Nat → Int32) (f : Nat → Nat → Int32) (hv : md_V v) (hf : md_F f) (x1 : Int32) (x2 : Int32) (p0 : 0 ≤ x1.toInt ∧ x1.toInt ≤ 160) (p1 : -1 ≤ x2.toInt ∧ x2.toInt < 160) : pm_Mt l g 206 0 0 0 [.ref h, .int x1, .int x2] (md A0 g h q v f) (md_Qp (md A0 g h q v f) (fun r => r = setF (f 0) x1.toInt.toNat (x2.toInt + 1 - x1.toInt).toNat)) := by
  refine mt_X11_setOf rfl (fun J hC => ?_)
  have hv9 := hv
  unfold md_V at hv9
  have rg_x1 := pm_rng x1
  have rg_x2 := pm_rng x2
  refine hC.1 0 0 _ _ rfl _ _ _ _ _ ?_
  have k0 : (0 : Int32).toInt = 0 := rfl
  have lp1 : ∀ (n : Nat) (z3_5 : Int32) (z4_5 : Int32), (x1.toInt ≤ z4_5.toInt ∧ z4_5.toInt ≤ 161 ∧ (z4_5.toInt ≤ x2.toInt + 1 ∨ z4_5.toInt = x1.toInt)) → (z3_5 = setF (f 0) x1.toInt.toNat (z4_5.toInt - x1.toInt).toNat) → 200 - z4_5.toInt < (n : Int) → J 5 [some (.ref h), some (.int x1), some (.int x2), some (.int z3_5), some (.int z4_5)] [] (md A0 g h q v f) 0 0 := by
    intro n
    induction n with
    | zero =>
      intro z3_5 z4_5 j0_5 j1_5 j2_5
      omega
    | succ n ih2 =>
      intro z3_5 z4_5 j0_5 j1_5 j2_5
      refine hC.1 1 5 _ _ rfl _ _ _ _ _ ?_
      refine And.intro (fun c3 => ?_) (fun c3 => ?_)
      · skip
        refine hC.1 2 29 _ _ rfl _ _ _ _ _ ?_
        exact ⟨rfl, fun e9 => absurd e9 (by decide), rfl, z3_5, rfl, rfl, by rw [j1_5]; congr 1; omega⟩
      · skip
        have k1 : (1 : Int32).toInt = 1 := rfl
        refine Exists.intro _ (And.intro md_o ?_)
        refine Exists.intro _ (Exists.intro _ (And.intro (Or.inl (md_a_colours D)) (And.intro (by omega) ?_)))
        have w4 : (0 : Int) ≤ (f 0 (z4_5).toInt.toNat).toInt ∧ (f 0 (z4_5).toInt.toNat).toInt ≤ (23 : Int) := hf 0 _
        intro m5 em_23
        try have e5 : m5.toInt = (z4_5).toInt + (1) := by rw [em_23]; exact pm_addc _ _ (1) rfl (by omega) (by omega)
        exact ih2 (z3_5 ||| ((1 : Int32) <<< ((f 0 (z4_5).toInt.toNat) &&& 31))) m5 (by omega) (by rw [j1_5]; exact setF_s (m := m5) (by omega) (by omega)) (by omega)
  exact lp1 (200 - x1.toInt).toNat.succ (0 : Int32) x1 (by omega) (by rw [show (x1.toInt - x1.toInt).toNat = 0 by omega]; rfl) (by omega)

set_option maxRecDepth 100000 in
set_option maxHeartbeats 2000000 in
theorem c_X11_countOf (D : md_D h q) (v : Nat → Int32) (f : Nat → Nat → Int32) (hv : md_V v) (hf : md_F f) (x1 : Int32) (x2 : Int32) (p0 : 0 ≤ x1.toInt ∧ x1.toInt ≤ 160) (p1 : -1 ≤ x2.toInt ∧ x2.toInt < 160) : pm_Mt l g 209 1 0 0 [.ref h, .int x1, .int x2] (md A0 g h q v f) (md_Qp (md A0 g h q v f) (fun r => True)) := by
  refine mt_X11_countOf rfl (fun J hC => ?_)
  have hv9 := hv
  unfold md_V at hv9
  have rg_x1 := pm_rng x1
  have rg_x2 := pm_rng x2
  refine hC.1 0 0 _ _ rfl _ _ _ _ _ ?_
  refine And.intro (Exists.intro _ md_o) (Exists.intro _ (Exists.intro _ (Exists.intro _ (Exists.intro _ (And.intro (c_X11_setOf D v f hv hf x1 x2 (by omega) (by omega)) (And.intro rfl (fun r9 A9 h9 => ?_)))))))
  obtain ⟨y1, rfl, rfl, by1⟩ := h9
  refine Exists.intro _ (Exists.intro _ (Exists.intro _ (Exists.intro _ (And.intro (c_X11_bits (md A0 g h q v f) y1 ) (And.intro rfl (fun r9 A9 h9 => ?_))))))
  obtain ⟨y2, rfl, rfl, by2⟩ := h9
  exact ⟨rfl, fun e9 => absurd e9 (by decide), rfl, y2, rfl, rfl, by exact True.intro⟩

end
