section
variable {l : Launch} {g : pm_G} {A0 : pm_H} {h : Nat} {q : Nat → Nat}
set_option maxRecDepth 100000 in
set_option maxHeartbeats 2000000 in
theorem c_X11_farthest (D : md_D h q) (v : Nat → Int32) (f : Nat → Nat → Int32) (hv : md_V v) (hf : md_F f) (x1 : Int32) (x2 : Int32) (p0 : 0 ≤ x1.toInt ∧ x1.toInt ≤ (v 0).toInt) : pm_Mt l g 253 1 0 0 [.ref h, .int x1, .int x2] (md A0 g h q v f) (md_Qp (md A0 g h q v f) (fun r => x1.toInt - 1 ≤ r.toInt ∧ r.toInt < (v 0).toInt ∧ (x1.toInt < (v 0).toInt → 1 ≤ x2.toInt → x1.toInt ≤ r.toInt))) := by
  refine mt_X11_farthest rfl (fun J hC => ?_)
  have hv9 := hv
  unfold md_V at hv9
  have rg_x1 := pm_rng x1
  have rg_x2 := pm_rng x2
  refine hC.1 0 0 _ _ rfl _ _ _ _ _ ?_
  have k0 : (0 : Int32).toInt = 0 := rfl
  have lp1 : ∀ (n : Nat) (z3_5 : Int32) (z4_5 : Int32), (x1.toInt ≤ z4_5.toInt ∧ z4_5.toInt ≤ (v 0).toInt) → (z4_5.toInt = x1.toInt → z3_5 = 0) → 200 - z4_5.toInt < (n : Int) → J 5 [some (.ref h), some (.int x1), some (.int x2), some (.int z3_5), some (.int z4_5)] [] (md A0 g h q v f) 0 0 := by
    intro n
    induction n with
    | zero =>
      intro z3_5 z4_5 j0_5 j1_5 j2_5
      omega
    | succ n ih2 =>
      intro z3_5 z4_5 j0_5 j1_5 j2_5
      refine hC.1 1 5 _ _ rfl _ _ _ _ _ ?_
      refine Exists.intro _ (And.intro md_o ?_)
      refine And.intro (fun c3 => ?_) (fun c3 => ?_)
      · skip
        refine hC.1 2 50 _ _ rfl _ _ _ _ _ ?_
        have k1 : (1 : Int32).toInt = 1 := rfl
        intro m4 em_53
        try have e4 : m4.toInt = (z4_5).toInt - (1) := by rw [em_53]; exact pm_subc _ _ (1) rfl (by omega) (by omega)
        exact ⟨rfl, fun e9 => absurd e9 (by decide), rfl, m4, rfl, rfl, by first | omega | (dsimp only; omega) | trivial⟩
      · skip
        have k1 : (1 : Int32).toInt = 1 := rfl
        refine Exists.intro _ (And.intro md_o ?_)
        refine Exists.intro _ (Exists.intro _ (And.intro (Or.inl (md_a_colours D)) (And.intro (by omega) ?_)))
        have w5 : (0 : Int) ≤ (f 0 (z4_5).toInt.toNat).toInt ∧ (f 0 (z4_5).toInt.toNat).toInt ≤ (23 : Int) := hf 0 _
        refine Exists.intro _ (Exists.intro _ (Exists.intro _ (Exists.intro _ (And.intro (c_X11_bits (md A0 g h q v f) (z3_5 ||| ((1 : Int32) <<< ((f 0 (z4_5).toInt.toNat) &&& 31))) ) (And.intro rfl (fun r9 A9 h9 => ?_))))))
        obtain ⟨y6, rfl, rfl, by6⟩ := h9
        have hb9 : z4_5.toInt = x1.toInt → y6.toInt = 1 := fun e9 => by rw [by6 (by rw [j1_5 e9]; exact p2_one (by omega))]; rfl
        refine And.intro (fun c7 => ?_) (fun c7 => ?_)
        · skip
          refine hC.1 2 50 _ _ rfl _ _ _ _ _ ?_
          intro m8 em_53
          try have e8 : m8.toInt = (z4_5).toInt - (1) := by rw [em_53]; exact pm_subc _ _ (1) rfl (by omega) (by omega)
          exact ⟨rfl, fun e9 => absurd e9 (by decide), rfl, m8, rfl, rfl, by first | omega | (dsimp only; omega) | trivial⟩
        · skip
          refine Exists.intro _ (And.intro md_o ?_)
          refine Exists.intro _ (Exists.intro _ (And.intro (Or.inl (md_a_colours D)) (And.intro (by omega) ?_)))
          have w9 : (0 : Int) ≤ (f 0 (z4_5).toInt.toNat).toInt ∧ (f 0 (z4_5).toInt.toNat).toInt ≤ (23 : Int) := hf 0 _
          intro m10 em_44
          try have e10 : m10.toInt = (z4_5).toInt + (1) := by rw [em_44]; exact pm_addc _ _ (1) rfl (by omega) (by omega)
          exact ih2 (z3_5 ||| ((1 : Int32) <<< ((f 0 (z4_5).toInt.toNat) &&& 31))) m10 (by omega) (by intro e9; omega) (by omega)
  exact lp1 (200 - x1.toInt).toNat.succ (0 : Int32) x1 (by omega) (by exact fun _ => rfl) (by omega)

end
