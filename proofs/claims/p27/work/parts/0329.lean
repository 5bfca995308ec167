section
variable {l : Launch} {g : pm_G} {A0 : pm_H} {h : Nat} {q : Nat → Nat}
set_option maxRecDepth 100000 in
set_option maxHeartbeats 2000000 in
theorem F_X11_laysFrom (D : md_D h q) (v : Nat → Int32) (f : Nat → Nat → Int32) (hv : md_V v) (hf : md_F f) (x1 : Int32) (x2 : Int32) (p0 : 0 ≤ x1.toInt ∧ x1.toInt ≤ 161) (p1 : x2.toInt ≤ 160) (p2 : (v 2).toInt + (x2.toInt - x1.toInt) ≤ 160) (p3 : x1.toInt ≤ x2.toInt) : pm_Mt l g 185 1 0 0 [.ref h, .int x1, .int x2] (md A0 g h q v f) (md_Qv A0 g h q f (fun v2 f2 => f2 0 = f 0 ∧ f2 1 = f 1 ∧ ((v2 0).toInt = (v 0).toInt ∧ (v2 1).toInt = (v 1).toInt ∧ (v2 3).toInt = (v 3).toInt ∧ (v2 4).toInt = (v 4).toInt ∧ (v2 6).toInt = (v 6).toInt ∧ (v2 2).toInt = (v 2).toInt + (x2.toInt - x1.toInt)) ∧ (∀ (L N : List pl_P) (a b : Int), rp (v 0) (f 0) (f 1) L → x1.toInt = a → x2.toInt = b → b ≤ (L.length : Int) → a ≤ b → rp (v 2) (f 5) (f 6) (N) → rp (v2 2) (f2 5) (f2 6) (N ++ si L a b)))) := by
  refine mt_X11_laysFrom rfl (fun J hC => ?_)
  have hv9 := hv
  unfold md_V at hv9
  have rg_x1 := pm_rng x1
  have rg_x2 := pm_rng x2
  refine hC.1 0 0 _ _ rfl _ _ _ _ _ ?_
  have lp2 : ∀ (n : Nat) (z3_2 : Int32) (v1 : Nat → Int32) (f1 : Nat → Nat → Int32), md_V v1 → md_F f1 → f1 2 = f 2 → f1 0 = f 0 → f1 1 = f 1 → (x1.toInt ≤ z3_2.toInt ∧ z3_2.toInt ≤ x2.toInt) → ((v1 2).toInt - z3_2.toInt = (v 2).toInt - x1.toInt) → (∀ L N, rp (v 0) (f 0) (f 1) L → x2.toInt ≤ (L.length : Int) → rp (v 2) (f 5) (f 6) (N) → rp (v1 2) (f1 5) (f1 6) (N ++ si L x1.toInt z3_2.toInt)) → (v1 0).toInt = (v 0).toInt → (v1 1).toInt = (v 1).toInt → (v1 3).toInt = (v 3).toInt → (v1 4).toInt = (v 4).toInt → (v1 6).toInt = (v 6).toInt → 200 - z3_2.toInt < (n : Int) → J 2 [some (.ref h), some (.int x1), some (.int x2), some (.int z3_2)] [] (md A0 g h q v1 f1) 0 0 := by
    intro n
    induction n with
    | zero =>
      intro z3_2 v1 f1 hv1 hf1 hw1 hr1_0 hr1_1 j0_2 j1_2 j2_2 j3_2 j4_2 j5_2 j6_2 j7_2 j8_2
      omega
    | succ n ih3 =>
      intro z3_2 v1 f1 hv1 hf1 hw1 hr1_0 hr1_1 j0_2 j1_2 j2_2 j3_2 j4_2 j5_2 j6_2 j7_2 j8_2
      have lr0 := hr1_0
      have lr1 := hr1_1
      refine hC.1 1 2 _ _ rfl _ _ _ _ _ ?_
      have hu4 := hv1
      unfold md_V at hu4
      refine And.intro (fun c5 => ?_) (fun c5 => ?_)
      · skip
        refine hC.1 2 29 _ _ rfl _ _ _ _ _ ?_
        exact ⟨rfl, rfl, v1, f1, rfl, rfl, hv1, hf1, hw1, hr1_0, hr1_1, by first | omega | (dsimp only; omega) | trivial, by intro L N a b h1 ha hb h2 h3 h4; subst ha; subst hb; have h5 := j2_2 L N h1 h2 h4; rw [show z3_2.toInt = x2.toInt by omega] at h5; exact h5⟩
      · skip
        refine Exists.intro _ (And.intro md_o ?_)
        refine Exists.intro _ (Exists.intro _ (And.intro (Or.inl (md_a_colours D)) (And.intro (by omega) ?_)))
        have w6 : (0 : Int) ≤ (f1 0 (z3_2).toInt.toNat).toInt ∧ (f1 0 (z3_2).toInt.toNat).toInt ≤ (23 : Int) := hf1 0 _
        refine Exists.intro _ (And.intro md_o ?_)
        refine Exists.intro _ (Exists.intro _ (And.intro (Or.inl (md_a_names D)) (And.intro (by omega) ?_)))
        refine And.intro (Exists.intro _ md_o) (Exists.intro _ (Exists.intro _ (Exists.intro _ (Exists.intro _ (And.intro (F_X11_lays D v1 f1 hv1 hf1 (f1 0 (z3_2).toInt.toNat) (f1 1 (z3_2).toInt.toNat) (by omega) (by omega)) (And.intro rfl (fun r9 A9 h9 => ?_)))))))
        obtain ⟨v8, f8, rfl, rfl, hv8, hf8, hx8, hg8_0, hg8_1, by7⟩ := h9
        have hw8 : f8 2 = f 2 := hx8.trans hw1
        have hr8_0 : f8 0 = f 0 := hg8_0.trans hr1_0
        have hr8_1 : f8 1 = f 1 := hg8_1.trans hr1_1
        have hu9 := hv8
        unfold md_V at hu9
        have hb9 := by7.2
        have k1 : (1 : Int32).toInt = 1 := rfl
        intro m10 em_23
        try have e10 : m10.toInt = (z3_2).toInt + (1) := by rw [em_23]; exact pm_addc _ _ (1) rfl (by omega) (by omega)
        exact ih3 m10 v8 f8 hv8 hf8 hw8 hr8_0 hr8_1 (by omega) (by omega) (by intro L N h1 h2 h3; rw [show m10.toInt = z3_2.toInt + 1 by omega, si_s h1 (by omega) (by omega) (by omega), ← List.append_assoc]; have h4 := hb9 _ (j2_2 L N h1 h2 h3); rw [lr0, lr1] at h4; exact h4) (by omega) (by omega) (by omega) (by omega) (by omega) (by omega)
  exact lp2 (200 - x1.toInt).toNat.succ x1 v f hv hf rfl rfl rfl (by omega) (by omega) (by intro L N h1 h2 h3; rw [si_n (Int.le_refl _), List.append_nil]; exact h3) (by omega) (by omega) (by omega) (by omega) (by omega) (by omega)

end
