section
variable {l : Launch} {g : pm_G} {A0 : pm_H} {h : Nat} {q : Nat → Nat}
set_option maxRecDepth 100000 in
set_option maxHeartbeats 2000000 in
theorem c_X11_isNewSide (D : md_D h q) (v : Nat → Int32) (f : Nat → Nat → Int32) (hv : md_V v) (hf : md_F f) (x1 : Int32) (x2 : Int32) (p0 : 0 ≤ x1.toInt ∧ x1.toInt < x2.toInt ∧ x2.toInt < (v 0).toInt) : pm_Mt l g 239 0 0 0 [.ref h, .int x1, .int x2] (md A0 g h q v f) (md_Qp (md A0 g h q v f) (fun r => (r = 1 ∧ (True)) ∨ (r = 0 ∧ (True)))) := by
  refine mt_X11_isNewSide rfl (fun J hC => ?_)
  have hv9 := hv
  unfold md_V at hv9
  have rg_x1 := pm_rng x1
  have rg_x2 := pm_rng x2
  refine hC.1 0 0 _ _ rfl _ _ _ _ _ ?_
  have k1 : (1 : Int32).toInt = 1 := rfl
  intro m1 em_2
  try have e1 : m1.toInt = (x1).toInt + (1) := by rw [em_2]; exact pm_addc _ _ (1) rfl (by omega) (by omega)
  have lp2 : ∀ (n : Nat) (z3_4 : Int32), (x1.toInt + 1 ≤ z3_4.toInt ∧ z3_4.toInt ≤ x2.toInt) → 200 - z3_4.toInt < (n : Int) → J 4 [some (.ref h), some (.int x1), some (.int x2), some (.int z3_4), none, none] [] (md A0 g h q v f) 0 0 := by
    intro n
    induction n with
    | zero =>
      intro z3_4 j0_4 j1_4
      omega
    | succ n ih3 =>
      intro z3_4 j0_4 j1_4
      refine hC.1 1 4 _ _ rfl _ _ _ _ _ ?_
      refine And.intro (fun c4 => ?_) (fun c4 => ?_)
      · skip
        refine hC.1 8 109 _ _ rfl _ _ _ _ _ ?_
        exact ⟨rfl, fun _ => (by decide), rfl, (1 : Int32), rfl, rfl, Or.inl ⟨rfl, by first | omega | (dsimp only; omega) | trivial⟩⟩
      · skip
        refine Exists.intro _ (And.intro md_o ?_)
        refine Exists.intro _ (Exists.intro _ (And.intro (Or.inl (md_a_colours D)) (And.intro (by omega) ?_)))
        have w5 : (0 : Int) ≤ (f 0 (z3_4).toInt.toNat).toInt ∧ (f 0 (z3_4).toInt.toNat).toInt ≤ (23 : Int) := hf 0 _
        refine Exists.intro _ (And.intro md_o ?_)
        refine Exists.intro _ (Exists.intro _ (And.intro (Or.inl (md_a_colours D)) (And.intro (by omega) ?_)))
        have w6 : (0 : Int) ≤ (f 0 (x2).toInt.toNat).toInt ∧ (f 0 (x2).toInt.toNat).toInt ≤ (23 : Int) := hf 0 _
        refine And.intro (fun c7 => ?_) (fun c7 => ?_)
        · skip
          have dc7 := pm_neI c7
          refine hC.1 2 47 _ _ rfl _ _ _ _ _ ?_
          have k0 : (0 : Int32).toInt = 0 := rfl
          refine hC.1 3 48 _ _ rfl _ _ _ _ _ ?_
          refine Exists.intro _ (And.intro md_o ?_)
          refine Exists.intro _ (Exists.intro _ (And.intro (Or.inl (md_a_colours D)) (And.intro (by omega) ?_)))
          have w8 : (0 : Int) ≤ (f 0 (z3_4).toInt.toNat).toInt ∧ (f 0 (z3_4).toInt.toNat).toInt ≤ (23 : Int) := hf 0 _
          refine Exists.intro _ (And.intro md_o ?_)
          intro m9 em_62
          try have e9 : m9.toInt = (x2).toInt - (1) := by rw [em_62]; exact pm_subc _ _ (1) rfl (by omega) (by omega)
          refine Exists.intro _ (Exists.intro _ (And.intro (Or.inl (md_a_colours D)) (And.intro (by omega) ?_)))
          have w10 : (0 : Int) ≤ (f 0 (m9).toInt.toNat).toInt ∧ (f 0 (m9).toInt.toNat).toInt ≤ (23 : Int) := hf 0 _
          refine And.intro (fun c11 => ?_) (fun c11 => ?_)
          · skip
            have dc11 := pm_neI c11
            refine hC.1 4 88 _ _ rfl _ _ _ _ _ ?_
            refine hC.1 5 89 _ _ rfl _ _ _ _ _ ?_
            refine And.intro (fun c9 => absurd c9 (by decide)) (fun _ => ?_)
            refine And.intro (fun _ => ?_) (fun c9 => absurd c9 (by decide))
            refine hC.1 7 103 _ _ rfl _ _ _ _ _ ?_
            intro m12 em_103
            try have e12 : m12.toInt = (z3_4).toInt + (1) := by rw [em_103]; exact pm_addc _ _ (1) rfl (by omega) (by omega)
            exact hC.2 [false, false, false, false, true, true] _ _ _ _ _ _ (ih3 m12 (by omega) (by omega))
          · skip
            have dc11 : ((f 0 (z3_4).toInt.toNat)).toInt = ((f 0 (m9).toInt.toNat) : Int32).toInt := congrArg Int32.toInt c11
            refine Exists.intro _ (And.intro md_o ?_)
            intro m13 em_73
            try have e13 : m13.toInt = (z3_4).toInt - (1) := by rw [em_73]; exact pm_subc _ _ (1) rfl (by omega) (by omega)
            refine Exists.intro _ (Exists.intro _ (And.intro (Or.inl (md_a_colours D)) (And.intro (by omega) ?_)))
            have w14 : (0 : Int) ≤ (f 0 (m13).toInt.toNat).toInt ∧ (f 0 (m13).toInt.toNat).toInt ≤ (23 : Int) := hf 0 _
            refine Exists.intro _ (And.intro md_o ?_)
            refine Exists.intro _ (Exists.intro _ (And.intro (Or.inl (md_a_colours D)) (And.intro (by omega) ?_)))
            have w15 : (0 : Int) ≤ (f 0 (x2).toInt.toNat).toInt ∧ (f 0 (x2).toInt.toNat).toInt ≤ (23 : Int) := hf 0 _
            refine And.intro (fun c16 => ?_) (fun c16 => ?_)
            · skip
              have dc16 := pm_neI c16
              refine hC.1 4 88 _ _ rfl _ _ _ _ _ ?_
              refine hC.1 5 89 _ _ rfl _ _ _ _ _ ?_
              refine And.intro (fun c9 => absurd c9 (by decide)) (fun _ => ?_)
              refine And.intro (fun _ => ?_) (fun c9 => absurd c9 (by decide))
              refine hC.1 7 103 _ _ rfl _ _ _ _ _ ?_
              intro m17 em_103
              try have e17 : m17.toInt = (z3_4).toInt + (1) := by rw [em_103]; exact pm_addc _ _ (1) rfl (by omega) (by omega)
              exact hC.2 [false, false, false, false, true, true] _ _ _ _ _ _ (ih3 m17 (by omega) (by omega))
            · skip
              have dc16 : ((f 0 (m13).toInt.toNat)).toInt = ((f 0 (x2).toInt.toNat) : Int32).toInt := congrArg Int32.toInt c16
              refine hC.1 5 89 _ _ rfl _ _ _ _ _ ?_
              refine And.intro (fun c9 => absurd c9 (by decide)) (fun _ => ?_)
              refine And.intro (fun c9 => absurd c9 (by decide)) (fun _ => ?_)
              refine hC.1 6 101 _ _ rfl _ _ _ _ _ ?_
              exact ⟨rfl, fun _ => (by decide), rfl, (0 : Int32), rfl, rfl, Or.inr ⟨rfl, by first | omega | (dsimp only; omega) | trivial⟩⟩
        · skip
          have dc7 : ((f 0 (z3_4).toInt.toNat)).toInt = ((f 0 (x2).toInt.toNat) : Int32).toInt := congrArg Int32.toInt c7
          refine Exists.intro _ (And.intro md_o ?_)
          intro m18 em_30
          try have e18 : m18.toInt = (z3_4).toInt - (1) := by rw [em_30]; exact pm_subc _ _ (1) rfl (by omega) (by omega)
          refine Exists.intro _ (Exists.intro _ (And.intro (Or.inl (md_a_colours D)) (And.intro (by omega) ?_)))
          have w19 : (0 : Int) ≤ (f 0 (m18).toInt.toNat).toInt ∧ (f 0 (m18).toInt.toNat).toInt ≤ (23 : Int) := hf 0 _
          refine Exists.intro _ (And.intro md_o ?_)
          intro m20 em_38
          try have e20 : m20.toInt = (x2).toInt - (1) := by rw [em_38]; exact pm_subc _ _ (1) rfl (by omega) (by omega)
          refine Exists.intro _ (Exists.intro _ (And.intro (Or.inl (md_a_colours D)) (And.intro (by omega) ?_)))
          have w21 : (0 : Int) ≤ (f 0 (m20).toInt.toNat).toInt ∧ (f 0 (m20).toInt.toNat).toInt ≤ (23 : Int) := hf 0 _
          refine And.intro (fun c22 => ?_) (fun c22 => ?_)
          · skip
            have dc22 := pm_neI c22
            refine hC.1 2 47 _ _ rfl _ _ _ _ _ ?_
            have k0 : (0 : Int32).toInt = 0 := rfl
            refine hC.1 3 48 _ _ rfl _ _ _ _ _ ?_
            refine Exists.intro _ (And.intro md_o ?_)
            refine Exists.intro _ (Exists.intro _ (And.intro (Or.inl (md_a_colours D)) (And.intro (by omega) ?_)))
            have w23 : (0 : Int) ≤ (f 0 (z3_4).toInt.toNat).toInt ∧ (f 0 (z3_4).toInt.toNat).toInt ≤ (23 : Int) := hf 0 _
            refine Exists.intro _ (And.intro md_o ?_)
            intro m24 em_62
            try have e24 : m24.toInt = (x2).toInt - (1) := by rw [em_62]; exact pm_subc _ _ (1) rfl (by omega) (by omega)
            refine Exists.intro _ (Exists.intro _ (And.intro (Or.inl (md_a_colours D)) (And.intro (by omega) ?_)))
            have w25 : (0 : Int) ≤ (f 0 (m24).toInt.toNat).toInt ∧ (f 0 (m24).toInt.toNat).toInt ≤ (23 : Int) := hf 0 _
            refine And.intro (fun c26 => ?_) (fun c26 => ?_)
            · skip
              have dc26 := pm_neI c26
              refine hC.1 4 88 _ _ rfl _ _ _ _ _ ?_
              refine hC.1 5 89 _ _ rfl _ _ _ _ _ ?_
              refine And.intro (fun c9 => absurd c9 (by decide)) (fun _ => ?_)
              refine And.intro (fun _ => ?_) (fun c9 => absurd c9 (by decide))
              refine hC.1 7 103 _ _ rfl _ _ _ _ _ ?_
              intro m27 em_103
              try have e27 : m27.toInt = (z3_4).toInt + (1) := by rw [em_103]; exact pm_addc _ _ (1) rfl (by omega) (by omega)
              exact hC.2 [false, false, false, false, true, true] _ _ _ _ _ _ (ih3 m27 (by omega) (by omega))
            · skip
              have dc26 : ((f 0 (z3_4).toInt.toNat)).toInt = ((f 0 (m24).toInt.toNat) : Int32).toInt := congrArg Int32.toInt c26
              refine Exists.intro _ (And.intro md_o ?_)
              intro m28 em_73
              try have e28 : m28.toInt = (z3_4).toInt - (1) := by rw [em_73]; exact pm_subc _ _ (1) rfl (by omega) (by omega)
              refine Exists.intro _ (Exists.intro _ (And.intro (Or.inl (md_a_colours D)) (And.intro (by omega) ?_)))
              have w29 : (0 : Int) ≤ (f 0 (m28).toInt.toNat).toInt ∧ (f 0 (m28).toInt.toNat).toInt ≤ (23 : Int) := hf 0 _
              refine Exists.intro _ (And.intro md_o ?_)
              refine Exists.intro _ (Exists.intro _ (And.intro (Or.inl (md_a_colours D)) (And.intro (by omega) ?_)))
              have w30 : (0 : Int) ≤ (f 0 (x2).toInt.toNat).toInt ∧ (f 0 (x2).toInt.toNat).toInt ≤ (23 : Int) := hf 0 _
              refine And.intro (fun c31 => ?_) (fun c31 => ?_)
              · skip
                have dc31 := pm_neI c31
                refine hC.1 4 88 _ _ rfl _ _ _ _ _ ?_
                refine hC.1 5 89 _ _ rfl _ _ _ _ _ ?_
                refine And.intro (fun c9 => absurd c9 (by decide)) (fun _ => ?_)
                refine And.intro (fun _ => ?_) (fun c9 => absurd c9 (by decide))
                refine hC.1 7 103 _ _ rfl _ _ _ _ _ ?_
                intro m32 em_103
                try have e32 : m32.toInt = (z3_4).toInt + (1) := by rw [em_103]; exact pm_addc _ _ (1) rfl (by omega) (by omega)
                exact hC.2 [false, false, false, false, true, true] _ _ _ _ _ _ (ih3 m32 (by omega) (by omega))
              · skip
                have dc31 : ((f 0 (m28).toInt.toNat)).toInt = ((f 0 (x2).toInt.toNat) : Int32).toInt := congrArg Int32.toInt c31
                refine hC.1 5 89 _ _ rfl _ _ _ _ _ ?_
                refine And.intro (fun c9 => absurd c9 (by decide)) (fun _ => ?_)
                refine And.intro (fun c9 => absurd c9 (by decide)) (fun _ => ?_)
                refine hC.1 6 101 _ _ rfl _ _ _ _ _ ?_
                exact ⟨rfl, fun _ => (by decide), rfl, (0 : Int32), rfl, rfl, Or.inr ⟨rfl, by first | omega | (dsimp only; omega) | trivial⟩⟩
          · skip
            have dc22 : ((f 0 (m18).toInt.toNat)).toInt = ((f 0 (m20).toInt.toNat) : Int32).toInt := congrArg Int32.toInt c22
            refine hC.1 3 48 _ _ rfl _ _ _ _ _ ?_
            refine Exists.intro _ (And.intro md_o ?_)
            refine Exists.intro _ (Exists.intro _ (And.intro (Or.inl (md_a_colours D)) (And.intro (by omega) ?_)))
            have w33 : (0 : Int) ≤ (f 0 (z3_4).toInt.toNat).toInt ∧ (f 0 (z3_4).toInt.toNat).toInt ≤ (23 : Int) := hf 0 _
            refine Exists.intro _ (And.intro md_o ?_)
            intro m34 em_62
            try have e34 : m34.toInt = (x2).toInt - (1) := by rw [em_62]; exact pm_subc _ _ (1) rfl (by omega) (by omega)
            refine Exists.intro _ (Exists.intro _ (And.intro (Or.inl (md_a_colours D)) (And.intro (by omega) ?_)))
            have w35 : (0 : Int) ≤ (f 0 (m34).toInt.toNat).toInt ∧ (f 0 (m34).toInt.toNat).toInt ≤ (23 : Int) := hf 0 _
            refine And.intro (fun c36 => ?_) (fun c36 => ?_)
            · skip
              have dc36 := pm_neI c36
              refine hC.1 4 88 _ _ rfl _ _ _ _ _ ?_
              have k0 : (0 : Int32).toInt = 0 := rfl
              refine hC.1 5 89 _ _ rfl _ _ _ _ _ ?_
              refine And.intro (fun _ => ?_) (fun c9 => absurd c9 (by decide))
              refine hC.1 6 101 _ _ rfl _ _ _ _ _ ?_
              exact ⟨rfl, fun _ => (by decide), rfl, (0 : Int32), rfl, rfl, Or.inr ⟨rfl, by first | omega | (dsimp only; omega) | trivial⟩⟩
            · skip
              have dc36 : ((f 0 (z3_4).toInt.toNat)).toInt = ((f 0 (m34).toInt.toNat) : Int32).toInt := congrArg Int32.toInt c36
              refine Exists.intro _ (And.intro md_o ?_)
              intro m37 em_73
              try have e37 : m37.toInt = (z3_4).toInt - (1) := by rw [em_73]; exact pm_subc _ _ (1) rfl (by omega) (by omega)
              refine Exists.intro _ (Exists.intro _ (And.intro (Or.inl (md_a_colours D)) (And.intro (by omega) ?_)))
              have w38 : (0 : Int) ≤ (f 0 (m37).toInt.toNat).toInt ∧ (f 0 (m37).toInt.toNat).toInt ≤ (23 : Int) := hf 0 _
              refine Exists.intro _ (And.intro md_o ?_)
              refine Exists.intro _ (Exists.intro _ (And.intro (Or.inl (md_a_colours D)) (And.intro (by omega) ?_)))
              have w39 : (0 : Int) ≤ (f 0 (x2).toInt.toNat).toInt ∧ (f 0 (x2).toInt.toNat).toInt ≤ (23 : Int) := hf 0 _
              refine And.intro (fun c40 => ?_) (fun c40 => ?_)
              · skip
                have dc40 := pm_neI c40
                refine hC.1 4 88 _ _ rfl _ _ _ _ _ ?_
                have k0 : (0 : Int32).toInt = 0 := rfl
                refine hC.1 5 89 _ _ rfl _ _ _ _ _ ?_
                refine And.intro (fun _ => ?_) (fun c9 => absurd c9 (by decide))
                refine hC.1 6 101 _ _ rfl _ _ _ _ _ ?_
                exact ⟨rfl, fun _ => (by decide), rfl, (0 : Int32), rfl, rfl, Or.inr ⟨rfl, by first | omega | (dsimp only; omega) | trivial⟩⟩
              · skip
                have dc40 : ((f 0 (m37).toInt.toNat)).toInt = ((f 0 (x2).toInt.toNat) : Int32).toInt := congrArg Int32.toInt c40
                refine hC.1 5 89 _ _ rfl _ _ _ _ _ ?_
                refine And.intro (fun _ => ?_) (fun c9 => absurd c9 (by decide))
                refine hC.1 6 101 _ _ rfl _ _ _ _ _ ?_
                have k0 : (0 : Int32).toInt = 0 := rfl
                exact ⟨rfl, fun _ => (by decide), rfl, (0 : Int32), rfl, rfl, Or.inr ⟨rfl, by first | omega | (dsimp only; omega) | trivial⟩⟩
  exact lp2 (200 - m1.toInt).toNat.succ m1 (by omega) (by omega)

end
