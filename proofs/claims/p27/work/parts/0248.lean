section
variable {l : Launch} {g : pm_G} {A0 : pm_H} {K nn dn : Nat} {q : Nat → Nat} {w : Nat → Int32} {e : Nat → Nat → Int32} {v : Nat → Int32} {f : Nat → Nat → Int32}
set_option maxRecDepth 100000 in
set_option maxHeartbeats 2000000 in
theorem c_X4_isAmong (hI : cw_I K nn dn q w e) (hs : cw_S v f) (x1 : Int32) (x2 : Int32) (p0 : 0 ≤ x2.toInt ∧ x2.toInt ≤ 160) : pm_Mt l g 133 0 0 0 [.ref (q 7), .int x1, .int x2] (cw A0 g K nn dn q w e v f) (md_Qp (cw A0 g K nn dn q w e v f) (fun r => (r = 1 ∧ (True)) ∨ (r = 0 ∧ (True)))) := by
  refine mt_X4_isAmong rfl (fun J hC => ?_)
  have ro_nn : cw_ro K nn := hI.2.1.2.1
  have ro_dn : cw_ro K dn := hI.2.1.2.2.1
  have hu1 := hI.2.1
  unfold cw_W at hu1
  have rg_x1 := pm_rng x1
  have rg_x2 := pm_rng x2
  refine hC.1 0 0 _ _ rfl _ _ _ _ _ ?_
  have k0 : (0 : Int32).toInt = 0 := rfl
  have lp3 : ∀ (n : Nat) (z3_2 : Int32), (0 ≤ z3_2.toInt ∧ z3_2.toInt ≤ 160) → 200 - z3_2.toInt < (n : Int) → J 2 [some (.ref (q 7)), some (.int x1), some (.int x2), some (.int z3_2)] [] (cw A0 g K nn dn q w e v f) 0 0 := by
    intro n
    induction n with
    | zero =>
      intro z3_2 j0_2 j1_2
      omega
    | succ n ih4 =>
      intro z3_2 j0_2 j1_2
      refine hC.1 1 2 _ _ rfl _ _ _ _ _ ?_
      refine And.intro (fun c5 => ?_) (fun c5 => ?_)
      · skip
        refine hC.1 3 25 _ _ rfl _ _ _ _ _ ?_
        exact ⟨rfl, fun _ => (by decide), rfl, (0 : Int32), rfl, rfl, Or.inr ⟨rfl, by first | omega | (dsimp only; omega) | trivial⟩⟩
      · skip
        refine Exists.intro _ (And.intro (cw_o7 hI.1) ?_)
        refine Exists.intro _ (Exists.intro _ (And.intro (Or.inl (cw_a25 hI.1)) (And.intro (by omega) ?_)))
        refine And.intro (fun c6 => ?_) (fun c6 => ?_)
        · skip
          have dc6 := pm_neI c6
          refine hC.1 2 19 _ _ rfl _ _ _ _ _ ?_
          have k1 : (1 : Int32).toInt = 1 := rfl
          intro m7 em_19
          try have e7 : m7.toInt = (z3_2).toInt + (1) := by rw [em_19]; exact pm_addc _ _ (1) rfl (by omega) (by omega)
          exact ih4 m7 (by omega) (by omega)
        · skip
          have dc6 : ((f 25 (z3_2).toInt.toNat)).toInt = (x1 : Int32).toInt := congrArg Int32.toInt c6
          have k1 : (1 : Int32).toInt = 1 := rfl
          exact ⟨rfl, fun _ => (by decide), rfl, (1 : Int32), rfl, rfl, Or.inl ⟨rfl, by first | omega | (dsimp only; omega) | trivial⟩⟩
  exact lp3 (200 - (0 : Int32).toInt).toNat.succ (0 : Int32) (by omega) (by omega)

end
