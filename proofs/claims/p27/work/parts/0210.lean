section
variable {l : Launch} {g : pm_G} {A0 : pm_H} {K nn dn : Nat} {q : Nat → Nat} {w : Nat → Int32} {e : Nat → Nat → Int32} {v : Nat → Int32} {f : Nat → Nat → Int32}
set_option maxRecDepth 100000 in
set_option maxHeartbeats 2000000 in
theorem c_X2_twosAlike (hI : cw_I K nn dn q w e) (hs : cw_S v f)   : pm_Mt l g 95 0 0 0 [.ref (q 2)] (cw A0 g K nn dn q w e v f) (md_Qp (cw A0 g K nn dn q w e v f) (fun r => True)) := by
  refine mt_X2_twosAlike rfl (fun J hC => ?_)
  have ro_nn : cw_ro K nn := hI.2.1.2.1
  have ro_dn : cw_ro K dn := hI.2.1.2.2.1
  have hu1 := hI.2.1
  unfold cw_W at hu1
  refine hC.1 0 0 _ _ rfl _ _ _ _ _ ?_
  have k0 : (0 : Int32).toInt = 0 := rfl
  have lp3 : ∀ (n : Nat) (z1_4 : Int32) (z2_4 : Int32), (0 ≤ z2_4.toInt ∧ z2_4.toInt ≤ 24) → 200 - z2_4.toInt < (n : Int) → J 4 [some (.ref (q 2)), some (.int z1_4), some (.int z2_4)] [] (cw A0 g K nn dn q w e v f) 0 0 := by
    intro n
    induction n with
    | zero =>
      intro z1_4 z2_4 j0_4 j1_4
      omega
    | succ n ih4 =>
      intro z1_4 z2_4 j0_4 j1_4
      refine hC.1 1 4 _ _ rfl _ _ _ _ _ ?_
      have k24 : (24 : Int32).toInt = 24 := rfl
      refine And.intro (fun c5 => ?_) (fun c5 => ?_)
      · skip
        refine hC.1 2 36 _ _ rfl _ _ _ _ _ ?_
        exact ⟨rfl, fun e9 => absurd e9 (by decide), rfl, z1_4, rfl, rfl, by exact True.intro⟩
      · skip
        refine Exists.intro _ (And.intro (cw_o2 hI.1) ?_)
        refine Exists.intro _ (Exists.intro _ (And.intro (Or.inl (cw_a14 hI.1)) (And.intro (by omega) ?_)))
        refine Exists.intro _ (And.intro (cw_o2 hI.1) ?_)
        refine Exists.intro _ (Exists.intro _ (And.intro (Or.inl (cw_a14 hI.1)) (And.intro (by omega) ?_)))
        have k1 : (1 : Int32).toInt = 1 := rfl
        intro m6 em_24
        try have e6 : m6.toInt = ((f 14 (z2_4).toInt.toNat)).toInt - (1) := by rw [em_24]; exact pm_subc _ _ (1) rfl (by omega) (by omega)
        intro m7 em_25
        have k2 : (2 : Int32).toInt = 2 := rfl
        refine And.intro (by decide) ?_
        intro m8 em_27
        intro m9 em_28
        try have e9 : m9.toInt = (z1_4).toInt + (m8).toInt := by rw [em_28]; exact pm_add _ _ (by omega) (by omega)
        intro m10 em_30
        try have e10 : m10.toInt = (z2_4).toInt + (1) := by rw [em_30]; exact pm_addc _ _ (1) rfl (by omega) (by omega)
        exact ih4 m9 m10 (by omega) (by omega)
  exact lp3 (200 - (0 : Int32).toInt).toNat.succ (0 : Int32) (0 : Int32) (by omega) (by omega)

end
