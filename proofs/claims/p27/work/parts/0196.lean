section
variable {l : Launch} {g : pm_G} {A0 : pm_H} {K nn dn : Nat} {q : Nat → Nat} {w : Nat → Int32} {e : Nat → Nat → Int32} {v : Nat → Int32} {f : Nat → Nat → Int32}
set_option maxRecDepth 100000 in
set_option maxHeartbeats 2000000 in
theorem c_X7_nextAlike (hI : cw_I K nn dn q w e) (hs : cw_S v f) {o0 : Nat} (ho0 : cw_ro K o0) (x1 : Int32)  : pm_Mt l g 43 1 0 0 [.ref (q o0), .int x1] (cw A0 g K nn dn q w e v f) (md_Qp (cw A0 g K nn dn q w e v f) (fun r => True)) := by
  refine mt_X7_nextAlike rfl (fun J hC => ?_)
  have ro_nn : cw_ro K nn := hI.2.1.2.1
  have ro_dn : cw_ro K dn := hI.2.1.2.2.1
  have hu1 := hI.2.1
  unfold cw_W at hu1
  have rg_x1 := pm_rng x1
  have zz0 := cw_sz hI ho0
  refine hC.1 0 0 _ _ rfl _ _ _ _ _ ?_
  refine And.intro (Exists.intro _ (cw_ro_o hI.1 ho0)) (Exists.intro _ (Exists.intro _ (Exists.intro _ (Exists.intro _ (And.intro (c_X7_has hI hs ho0 x1 ) (And.intro rfl (fun r9 A9 h9 => ?_)))))))
  rcases h9 with ⟨y2, rfl, rfl, ⟨rfl, by2⟩ | ⟨rfl, by2⟩⟩
  · skip
    have k1 : (1 : Int32).toInt = 1 := rfl
    refine And.intro (fun _ => ?_) (fun c9 => absurd c9 (by decide))
    refine hC.1 1 10 _ _ rfl _ _ _ _ _ ?_
    intro m4 em_12
    try have e4 : m4.toInt = (x1).toInt + (1) := by rw [em_12]; exact pm_addc _ _ (1) rfl (by omega) (by omega)
    have lp6 : ∀ (n : Nat) (z2_14 : Int32), (0 ≤ z2_14.toInt ∧ z2_14.toInt ≤ 160) → 200 - z2_14.toInt < (n : Int) → J 14 [some (.ref (q o0)), some (.int x1), some (.int z2_14)] [] (cw A0 g K nn dn q w e v f) 0 0 := by
      intro n
      induction n with
      | zero =>
        intro z2_14 j0_14 j1_14
        omega
      | succ n ih7 =>
        intro z2_14 j0_14 j1_14
        refine hC.1 2 14 _ _ rfl _ _ _ _ _ ?_
        refine Exists.intro _ (And.intro (cw_ro_o hI.1 ho0) ?_)
        have z8 := cw_sz hI ho0
        refine And.intro (fun c9 => ?_) (fun c9 => ?_)
        · skip
          refine hC.1 4 45 _ _ rfl _ _ _ _ _ ?_
          have km1 : (-1 : Int32).toInt = -1 := rfl
          exact ⟨rfl, fun e9 => absurd e9 (by decide), rfl, (-1 : Int32), rfl, rfl, by exact True.intro⟩
        · skip
          refine Exists.intro _ (And.intro (cw_ro_o hI.1 ho0) ?_)
          refine Exists.intro _ (Exists.intro _ (And.intro (Or.inl (cw_ro_1 hI.1 ho0)) (And.intro (by omega) ?_)))
          have w10 := cw_col hI ho0 (z2_14).toInt.toNat
          refine Exists.intro _ (And.intro (cw_ro_o hI.1 ho0) ?_)
          refine Exists.intro _ (Exists.intro _ (And.intro (Or.inl (cw_ro_1 hI.1 ho0)) (And.intro (by omega) ?_)))
          have w11 := cw_col hI ho0 (x1).toInt.toNat
          refine And.intro (fun c12 => ?_) (fun c12 => ?_)
          · skip
            have dc12 := pm_neI c12
            refine hC.1 3 39 _ _ rfl _ _ _ _ _ ?_
            intro m13 em_39
            try have e13 : m13.toInt = (z2_14).toInt + (1) := by rw [em_39]; exact pm_addc _ _ (1) rfl (by omega) (by omega)
            exact ih7 m13 (by omega) (by omega)
          · skip
            have dc12 : ((e (o0 + 1) (z2_14).toInt.toNat)).toInt = ((e (o0 + 1) (x1).toInt.toNat) : Int32).toInt := congrArg Int32.toInt c12
            exact ⟨rfl, fun e9 => absurd e9 (by decide), rfl, z2_14, rfl, rfl, by exact True.intro⟩
    exact lp6 (200 - m4.toInt).toNat.succ m4 (by omega) (by omega)
  · skip
    have k0 : (0 : Int32).toInt = 0 := rfl
    refine And.intro (fun c9 => absurd c9 (by decide)) (fun _ => ?_)
    have km1 : (-1 : Int32).toInt = -1 := rfl
    exact ⟨rfl, fun e9 => absurd e9 (by decide), rfl, (-1 : Int32), rfl, rfl, by exact True.intro⟩

end
