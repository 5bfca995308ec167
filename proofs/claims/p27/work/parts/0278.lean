section
variable {l : Launch} {g : pm_G} {A0 : pm_H} {K nn dn : Nat} {q : Nat → Nat} {w : Nat → Int32} {e : Nat → Nat → Int32} {v : Nat → Int32} {f : Nat → Nat → Int32}
set_option maxRecDepth 100000 in
set_option maxHeartbeats 2000000 in
theorem c_X10_just (hI : cw_I K nn dn q w e) (hs : cw_S v f) (x1 : Int32)  : pm_Mt l g 128 3 0 0 [.ref (q 0), .int x1] (cw A0 g K nn dn q w e v f) (cw_Qs A0 g K nn dn q w e (fun r v2 f2 => ∃ x : Int32, r = some (.int x) ∧ (True))) := by
  refine mt_X10_just rfl (fun J hC => ?_)
  have ro_nn : cw_ro K nn := hI.2.1.2.1
  have ro_dn : cw_ro K dn := hI.2.1.2.2.1
  have hu1 := hI.2.1
  unfold cw_W at hu1
  have rg_x1 := pm_rng x1
  have zz0 := cw_sz hI ro_nn
  refine hC.1 0 0 _ _ rfl _ _ _ _ _ ?_
  have k1 : (1 : Int32).toInt = 1 := rfl
  refine And.intro (fun c2 => ?_) (fun c2 => ?_)
  · skip
    refine hC.1 1 7 _ _ rfl _ _ _ _ _ ?_
    refine Exists.intro _ (And.intro (cw_o0 hI.1) ?_)
    refine Exists.intro _ (And.intro (cw_o1 hI.1) ?_)
    refine Exists.intro _ (And.intro (cw_o0 hI.1) ?_)
    refine Exists.intro _ (And.intro (cw_o0 hI.1) ?_)
    refine And.intro (Exists.intro _ (cw_o7 hI.1)) (Exists.intro _ (Exists.intro _ (Exists.intro _ (Exists.intro _ (And.intro (c_X4_spansUpTo hI hs ro_nn x1 ) (And.intro rfl (fun r9 A9 h9 => ?_)))))))
    rcases h9 with ⟨v4, f4, rfl, hs4, y3, rfl, by3⟩
    refine Exists.intro _ (And.intro (cw_o0 hI.1) ?_)
    refine Exists.intro _ (And.intro (cw_o0 hI.1) ?_)
    intro m5 em_39
    try have e5 : m5.toInt = (x1).toInt - (1) := by rw [em_39]; exact pm_subc _ _ (1) rfl (by omega) (by omega)
    refine And.intro (Exists.intro _ (cw_o7 hI.1)) (Exists.intro _ (Exists.intro _ (Exists.intro _ (Exists.intro _ (And.intro (c_X4_spansUpTo hI hs4 ro_nn m5 ) (And.intro rfl (fun r9 A9 h9 => ?_)))))))
    rcases h9 with ⟨v7, f7, rfl, hs7, y6, rfl, by6⟩
    intro m8 em_43
    try have e8 : m8.toInt = (y3).toInt - (y6).toInt := by rw [em_43]; exact pm_sub _ _ (by omega) (by omega)
    exact ⟨rfl, fun e9 => absurd e9 (by decide), rfl, v7, f7, rfl, hs7, m8, rfl, by exact True.intro⟩
  · skip
    have k0 : (0 : Int32).toInt = 0 := rfl
    exact ⟨rfl, fun e9 => absurd e9 (by decide), rfl, v, f, rfl, hs, (0 : Int32), rfl, by exact True.intro⟩

set_option maxRecDepth 100000 in
set_option maxHeartbeats 2000000 in
theorem c_X10_all (hI : cw_I K nn dn q w e) (hs : cw_S v f)   : pm_Mt l g 130 0 0 0 [.ref (q 0)] (cw A0 g K nn dn q w e v f) (md_Qj (cw A0 g K nn dn q w e v f) (fun r => True)) := by
  refine mt_X10_all rfl (fun J hC => ?_)
  have ro_nn : cw_ro K nn := hI.2.1.2.1
  have ro_dn : cw_ro K dn := hI.2.1.2.2.1
  have hu1 := hI.2.1
  unfold cw_W at hu1
  have zz0 := cw_sz hI ro_nn
  refine hC.1 0 0 _ _ rfl _ _ _ _ _ ?_
  refine Exists.intro _ (And.intro (cw_o0 hI.1) ?_)
  refine Exists.intro _ (And.intro (cw_o1 hI.1) ?_)
  have k0 : (0 : Int32).toInt = 0 := rfl
  have lp3 : ∀ (n : Nat) (z2_13 : Int64) (z4_13 : Int32), (0 ≤ z4_13.toInt ∧ z4_13.toInt ≤ 160) → 200 - z4_13.toInt < (n : Int) → J 13 [some (.ref (q 0)), some (.ref (q nn)), some (.long z2_13), none, some (.int z4_13)] [] (cw A0 g K nn dn q w e v f) 0 0 := by
    intro n
    induction n with
    | zero =>
      intro z2_13 z4_13 j0_13 j1_13
      omega
    | succ n ih4 =>
      intro z2_13 z4_13 j0_13 j1_13
      refine hC.1 1 13 _ _ rfl _ _ _ _ _ ?_
      refine Exists.intro _ (And.intro (cw_ro_o hI.1 ro_nn) ?_)
      have z5 := cw_sz hI ro_nn
      refine And.intro (fun c6 => ?_) (fun c6 => ?_)
      · skip
        refine hC.1 2 51 _ _ rfl _ _ _ _ _ ?_
        exact ⟨rfl, rfl, z2_13, rfl, rfl, by exact True.intro⟩
      · skip
        refine Exists.intro _ (And.intro (cw_ro_o hI.1 ro_nn) ?_)
        refine Exists.intro _ (Exists.intro _ (And.intro (Or.inl (cw_ro_3 hI.1 ro_nn)) (And.intro (by omega) ?_)))
        have w7 := cw_ahd hI ro_nn (z4_13).toInt.toNat
        intro m8 em_32
        try have e8 : m8.toInt = (z4_13).toInt - ((e (nn + 3) (z4_13).toInt.toNat)).toInt := by rw [em_32]; exact pm_sub _ _ (by omega) (by omega)
        refine Exists.intro _ (And.intro (cw_ro_o hI.1 ro_nn) ?_)
        have z9 := cw_sz hI ro_nn
        intro m10 em_40
        try have e10 : m10.toInt = ((w nn)).toInt - (z4_13).toInt := by rw [em_40]; exact pm_sub _ _ (by omega) (by omega)
        have k1 : (1 : Int32).toInt = 1 := rfl
        intro m11 em_45
        try have e11 : m11.toInt = (z4_13).toInt + (1) := by rw [em_45]; exact pm_addc _ _ (1) rfl (by omega) (by omega)
        exact ih4 (z2_13 + ((m8).toInt64 * (m10).toInt64)) m11 (by omega) (by omega)
  exact lp3 (200 - (0 : Int32).toInt).toNat.succ (Int64.ofNat 0) (0 : Int32) (by omega) (by omega)

set_option maxRecDepth 100000 in
set_option maxHeartbeats 2000000 in
theorem c_X10_sets (hI : cw_I K nn dn q w e) (hs : cw_S v f) (x1 : Int32)  : pm_Mt l g 131 4 0 0 [.ref (q 0), .int x1] (cw A0 g K nn dn q w e v f) (cw_Qs A0 g K nn dn q w e (fun r v2 f2 => ∃ x : Int32, r = some (.int x) ∧ (True))) := by
  refine mt_X10_sets rfl (fun J hC => ?_)
  have ro_nn : cw_ro K nn := hI.2.1.2.1
  have ro_dn : cw_ro K dn := hI.2.1.2.2.1
  have hu1 := hI.2.1
  unfold cw_W at hu1
  have rg_x1 := pm_rng x1
  have zz0 := cw_sz hI ro_nn
  refine hC.1 0 0 _ _ rfl _ _ _ _ _ ?_
  have k1 : (1 : Int32).toInt = 1 := rfl
  refine And.intro (fun c2 => ?_) (fun c2 => ?_)
  · skip
    refine hC.1 1 41 _ _ rfl _ _ _ _ _ ?_
    have k0 : (0 : Int32).toInt = 0 := rfl
    refine hC.1 2 42 _ _ rfl _ _ _ _ _ ?_
    exact ⟨rfl, fun e9 => absurd e9 (by decide), rfl, v, f, rfl, hs, (0 : Int32), rfl, by exact True.intro⟩
  · skip
    refine Exists.intro _ (And.intro (cw_o0 hI.1) ?_)
    refine Exists.intro _ (And.intro (cw_o1 hI.1) ?_)
    refine Exists.intro _ (And.intro (cw_ro_o hI.1 ro_nn) ?_)
    have z3 := cw_sz hI ro_nn
    refine And.intro (fun c4 => ?_) (fun c4 => ?_)
    · skip
      refine hC.1 1 41 _ _ rfl _ _ _ _ _ ?_
      have k0 : (0 : Int32).toInt = 0 := rfl
      refine hC.1 2 42 _ _ rfl _ _ _ _ _ ?_
      exact ⟨rfl, fun e9 => absurd e9 (by decide), rfl, v, f, rfl, hs, (0 : Int32), rfl, by exact True.intro⟩
    · skip
      refine Exists.intro _ (And.intro (cw_o0 hI.1) ?_)
      refine Exists.intro _ (And.intro (cw_o0 hI.1) ?_)
      refine Exists.intro _ (And.intro (cw_o1 hI.1) ?_)
      refine Exists.intro _ (And.intro (cw_o0 hI.1) ?_)
      refine And.intro (Exists.intro _ (cw_o7 hI.1)) (Exists.intro _ (Exists.intro _ (Exists.intro _ (Exists.intro _ (And.intro (c_X4_unlikeSets hI hs ro_nn x1 (by omega)) (And.intro rfl (fun r9 A9 h9 => ?_)))))))
      rcases h9 with ⟨v6, f6, rfl, hs6, y5, rfl, by5⟩
      refine hC.1 2 42 _ _ rfl _ _ _ _ _ ?_
      exact ⟨rfl, fun e9 => absurd e9 (by decide), rfl, v6, f6, rfl, hs6, y5, rfl, by exact True.intro⟩

end
