section
variable {l : Launch} {g : pm_G} {A0 : pm_H} {K nn dn : Nat} {q : Nat → Nat} {w : Nat → Int32} {e : Nat → Nat → Int32} {v : Nat → Int32} {f : Nat → Nat → Int32}
set_option maxRecDepth 100000 in
set_option maxHeartbeats 2000000 in
theorem c_X8_findNextAlike (hI : cw_I K nn dn q w e) (hs : cw_S v f) {o1 : Nat} (ho1 : cw_ro K o1)  : pm_Mt l g 123 1 0 0 [.ref (q 6), .ref (q o1)] (cw A0 g K nn dn q w e v f) (cw_Qs A0 g K nn dn q w e (fun r v2 f2 => r = none ∧ (True))) := by
  refine mt_X8_findNextAlike rfl (fun J hC => ?_)
  have ro_nn : cw_ro K nn := hI.2.1.2.1
  have ro_dn : cw_ro K dn := hI.2.1.2.2.1
  have hu1 := hI.2.1
  unfold cw_W at hu1
  have zz0 := cw_sz hI ho1
  refine hC.1 0 0 _ _ rfl _ _ _ _ _ ?_
  refine Exists.intro _ (And.intro (cw_o6 hI.1) ?_)
  have k160 : (160 : Int32).toInt = 160 := rfl
  refine Exists.intro _ (Exists.intro _ (Exists.intro _ (Exists.intro _ (And.intro (c_fill (cw_a22 hI.1) (by decide) (160 : Int32)) (And.intro rfl (fun r9 A9 h9 => ?_))))))
  obtain ⟨rfl, rfl⟩ := h9
  rw [cw_s22 hI.1]
  obtain ⟨f2, ef2⟩ : ∃ z9, z9 = va_up f 22 (fun j => if j < 160 then (160 : Int32) else f 22 j) := ⟨_, rfl⟩
  rw [← ef2]
  have hs2 : cw_S v f2 := by rw [ef2]; exact cw_S_fr hs _ _ (by decide) (by decide)
  have k0 : (0 : Int32).toInt = 0 := rfl
  have lp4 : ∀ (n : Nat) (z2_12 : Int32) (v3 : Nat → Int32) (f3 : Nat → Nat → Int32), cw_S v3 f3 → (0 ≤ z2_12.toInt ∧ z2_12.toInt ≤ 160) → 200 - z2_12.toInt < (n : Int) → J 12 [some (.ref (q 6)), some (.ref (q o1)), some (.int z2_12)] [] (cw A0 g K nn dn q w e v3 f3) 0 0 := by
    intro n
    induction n with
    | zero =>
      intro z2_12 v3 f3 hs3 j0_12 j1_12
      omega
    | succ n ih5 =>
      intro z2_12 v3 f3 hs3 j0_12 j1_12
      refine hC.1 1 12 _ _ rfl _ _ _ _ _ ?_
      refine Exists.intro _ (And.intro (cw_ro_o hI.1 ho1) ?_)
      have z6 := cw_sz hI ho1
      refine And.intro (fun c7 => ?_) (fun c7 => ?_)
      · skip
        refine hC.1 3 48 _ _ rfl _ _ _ _ _ ?_
        exact ⟨rfl, rfl, v3, f3, rfl, hs3, rfl, by exact True.intro⟩
      · skip
        refine Exists.intro _ (And.intro (cw_ro_o hI.1 ho1) ?_)
        refine Exists.intro _ (Exists.intro _ (And.intro (Or.inl (cw_ro_3 hI.1 ho1)) (And.intro (by omega) ?_)))
        have w8 := cw_ahd hI ho1 (z2_12).toInt.toNat
        have km1 : (-1 : Int32).toInt = -1 := rfl
        refine And.intro (fun c9 => ?_) (fun c9 => ?_)
        · skip
          have dc9 : ((e (o1 + 3) (z2_12).toInt.toNat)).toInt = ((-1 : Int32) : Int32).toInt := congrArg Int32.toInt c9
          refine hC.1 2 42 _ _ rfl _ _ _ _ _ ?_
          have k1 : (1 : Int32).toInt = 1 := rfl
          intro m10 em_42
          try have e10 : m10.toInt = (z2_12).toInt + (1) := by rw [em_42]; exact pm_addc _ _ (1) rfl (by omega) (by omega)
          exact ih5 m10 v3 f3 hs3 (by omega) (by omega)
        · skip
          have dc9 := pm_neI c9
          refine Exists.intro _ (And.intro (cw_o6 hI.1) ?_)
          refine Exists.intro _ (And.intro (cw_ro_o hI.1 ho1) ?_)
          refine Exists.intro _ (Exists.intro _ (And.intro (Or.inl (cw_ro_3 hI.1 ho1)) (And.intro (by omega) ?_)))
          have w11 := cw_ahd hI ho1 (z2_12).toInt.toNat
          refine Exists.intro _ (Exists.intro _ (And.intro (cw_a22 hI.1) (And.intro (by omega) ?_)))
          rw [cw_s22 hI.1]
          obtain ⟨f12, ef12⟩ : ∃ z9, z9 = va_up f3 22 (upd (f3 22) ((e (o1 + 3) (z2_12).toInt.toNat)).toInt.toNat z2_12) := ⟨_, rfl⟩
          rw [← ef12]
          have hs12 : cw_S v3 f12 := by rw [ef12]; exact cw_S_fr hs3 _ _ (by decide) (by decide)
          refine hC.1 2 42 _ _ rfl _ _ _ _ _ ?_
          have k1 : (1 : Int32).toInt = 1 := rfl
          intro m13 em_42
          try have e13 : m13.toInt = (z2_12).toInt + (1) := by rw [em_42]; exact pm_addc _ _ (1) rfl (by omega) (by omega)
          exact ih5 m13 v3 f12 hs12 (by omega) (by omega)
  exact lp4 (200 - (0 : Int32).toInt).toNat.succ (0 : Int32) v f2 hs2 (by omega) (by omega)

end
