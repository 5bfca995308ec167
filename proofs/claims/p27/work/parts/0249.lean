section
variable {l : Launch} {g : pm_G} {A0 : pm_H} {K nn dn : Nat} {q : Nat → Nat} {w : Nat → Int32} {e : Nat → Nat → Int32} {v : Nat → Int32} {f : Nat → Nat → Int32}
set_option maxRecDepth 100000 in
set_option maxHeartbeats 2000000 in
theorem c_X4_unlikeSets (hI : cw_I K nn dn q w e) (hs : cw_S v f) {o1 : Nat} (ho1 : cw_ro K o1) (x3 : Int32) (p0 : 1 ≤ x3.toInt ∧ x3.toInt ≤ (w o1).toInt) : pm_Mt l g 132 3 0 0 [.ref (q 7), .ref (q o1), .ref (q 2), .int x3] (cw A0 g K nn dn q w e v f) (cw_Qs A0 g K nn dn q w e (fun r v2 f2 => ∃ x : Int32, r = some (.int x) ∧ (True))) := by
  refine mt_X4_unlikeSets rfl (fun J hC => ?_)
  have ro_nn : cw_ro K nn := hI.2.1.2.1
  have ro_dn : cw_ro K dn := hI.2.1.2.2.1
  have hu1 := hI.2.1
  unfold cw_W at hu1
  have rg_x3 := pm_rng x3
  have zz0 := cw_sz hI ho1
  refine hC.1 0 0 _ _ rfl _ _ _ _ _ ?_
  have k0 : (0 : Int32).toInt = 0 := rfl
  have k1 : (1 : Int32).toInt = 1 := rfl
  intro m2 em_5
  try have e2 : m2.toInt = (x3).toInt - (1) := by rw [em_5]; exact pm_subc _ _ (1) rfl (by omega) (by omega)
  refine And.intro (Exists.intro _ (cw_o2 hI.1)) (Exists.intro _ (Exists.intro _ (Exists.intro _ (Exists.intro _ (And.intro (c_X2_read hI hs ho1 (0 : Int32) m2 ) (And.intro rfl (fun r9 A9 h9 => ?_)))))))
  rcases h9 with ⟨v4, f4, rfl, hs4, rfl, by3⟩
  have lp6 : ∀ (n : Nat) (z4_15 : Int32) (z5_15 : Int32) (v5 : Nat → Int32) (f5 : Nat → Nat → Int32), cw_S v5 f5 → (0 ≤ z5_15.toInt ∧ z5_15.toInt ≤ 161) → (0 ≤ z4_15.toInt ∧ z4_15.toInt ≤ z5_15.toInt) → 200 - z5_15.toInt < (n : Int) → J 15 [some (.ref (q 7)), some (.ref (q o1)), some (.ref (q 2)), some (.int x3), some (.int z4_15), some (.int z5_15)] [] (cw A0 g K nn dn q w e v5 f5) 0 0 := by
    intro n
    induction n with
    | zero =>
      intro z4_15 z5_15 v5 f5 hs5 j0_15 j1_15 j2_15
      omega
    | succ n ih7 =>
      intro z4_15 z5_15 v5 f5 hs5 j0_15 j1_15 j2_15
      refine hC.1 1 15 _ _ rfl _ _ _ _ _ ?_
      intro m8 em_18
      try have e8 : m8.toInt = (z5_15).toInt + (x3).toInt := by rw [em_18]; exact pm_add _ _ (by omega) (by omega)
      refine Exists.intro _ (And.intro (cw_ro_o hI.1 ho1) ?_)
      have z9 := cw_sz hI ho1
      refine And.intro (fun c10 => ?_) (fun c10 => ?_)
      · skip
        refine hC.1 4 92 _ _ rfl _ _ _ _ _ ?_
        exact ⟨rfl, fun e9 => absurd e9 (by decide), rfl, v5, f5, rfl, hs5, z4_15, rfl, by exact True.intro⟩
      · skip
        refine And.intro (fun c11 => ?_) (fun c11 => ?_)
        · skip
          refine hC.1 2 59 _ _ rfl _ _ _ _ _ ?_
          refine Exists.intro _ (And.intro (cw_o2 hI.1) ?_)
          refine And.intro (Exists.intro _ (cw_o7 hI.1)) (Exists.intro _ (Exists.intro _ (Exists.intro _ (Exists.intro _ (And.intro (c_X4_isAmong hI hs5 (v5 3) z4_15 (by omega)) (And.intro rfl (fun r9 A9 h9 => ?_)))))))
          rcases h9 with ⟨y12, rfl, rfl, ⟨rfl, by12⟩ | ⟨rfl, by12⟩⟩
          · skip
            refine And.intro (fun _ => ?_) (fun c9 => absurd c9 (by decide))
            refine hC.1 3 86 _ _ rfl _ _ _ _ _ ?_
            intro m14 em_86
            try have e14 : m14.toInt = (z5_15).toInt + (1) := by rw [em_86]; exact pm_addc _ _ (1) rfl (by omega) (by omega)
            exact ih7 z4_15 m14 v5 f5 hs5 (by omega) (by omega) (by omega)
          · skip
            refine And.intro (fun c9 => absurd c9 (by decide)) (fun _ => ?_)
            refine Exists.intro _ (And.intro (cw_o7 hI.1) ?_)
            refine Exists.intro _ (And.intro (cw_o2 hI.1) ?_)
            refine Exists.intro _ (Exists.intro _ (And.intro (cw_a25 hI.1) (And.intro (by omega) ?_)))
            rw [cw_s25 hI.1]
            obtain ⟨f15, ef15⟩ : ∃ z9, z9 = va_up f5 25 (upd (f5 25) (z4_15).toInt.toNat (v5 3)) := ⟨_, rfl⟩
            rw [← ef15]
            have hs15 : cw_S v5 f15 := by rw [ef15]; exact cw_S_fr hs5 _ _ (by decide) (by decide)
            intro m16 em_83
            try have e16 : m16.toInt = (z4_15).toInt + (1) := by rw [em_83]; exact pm_addc _ _ (1) rfl (by omega) (by omega)
            refine hC.1 3 86 _ _ rfl _ _ _ _ _ ?_
            intro m17 em_86
            try have e17 : m17.toInt = (z5_15).toInt + (1) := by rw [em_86]; exact pm_addc _ _ (1) rfl (by omega) (by omega)
            exact ih7 m16 m17 v5 f15 hs15 (by omega) (by omega) (by omega)
        · skip
          refine Exists.intro _ (And.intro (cw_ro_o hI.1 ho1) ?_)
          intro m18 em_39
          try have e18 : m18.toInt = (z5_15).toInt - (1) := by rw [em_39]; exact pm_subc _ _ (1) rfl (by omega) (by omega)
          refine Exists.intro _ (Exists.intro _ (And.intro (Or.inl (cw_ro_1 hI.1 ho1)) (And.intro (by omega) ?_)))
          have w19 := cw_col hI ho1 (m18).toInt.toNat
          refine And.intro (Exists.intro _ (cw_o2 hI.1)) (Exists.intro _ (Exists.intro _ (Exists.intro _ (Exists.intro _ (And.intro (c_X2_drop hI hs5 (e (o1 + 1) (m18).toInt.toNat) (by omega)) (And.intro rfl (fun r9 A9 h9 => ?_)))))))
          rcases h9 with ⟨v21, f21, rfl, hs21, rfl, by20⟩
          refine Exists.intro _ (And.intro (cw_ro_o hI.1 ho1) ?_)
          intro m22 em_52
          try have e22 : m22.toInt = (z5_15).toInt + (x3).toInt := by rw [em_52]; exact pm_add _ _ (by omega) (by omega)
          intro m23 em_54
          try have e23 : m23.toInt = (m22).toInt - (1) := by rw [em_54]; exact pm_subc _ _ (1) rfl (by omega) (by omega)
          refine Exists.intro _ (Exists.intro _ (And.intro (Or.inl (cw_ro_1 hI.1 ho1)) (And.intro (by omega) ?_)))
          have w24 := cw_col hI ho1 (m23).toInt.toNat
          refine And.intro (Exists.intro _ (cw_o2 hI.1)) (Exists.intro _ (Exists.intro _ (Exists.intro _ (Exists.intro _ (And.intro (c_X2_take hI hs21 (e (o1 + 1) (m23).toInt.toNat) (by omega)) (And.intro rfl (fun r9 A9 h9 => ?_)))))))
          rcases h9 with ⟨v26, f26, rfl, hs26, rfl, by25⟩
          refine hC.1 2 59 _ _ rfl _ _ _ _ _ ?_
          refine Exists.intro _ (And.intro (cw_o2 hI.1) ?_)
          refine And.intro (Exists.intro _ (cw_o7 hI.1)) (Exists.intro _ (Exists.intro _ (Exists.intro _ (Exists.intro _ (And.intro (c_X4_isAmong hI hs26 (v26 3) z4_15 (by omega)) (And.intro rfl (fun r9 A9 h9 => ?_)))))))
          rcases h9 with ⟨y27, rfl, rfl, ⟨rfl, by27⟩ | ⟨rfl, by27⟩⟩
          · skip
            refine And.intro (fun _ => ?_) (fun c9 => absurd c9 (by decide))
            refine hC.1 3 86 _ _ rfl _ _ _ _ _ ?_
            intro m29 em_86
            try have e29 : m29.toInt = (z5_15).toInt + (1) := by rw [em_86]; exact pm_addc _ _ (1) rfl (by omega) (by omega)
            exact ih7 z4_15 m29 v26 f26 hs26 (by omega) (by omega) (by omega)
          · skip
            refine And.intro (fun c9 => absurd c9 (by decide)) (fun _ => ?_)
            refine Exists.intro _ (And.intro (cw_o7 hI.1) ?_)
            refine Exists.intro _ (And.intro (cw_o2 hI.1) ?_)
            refine Exists.intro _ (Exists.intro _ (And.intro (cw_a25 hI.1) (And.intro (by omega) ?_)))
            rw [cw_s25 hI.1]
            obtain ⟨f30, ef30⟩ : ∃ z9, z9 = va_up f26 25 (upd (f26 25) (z4_15).toInt.toNat (v26 3)) := ⟨_, rfl⟩
            rw [← ef30]
            have hs30 : cw_S v26 f30 := by rw [ef30]; exact cw_S_fr hs26 _ _ (by decide) (by decide)
            intro m31 em_83
            try have e31 : m31.toInt = (z4_15).toInt + (1) := by rw [em_83]; exact pm_addc _ _ (1) rfl (by omega) (by omega)
            refine hC.1 3 86 _ _ rfl _ _ _ _ _ ?_
            intro m32 em_86
            try have e32 : m32.toInt = (z5_15).toInt + (1) := by rw [em_86]; exact pm_addc _ _ (1) rfl (by omega) (by omega)
            exact ih7 m31 m32 v26 f30 hs30 (by omega) (by omega) (by omega)
  exact lp6 (200 - (0 : Int32).toInt).toNat.succ (0 : Int32) (0 : Int32) v4 f4 hs4 (by omega) (by omega) (by omega)

end
