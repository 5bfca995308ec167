section
variable {l : Launch} {g : pm_G} {A0 : pm_H} {K nn dn : Nat} {q : Nat → Nat} {w : Nat → Int32} {e : Nat → Nat → Int32} {v : Nat → Int32} {f : Nat → Nat → Int32}
set_option maxRecDepth 100000 in
set_option maxHeartbeats 2000000 in
theorem c_X0_listByMost__14 (hI : cw_I K nn dn q w e) (hs : cw_S v f)   : pm_Mt l g 72 0 0 0 [.ref (q 3), .ref (q 2), .ref (q 14)] (cw A0 g K nn dn q w e v f) (cw_Qs A0 g K nn dn q w e (fun r v2 f2 => r = none ∧ (True))) := by
  refine mt_X0_listByMost rfl (fun J hC => ?_)
  have ro_nn : cw_ro K nn := hI.2.1.2.1
  have ro_dn : cw_ro K dn := hI.2.1.2.2.1
  have hu1 := hI.2.1
  unfold cw_W at hu1
  refine hC.1 0 0 _ _ rfl _ _ _ _ _ ?_
  have k0 : (0 : Int32).toInt = 0 := rfl
  refine Exists.intro _ (And.intro (cw_o3 hI.1) (And.intro rfl ?_))
  rw [cw_p_found hI.1]
  obtain ⟨v2, ev2⟩ : ∃ z9, z9 = upd v 0 (0 : Int32) := ⟨_, rfl⟩
  rw [← ev2]
  have hs2 : cw_S v2 f := by rw [ev2]; exact cw_S_v0 hs _ (by omega)
  have ev2_0 : (v2 0).toInt = ((0 : Int32)).toInt := by rw [ev2]; rfl
  have lp4 : ∀ (n : Nat) (z3_7 : Int32) (v3 : Nat → Int32) (f3 : Nat → Nat → Int32), cw_S v3 f3 → (0 ≤ z3_7.toInt ∧ z3_7.toInt ≤ 24) → ((v3 0).toInt ≤ z3_7.toInt) → 200 - z3_7.toInt < (n : Int) → J 7 [some (.ref (q 3)), some (.ref (q 2)), some (.ref (q 14)), some (.int z3_7), none] [] (cw A0 g K nn dn q w e v3 f3) 0 0 := by
    intro n
    induction n with
    | zero =>
      intro z3_7 v3 f3 hs3 j0_7 j1_7 j2_7
      omega
    | succ n ih5 =>
      intro z3_7 v3 f3 hs3 j0_7 j1_7 j2_7
      refine hC.1 1 7 _ _ rfl _ _ _ _ _ ?_
      have k24 : (24 : Int32).toInt = 24 := rfl
      refine And.intro (fun c6 => ?_) (fun c6 => ?_)
      · skip
        refine hC.1 5 96 _ _ rfl _ _ _ _ _ ?_
        exact ⟨rfl, rfl, v3, f3, rfl, hs3, rfl, by exact True.intro⟩
      · skip
        refine Exists.intro _ (And.intro (cw_o2 hI.1) ?_)
        refine Exists.intro _ (Exists.intro _ (And.intro (Or.inl (cw_a14 hI.1)) (And.intro (by omega) ?_)))
        refine And.intro (fun c7 => ?_) (fun c7 => ?_)
        · skip
          refine hC.1 4 90 _ _ rfl _ _ _ _ _ ?_
          have k1 : (1 : Int32).toInt = 1 := rfl
          intro m8 em_90
          try have e8 : m8.toInt = (z3_7).toInt + (1) := by rw [em_90]; exact pm_addc _ _ (1) rfl (by omega) (by omega)
          exact ih5 m8 v3 f3 hs3 (by omega) (by omega) (by omega)
        · skip
          refine Exists.intro _ (And.intro (cw_o3 hI.1) ?_)
          have z9 := hs3.1
          have lp11 : ∀ (n : Nat) (z4_28 : Int32) (v10 : Nat → Int32) (f10 : Nat → Nat → Int32), cw_S v10 f10 → (0 ≤ z4_28.toInt ∧ z4_28.toInt ≤ (v10 0).toInt ∧ (v10 0).toInt ≤ z3_7.toInt) → z4_28.toInt < (n : Int) → J 28 [some (.ref (q 3)), some (.ref (q 2)), some (.ref (q 14)), some (.int z3_7), some (.int z4_28)] [] (cw A0 g K nn dn q w e v10 f10) 0 0 := by
            intro n
            induction n with
            | zero =>
              intro z4_28 v10 f10 hs10 j0_28 j1_28
              omega
            | succ n ih12 =>
              intro z4_28 v10 f10 hs10 j0_28 j1_28
              refine hC.1 2 28 _ _ rfl _ _ _ _ _ ?_
              refine And.intro (fun c13 => ?_) (fun c13 => ?_)
              · skip
                refine hC.1 3 72 _ _ rfl _ _ _ _ _ ?_
                refine Exists.intro _ (And.intro (cw_o3 hI.1) ?_)
                refine Exists.intro _ (Exists.intro _ (And.intro (cw_a16 hI.1) (And.intro (by omega) ?_)))
                rw [cw_s16 hI.1]
                obtain ⟨f14, ef14⟩ : ∃ z9, z9 = va_up f10 16 (upd (f10 16) (z4_28).toInt.toNat z3_7) := ⟨_, rfl⟩
                rw [← ef14]
                have hs14 : cw_S v10 f14 := by rw [ef14]; exact cw_S_f16 hs10 _ _ (by omega)
                refine Exists.intro _ (And.intro (cw_o3 hI.1) ?_)
                have z15 := hs14.1
                have k1 : (1 : Int32).toInt = 1 := rfl
                intro m16 em_86
                try have e16 : m16.toInt = ((v10 0)).toInt + (1) := by rw [em_86]; exact pm_addc _ _ (1) rfl (by omega) (by omega)
                refine Exists.intro _ (And.intro (cw_o3 hI.1) (And.intro rfl ?_))
                rw [cw_p_found hI.1]
                obtain ⟨v17, ev17⟩ : ∃ z9, z9 = upd v10 0 m16 := ⟨_, rfl⟩
                rw [← ev17]
                have hs17 : cw_S v17 f14 := by rw [ev17]; exact cw_S_v0 hs14 _ (by omega)
                have ev17_0 : (v17 0).toInt = (m16).toInt := by rw [ev17]; rfl
                refine hC.1 4 90 _ _ rfl _ _ _ _ _ ?_
                intro m18 em_90
                try have e18 : m18.toInt = (z3_7).toInt + (1) := by rw [em_90]; exact pm_addc _ _ (1) rfl (by omega) (by omega)
                exact hC.2 [false, false, false, false, true] _ _ _ _ _ _ (ih5 m18 v17 f14 hs17 (by omega) (by omega) (by omega))
              · skip
                refine Exists.intro _ (And.intro (cw_o3 hI.1) ?_)
                have k1 : (1 : Int32).toInt = 1 := rfl
                intro m19 em_41
                try have e19 : m19.toInt = (z4_28).toInt - (1) := by rw [em_41]; exact pm_subc _ _ (1) rfl (by omega) (by omega)
                refine Exists.intro _ (Exists.intro _ (And.intro (Or.inl (cw_a16 hI.1)) (And.intro (by omega) ?_)))
                have w20 := hs10.2.1 (m19).toInt.toNat
                refine Exists.intro _ (Exists.intro _ (And.intro (Or.inl (cw_a14 hI.1)) (And.intro (by omega) ?_)))
                refine Exists.intro _ (Exists.intro _ (And.intro (Or.inl (cw_a14 hI.1)) (And.intro (by omega) ?_)))
                refine And.intro (fun c21 => ?_) (fun c21 => ?_)
                · skip
                  refine hC.1 3 72 _ _ rfl _ _ _ _ _ ?_
                  refine Exists.intro _ (And.intro (cw_o3 hI.1) ?_)
                  refine Exists.intro _ (Exists.intro _ (And.intro (cw_a16 hI.1) (And.intro (by omega) ?_)))
                  rw [cw_s16 hI.1]
                  obtain ⟨f22, ef22⟩ : ∃ z9, z9 = va_up f10 16 (upd (f10 16) (z4_28).toInt.toNat z3_7) := ⟨_, rfl⟩
                  rw [← ef22]
                  have hs22 : cw_S v10 f22 := by rw [ef22]; exact cw_S_f16 hs10 _ _ (by omega)
                  refine Exists.intro _ (And.intro (cw_o3 hI.1) ?_)
                  have z23 := hs22.1
                  intro m24 em_86
                  try have e24 : m24.toInt = ((v10 0)).toInt + (1) := by rw [em_86]; exact pm_addc _ _ (1) rfl (by omega) (by omega)
                  refine Exists.intro _ (And.intro (cw_o3 hI.1) (And.intro rfl ?_))
                  rw [cw_p_found hI.1]
                  obtain ⟨v25, ev25⟩ : ∃ z9, z9 = upd v10 0 m24 := ⟨_, rfl⟩
                  rw [← ev25]
                  have hs25 : cw_S v25 f22 := by rw [ev25]; exact cw_S_v0 hs22 _ (by omega)
                  have ev25_0 : (v25 0).toInt = (m24).toInt := by rw [ev25]; rfl
                  refine hC.1 4 90 _ _ rfl _ _ _ _ _ ?_
                  intro m26 em_90
                  try have e26 : m26.toInt = (z3_7).toInt + (1) := by rw [em_90]; exact pm_addc _ _ (1) rfl (by omega) (by omega)
                  exact hC.2 [false, false, false, false, true] _ _ _ _ _ _ (ih5 m26 v25 f22 hs25 (by omega) (by omega) (by omega))
                · skip
                  refine Exists.intro _ (And.intro (cw_o3 hI.1) ?_)
                  refine Exists.intro _ (And.intro (cw_o3 hI.1) ?_)
                  intro m27 em_63
                  try have e27 : m27.toInt = (z4_28).toInt - (1) := by rw [em_63]; exact pm_subc _ _ (1) rfl (by omega) (by omega)
                  refine Exists.intro _ (Exists.intro _ (And.intro (Or.inl (cw_a16 hI.1)) (And.intro (by omega) ?_)))
                  have w28 := hs10.2.1 (m27).toInt.toNat
                  refine Exists.intro _ (Exists.intro _ (And.intro (cw_a16 hI.1) (And.intro (by omega) ?_)))
                  rw [cw_s16 hI.1]
                  obtain ⟨f29, ef29⟩ : ∃ z9, z9 = va_up f10 16 (upd (f10 16) (z4_28).toInt.toNat (f10 16 (m27).toInt.toNat)) := ⟨_, rfl⟩
                  rw [← ef29]
                  have hs29 : cw_S v10 f29 := by rw [ef29]; exact cw_S_f16 hs10 _ _ (by omega)
                  have km1 : (-1 : Int32).toInt = -1 := rfl
                  intro m30 em_66
                  try have e30 : m30.toInt = (z4_28).toInt + (-1) := by rw [em_66]; exact pm_addc _ _ (-1) rfl (by omega) (by omega)
                  exact ih12 m30 v10 f29 hs29 (by omega) (by omega)
          exact lp11 ((v3 0).toInt).toNat.succ (v3 0) v3 f3 hs3 (by omega) (by omega)
  exact lp4 (200 - (0 : Int32).toInt).toNat.succ (0 : Int32) v2 f hs2 (by omega) (by omega) (by omega)

end
