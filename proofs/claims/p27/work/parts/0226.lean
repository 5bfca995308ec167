section
variable {l : Launch} {g : pm_G} {A0 : pm_H} {K nn dn : Nat} {q : Nat → Nat} {w : Nat → Int32} {e : Nat → Nat → Int32} {v : Nat → Int32} {f : Nat → Nat → Int32}
set_option maxRecDepth 100000 in
set_option maxHeartbeats 2000000 in
theorem c_X1_coveringLength (hI : cw_I K nn dn q w e) (hs : cw_S v f) {o1 : Nat} (ho1 : cw_ro K o1) (x3 : Int32) (x4 : Int32) (p0 : 0 ≤ x3.toInt ∧ x3.toInt ≤ x4.toInt ∧ x4.toInt < (w o1).toInt) : pm_Mt l g 89 3 0 0 [.ref (q 4), .ref (q o1), .ref (q 2), .int x3, .int x4] (cw A0 g K nn dn q w e v f) (cw_Qs A0 g K nn dn q w e (fun r v2 f2 => ∃ x : Int32, r = some (.int x) ∧ (True))) := by
  refine mt_X1_coveringLength rfl (fun J hC => ?_)
  have ro_nn : cw_ro K nn := hI.2.1.2.1
  have ro_dn : cw_ro K dn := hI.2.1.2.2.1
  have hu1 := hI.2.1
  unfold cw_W at hu1
  have rg_x3 := pm_rng x3
  have rg_x4 := pm_rng x4
  have zz0 := cw_sz hI ho1
  refine hC.1 0 0 _ _ rfl _ _ _ _ _ ?_
  refine And.intro (Exists.intro _ (cw_o2 hI.1)) (Exists.intro _ (Exists.intro _ (Exists.intro _ (Exists.intro _ (And.intro (c_X2_read hI hs ho1 x3 x4 ) (And.intro rfl (fun r9 A9 h9 => ?_)))))))
  rcases h9 with ⟨v3, f3, rfl, hs3, rfl, by2⟩
  refine Exists.intro _ (And.intro (cw_o4 hI.1) ?_)
  have k1 : (1 : Int32).toInt = 1 := rfl
  intro m4 em_14
  try have e4 : m4.toInt = (x3).toInt - (1) := by rw [em_14]; exact pm_subc _ _ (1) rfl (by omega) (by omega)
  refine Exists.intro _ (Exists.intro _ (Exists.intro _ (Exists.intro _ (And.intro (c_fill (cw_a19 hI.1) (by decide) m4) (And.intro rfl (fun r9 A9 h9 => ?_))))))
  obtain ⟨rfl, rfl⟩ := h9
  rw [cw_s19 hI.1]
  obtain ⟨f5, ef5⟩ : ∃ z9, z9 = va_up f3 19 (fun j => if j < 24 then m4 else f3 19 j) := ⟨_, rfl⟩
  rw [← ef5]
  have hs5 : cw_S v3 f5 := by rw [ef5]; exact cw_S_fr hs3 _ _ (by decide) (by decide)
  have lp7 : ∀ (n : Nat) (z5_24 : Int32) (z6_24 : Int32) (v6 : Nat → Int32) (f6 : Nat → Nat → Int32), cw_S v6 f6 → (x3.toInt ≤ z6_24.toInt ∧ z6_24.toInt ≤ x4.toInt + 1) → 200 - z6_24.toInt < (n : Int) → J 24 [some (.ref (q 4)), some (.ref (q o1)), some (.ref (q 2)), some (.int x3), some (.int x4), some (.int z5_24), some (.int z6_24), none] [] (cw A0 g K nn dn q w e v6 f6) 0 0 := by
    intro n
    induction n with
    | zero =>
      intro z5_24 z6_24 v6 f6 hs6 j0_24 j1_24
      omega
    | succ n ih8 =>
      intro z5_24 z6_24 v6 f6 hs6 j0_24 j1_24
      refine hC.1 1 24 _ _ rfl _ _ _ _ _ ?_
      refine And.intro (fun c9 => ?_) (fun c9 => ?_)
      · skip
        refine hC.1 2 72 _ _ rfl _ _ _ _ _ ?_
        have k0 : (0 : Int32).toInt = 0 := rfl
        have lp11 : ∀ (n : Nat) (z5_75 : Int32) (z6_75 : Int32), (0 ≤ z6_75.toInt ∧ z6_75.toInt ≤ 24) → 200 - z6_75.toInt < (n : Int) → J 75 [some (.ref (q 4)), some (.ref (q o1)), some (.ref (q 2)), some (.int x3), some (.int x4), some (.int z5_75), some (.int z6_75), none] [] (cw A0 g K nn dn q w e v6 f6) 0 0 := by
          intro n
          induction n with
          | zero =>
            intro z5_75 z6_75 j0_75 j1_75
            omega
          | succ n ih12 =>
            intro z5_75 z6_75 j0_75 j1_75
            refine hC.1 3 75 _ _ rfl _ _ _ _ _ ?_
            have k24 : (24 : Int32).toInt = 24 := rfl
            refine And.intro (fun c13 => ?_) (fun c13 => ?_)
            · skip
              refine hC.1 5 117 _ _ rfl _ _ _ _ _ ?_
              exact ⟨rfl, fun e9 => absurd e9 (by decide), rfl, v6, f6, rfl, hs6, z5_75, rfl, by exact True.intro⟩
            · skip
              refine Exists.intro _ (And.intro (cw_o2 hI.1) ?_)
              refine Exists.intro _ (Exists.intro _ (And.intro (Or.inl (cw_a14 hI.1)) (And.intro (by omega) ?_)))
              refine And.intro (fun c14 => ?_) (fun c14 => ?_)
              · skip
                refine hC.1 4 111 _ _ rfl _ _ _ _ _ ?_
                intro m15 em_111
                try have e15 : m15.toInt = (z6_75).toInt + (1) := by rw [em_111]; exact pm_addc _ _ (1) rfl (by omega) (by omega)
                exact ih12 z5_75 m15 (by omega) (by omega)
              · skip
                intro m16 em_97
                try have e16 : m16.toInt = (x4).toInt + (1) := by rw [em_97]; exact pm_addc _ _ (1) rfl (by omega) (by omega)
                refine Exists.intro _ (And.intro (cw_o4 hI.1) ?_)
                refine Exists.intro _ (Exists.intro _ (And.intro (Or.inl (cw_a19 hI.1)) (And.intro (by omega) ?_)))
                intro m17 em_105
                try have e17 : m17.toInt = (m16).toInt - ((f6 19 (z6_75).toInt.toNat)).toInt := by rw [em_105]; exact pm_sub _ _ (by omega) (by omega)
                refine Exists.intro _ (Exists.intro _ (Exists.intro _ (Exists.intro _ (And.intro (c_J9_max_7cf53 (cw A0 g K nn dn q w e v6 f6) z5_75 m17 ) (And.intro rfl (fun r9 A9 h9 => ?_))))))
                obtain ⟨y18, rfl, rfl, by18⟩ := h9
                refine hC.1 4 111 _ _ rfl _ _ _ _ _ ?_
                intro m20 em_111
                try have e20 : m20.toInt = (z6_75).toInt + (1) := by rw [em_111]; exact pm_addc _ _ (1) rfl (by omega) (by omega)
                exact ih12 y18 m20 (by omega) (by omega)
        exact lp11 (200 - (0 : Int32).toInt).toNat.succ z5_24 (0 : Int32) (by omega) (by omega)
      · skip
        refine Exists.intro _ (And.intro (cw_ro_o hI.1 ho1) ?_)
        refine Exists.intro _ (Exists.intro _ (And.intro (Or.inl (cw_ro_1 hI.1 ho1)) (And.intro (by omega) ?_)))
        have w21 := cw_col hI ho1 (z6_24).toInt.toNat
        refine Exists.intro _ (And.intro (cw_o4 hI.1) ?_)
        refine Exists.intro _ (Exists.intro _ (And.intro (Or.inl (cw_a19 hI.1)) (And.intro (by omega) ?_)))
        intro m22 em_51
        try have e22 : m22.toInt = (z6_24).toInt - ((f6 19 ((e (o1 + 1) (z6_24).toInt.toNat)).toInt.toNat)).toInt := by rw [em_51]; exact pm_sub _ _ (by omega) (by omega)
        refine Exists.intro _ (Exists.intro _ (Exists.intro _ (Exists.intro _ (And.intro (c_J9_max_7cf53 (cw A0 g K nn dn q w e v6 f6) z5_24 m22 ) (And.intro rfl (fun r9 A9 h9 => ?_))))))
        obtain ⟨y23, rfl, rfl, by23⟩ := h9
        refine Exists.intro _ (And.intro (cw_o4 hI.1) ?_)
        refine Exists.intro _ (Exists.intro _ (And.intro (cw_a19 hI.1) (And.intro (by omega) ?_)))
        rw [cw_s19 hI.1]
        obtain ⟨f25, ef25⟩ : ∃ z9, z9 = va_up f6 19 (upd (f6 19) ((e (o1 + 1) (z6_24).toInt.toNat)).toInt.toNat z6_24) := ⟨_, rfl⟩
        rw [← ef25]
        have hs25 : cw_S v6 f25 := by rw [ef25]; exact cw_S_fr hs6 _ _ (by decide) (by decide)
        intro m26 em_66
        try have e26 : m26.toInt = (z6_24).toInt + (1) := by rw [em_66]; exact pm_addc _ _ (1) rfl (by omega) (by omega)
        exact hC.2 [false, false, false, false, false, false, false, true] _ _ _ _ _ _ (ih8 y23 m26 v6 f25 hs25 (by omega) (by omega))
  exact lp7 (200 - x3.toInt).toNat.succ (1 : Int32) x3 v3 f5 hs5 (by omega) (by omega)

end
