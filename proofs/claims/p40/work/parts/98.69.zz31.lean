section
variable {l : Launch} {g : pm_G} {A0 : pm_H} {h : Nat} {q : Nat → Nat}
set_option maxRecDepth 100000 in
set_option maxHeartbeats 2000000 in
theorem V_X11_solve (D : md_D h q) (v : Nat → Int32) (f : Nat → Nat → Int32) (hv : md_V v) (hf : md_F f)  : pm_Mt l g 278 3 0 0 [.ref h] (md A0 g h q v f) (md_Qw A0 g h q f (fun r v2 f2 => f2 0 = f 0 ∧ f2 1 = f 1 ∧ f2 12 = f 12 ∧ f2 13 = f 13 ∧ f2 14 = f 14 ∧ f2 15 = f 15 ∧ f2 7 = f 7 ∧ f2 8 = f 8 ∧ f2 11 = f 11 ∧ ((v2 0).toInt = (v 0).toInt ∧ (v2 1).toInt = (v 1).toInt ∧ (v2 2).toInt = (v 2).toInt ∧ (v2 3).toInt = (v 3).toInt ∧ (v2 4).toInt = (v 4).toInt ∧ (v2 5).toInt = (v 5).toInt ∧ (v2 6).toInt = (v 6).toInt) ∧ ((∀ j9 : Nat, (j9 : Int) < (v 6).toInt → AKI (f 0) (f 1) (f 2) (v 0).toInt (v 4).toInt (rNi f) (rC f) (rM f) (f 11 j9) (f 7 j9) (f 8 j9) (f2 9 j9) (f2 10 j9)) ∧ r.toInt = cnA (f2 9) (v 6).toInt.toNat))) := by
  refine mt_X11_solve rfl (fun J hC => ?_)
  have hv9 := hv
  unfold md_V at hv9
  refine hC.1 0 0 _ _ rfl _ _ _ _ _ ?_
  have k0 : (0 : Int32).toInt = 0 := rfl
  have lp2 : ∀ (n : Nat) (z1_4 : Int32) (z2_4 : Int32) (v1 : Nat → Int32) (f1 : Nat → Nat → Int32), md_V v1 → md_F f1 → f1 2 = f 2 → f1 0 = f 0 → f1 1 = f 1 → f1 12 = f 12 → f1 13 = f 13 → f1 14 = f 14 → f1 15 = f 15 → f1 7 = f 7 → f1 8 = f 8 → f1 11 = f 11 → (0 ≤ z2_4.toInt ∧ z2_4.toInt ≤ (v 6).toInt) → (z1_4.toInt = cnA (f1 9) z2_4.toInt.toNat) → (∀ j9 : Nat, (j9 : Int) < z2_4.toInt → AKI (f 0) (f 1) (f 2) (v 0).toInt (v 4).toInt (rNi f) (rC f) (rM f) (f 11 j9) (f 7 j9) (f 8 j9) (f1 9 j9) (f1 10 j9)) → (v1 0).toInt = (v 0).toInt → (v1 1).toInt = (v 1).toInt → (v1 2).toInt = (v 2).toInt → (v1 3).toInt = (v 3).toInt → (v1 4).toInt = (v 4).toInt → (v1 5).toInt = (v 5).toInt → (v1 6).toInt = (v 6).toInt → 200 - z2_4.toInt < (n : Int) → J 4 [some (.ref h), some (.int z1_4), some (.int z2_4), none, none, none, none] [] (md A0 g h q v1 f1) 0 0 := by
    intro n
    induction n with
    | zero =>
      intro z1_4 z2_4 v1 f1 hv1 hf1 hw1 hr1_0 hr1_1 hr1_12 hr1_13 hr1_14 hr1_15 hr1_7 hr1_8 hr1_11 j0_4 j1_4 j2_4 j3_4 j4_4 j5_4 j6_4 j7_4 j8_4 j9_4 j10_4
      omega
    | succ n ih3 =>
      intro z1_4 z2_4 v1 f1 hv1 hf1 hw1 hr1_0 hr1_1 hr1_12 hr1_13 hr1_14 hr1_15 hr1_7 hr1_8 hr1_11 j0_4 j1_4 j2_4 j3_4 j4_4 j5_4 j6_4 j7_4 j8_4 j9_4 j10_4
      have yn_9 := cnA_r (f1 9) z2_4.toInt.toNat
      have l0_9 := hr1_0
      have l1_9 := hr1_1
      have l7_9 := hr1_7
      have l8_9 := hr1_8
      have l11_9 := hr1_11
      have l12_9 := hr1_12
      have l13_9 := hr1_13
      have l14_9 := hr1_14
      have lf_9 := hf1
      have lN_9 : rNi f1 = rNi f := (by unfold rNi rN; rw [l14_9])
      have lC_9 : rC f1 = rC f := (by unfold rC; rw [l12_9])
      have lM_9 : rM f1 = rM f := (by unfold rM; rw [l13_9])
      have lv0_9 : (v1 0).toInt = (v 0).toInt := (by omega)
      have lv4_9 : (v1 4).toInt = (v 4).toInt := (by omega)
      refine hC.1 1 4 _ _ rfl _ _ _ _ _ ?_
      have hu4 := hv1
      unfold md_V at hu4
      refine Exists.intro _ (And.intro md_o ?_)
      refine And.intro (fun c5 => ?_) (fun c5 => ?_)
      · skip
        refine hC.1 13 169 _ _ rfl _ _ _ _ _ ?_
        exact ⟨rfl, fun e9 => absurd e9 (by decide), rfl, z1_4, v1, f1, rfl, rfl, hv1, hf1, hw1, hr1_0, hr1_1, hr1_12, hr1_13, hr1_14, hr1_15, hr1_7, hr1_8, hr1_11, by first | omega | (dsimp only; omega) | trivial, by refine ⟨fun j9 h9 => j2_4 j9 (by omega), ?_⟩; refine Eq.trans j1_4 ?_; rw [show z2_4.toInt.toNat = (v 6).toInt.toNat by omega]⟩
      · skip
        refine Exists.intro _ (And.intro md_o ?_)
        refine Exists.intro _ (Exists.intro _ (And.intro (Or.inl (md_a_askedEdit D)) (And.intro (by omega) ?_)))
        refine Exists.intro _ (And.intro md_o ?_)
        refine Exists.intro _ (Exists.intro _ (And.intro (Or.inl (md_a_askedOne D)) (And.intro (by omega) ?_)))
        refine And.intro (Exists.intro _ md_o) (Exists.intro _ (Exists.intro _ (Exists.intro _ (Exists.intro _ (And.intro (V_X11_placeBy D v1 f1 hv1 hf1 (f1 11 (z2_4).toInt.toNat) (f1 7 (z2_4).toInt.toNat) ) (And.intro rfl (fun r9 A9 h9 => ?_)))))))
        obtain ⟨y6, rfl, rfl, by6⟩ := h9
        have yp_9 := by6.2
        rw [lv0_9, lv4_9, l1_9, lN_9, lM_9, l7_9, l11_9] at yp_9
        have yp_8 := by6.1
        refine Exists.intro _ (And.intro md_o ?_)
        refine Exists.intro _ (Exists.intro _ (And.intro (Or.inl (md_a_askedEdit D)) (And.intro (by omega) ?_)))
        refine Exists.intro _ (And.intro md_o ?_)
        refine Exists.intro _ (Exists.intro _ (And.intro (Or.inl (md_a_askedOther D)) (And.intro (by omega) ?_)))
        refine And.intro (Exists.intro _ md_o) (Exists.intro _ (Exists.intro _ (Exists.intro _ (Exists.intro _ (And.intro (V_X11_placeBy D v1 f1 hv1 hf1 (f1 11 (z2_4).toInt.toNat) (f1 8 (z2_4).toInt.toNat) ) (And.intro rfl (fun r9 A9 h9 => ?_)))))))
        obtain ⟨y7, rfl, rfl, by7⟩ := h9
        have yq_9 := by7.2
        rw [lv0_9, lv4_9, l1_9, lN_9, lM_9, l8_9, l11_9] at yq_9
        have yq_8 := by7.1
        refine And.intro (fun c8 => ?_) (fun c8 => ?_)
        · skip
          refine hC.1 2 60 _ _ rfl _ _ _ _ _ ?_
          refine hC.1 3 61 _ _ rfl _ _ _ _ _ ?_
          refine And.intro (fun c9 => absurd c9 (by decide)) (fun _ => ?_)
          refine hC.1 6 107 _ _ rfl _ _ _ _ _ ?_
          refine Exists.intro _ (And.intro md_o ?_)
          refine And.intro (fun _ => ?_) (fun c9 => absurd c9 (by decide))
          refine hC.1 7 127 _ _ rfl _ _ _ _ _ ?_
          have km1 : (-1 : Int32).toInt = -1 := rfl
          refine hC.1 8 128 _ _ rfl _ _ _ _ _ ?_
          refine Exists.intro _ (Exists.intro _ (And.intro (md_a_answerCount D) (And.intro (by omega) ?_)))
          rw [md_s_answerCount D]
          obtain ⟨f9, ef9⟩ : ∃ z9, z9 = va_up f1 9 (upd (f1 9) (z2_4).toInt.toNat (-1 : Int32)) := ⟨_, rfl⟩
          rw [← ef9]
          have pf_128 : f9 9 = upd (f1 9) (z2_4).toInt.toNat (-1 : Int32) := by rw [ef9]; exact if_pos rfl
          have pg_128 : ∀ i9, i9 ≠ 9 → f9 i9 = f1 i9 := fun i9 h9 => by rw [ef9]; exact if_neg h9
          have hf9 : md_F f9 := by rw [ef9]; exact md_F_st hf1 9 _ _ (md_rng _ _ (by decide))
          have hw9 : f9 2 = f 2 := (show f9 2 = f1 2 by rw [ef9]; rfl).trans hw1
          have hr9_0 : f9 0 = f 0 := (show f9 0 = f1 0 by rw [ef9]; rfl).trans hr1_0
          have hr9_1 : f9 1 = f 1 := (show f9 1 = f1 1 by rw [ef9]; rfl).trans hr1_1
          have hr9_12 : f9 12 = f 12 := (show f9 12 = f1 12 by rw [ef9]; rfl).trans hr1_12
          have hr9_13 : f9 13 = f 13 := (show f9 13 = f1 13 by rw [ef9]; rfl).trans hr1_13
          have hr9_14 : f9 14 = f 14 := (show f9 14 = f1 14 by rw [ef9]; rfl).trans hr1_14
          have hr9_15 : f9 15 = f 15 := (show f9 15 = f1 15 by rw [ef9]; rfl).trans hr1_15
          have hr9_7 : f9 7 = f 7 := (show f9 7 = f1 7 by rw [ef9]; rfl).trans hr1_7
          have hr9_8 : f9 8 = f 8 := (show f9 8 = f1 8 by rw [ef9]; rfl).trans hr1_8
          have hr9_11 : f9 11 = f 11 := (show f9 11 = f1 11 by rw [ef9]; rfl).trans hr1_11
          refine Exists.intro _ (And.intro md_o ?_)
          refine And.intro (fun _ => ?_) (fun c9 => absurd c9 (by decide))
          refine hC.1 9 148 _ _ rfl _ _ _ _ _ ?_
          refine hC.1 10 149 _ _ rfl _ _ _ _ _ ?_
          refine Exists.intro _ (Exists.intro _ (And.intro (md_a_answerWeight D) (And.intro (by omega) ?_)))
          rw [md_s_answerWeight D]
          obtain ⟨f10, ef10⟩ : ∃ z9, z9 = va_up f9 10 (upd (f9 10) (z2_4).toInt.toNat (-1 : Int32)) := ⟨_, rfl⟩
          rw [← ef10]
          have pf_149 : f10 10 = upd (f9 10) (z2_4).toInt.toNat (-1 : Int32) := by rw [ef10]; exact if_pos rfl
          have pg_149 : ∀ i9, i9 ≠ 10 → f10 i9 = f9 i9 := fun i9 h9 => by rw [ef10]; exact if_neg h9
          have hf10 : md_F f10 := by rw [ef10]; exact md_F_st hf9 10 _ _ (md_rng _ _ (by decide))
          have hw10 : f10 2 = f 2 := (show f10 2 = f9 2 by rw [ef10]; rfl).trans hw9
          have hr10_0 : f10 0 = f 0 := (show f10 0 = f9 0 by rw [ef10]; rfl).trans hr9_0
          have hr10_1 : f10 1 = f 1 := (show f10 1 = f9 1 by rw [ef10]; rfl).trans hr9_1
          have hr10_12 : f10 12 = f 12 := (show f10 12 = f9 12 by rw [ef10]; rfl).trans hr9_12
          have hr10_13 : f10 13 = f 13 := (show f10 13 = f9 13 by rw [ef10]; rfl).trans hr9_13
          have hr10_14 : f10 14 = f 14 := (show f10 14 = f9 14 by rw [ef10]; rfl).trans hr9_14
          have hr10_15 : f10 15 = f 15 := (show f10 15 = f9 15 by rw [ef10]; rfl).trans hr9_15
          have hr10_7 : f10 7 = f 7 := (show f10 7 = f9 7 by rw [ef10]; rfl).trans hr9_7
          have hr10_8 : f10 8 = f 8 := (show f10 8 = f9 8 by rw [ef10]; rfl).trans hr9_8
          have hr10_11 : f10 11 = f 11 := (show f10 11 = f9 11 by rw [ef10]; rfl).trans hr9_11
          refine And.intro (fun _ => ?_) (fun c9 => absurd c9 (by decide))
          refine hC.1 11 160 _ _ rfl _ _ _ _ _ ?_
          refine hC.1 12 161 _ _ rfl _ _ _ _ _ ?_
          intro m11 em_161
          try have e11 : m11.toInt = (z1_4).toInt + (0) := by rw [em_161]; exact pm_addc _ _ (0) rfl (by omega) (by omega)
          have k1 : (1 : Int32).toInt = 1 := rfl
          intro m12 em_163
          try have e12 : m12.toInt = (z2_4).toInt + (1) := by rw [em_163]; exact pm_addc _ _ (1) rfl (by omega) (by omega)
          exact hC.2 [false, false, false, true, true, true, true] _ _ _ _ _ _ (ih3 m11 m12 v1 f10 hv1 hf10 hw10 hr10_0 hr10_1 hr10_12 hr10_13 hr10_14 hr10_15 hr10_7 hr10_8 hr10_11 (by omega) (by rw [show m12.toInt.toNat = z2_4.toInt.toNat + 1 by omega]; first | (rw [cnA_0 ((pg_149 9 (by decide)).trans pf_128) rfl]; omega) | (rw [cnA_1 ((pg_149 9 (by decide)).trans pf_128) (m1_ne (by omega))]; omega)) (by intro j9 h9; by_cases h8 : j9 = z2_4.toInt.toNat; (subst h8; rw [pg_149 9 (by decide), pf_128, pf_149, pg_128 10 (by decide), pk_us, pk_us]; first | (exact AKI_no yp_9 yq_9 (by omega) rfl rfl) | (exact AKI_yes yp_9 yq_9 (by omega) (by omega) ys_9 yc_7 yw_9)); (rw [pg_149 9 (by decide), pf_128, pf_149, pg_128 10 (by decide), pk_un h8, pk_un h8]; exact j2_4 j9 (by omega))) (by omega) (by omega) (by omega) (by omega) (by omega) (by omega) (by omega) (by omega))
        · skip
          refine And.intro (fun c13 => ?_) (fun c13 => ?_)
          · skip
            refine hC.1 2 60 _ _ rfl _ _ _ _ _ ?_
            refine hC.1 3 61 _ _ rfl _ _ _ _ _ ?_
            refine And.intro (fun c9 => absurd c9 (by decide)) (fun _ => ?_)
            refine hC.1 6 107 _ _ rfl _ _ _ _ _ ?_
            refine Exists.intro _ (And.intro md_o ?_)
            refine And.intro (fun _ => ?_) (fun c9 => absurd c9 (by decide))
            refine hC.1 7 127 _ _ rfl _ _ _ _ _ ?_
            have km1 : (-1 : Int32).toInt = -1 := rfl
            refine hC.1 8 128 _ _ rfl _ _ _ _ _ ?_
            refine Exists.intro _ (Exists.intro _ (And.intro (md_a_answerCount D) (And.intro (by omega) ?_)))
            rw [md_s_answerCount D]
            obtain ⟨f14, ef14⟩ : ∃ z9, z9 = va_up f1 9 (upd (f1 9) (z2_4).toInt.toNat (-1 : Int32)) := ⟨_, rfl⟩
            rw [← ef14]
            have pf_128 : f14 9 = upd (f1 9) (z2_4).toInt.toNat (-1 : Int32) := by rw [ef14]; exact if_pos rfl
            have pg_128 : ∀ i9, i9 ≠ 9 → f14 i9 = f1 i9 := fun i9 h9 => by rw [ef14]; exact if_neg h9
            have hf14 : md_F f14 := by rw [ef14]; exact md_F_st hf1 9 _ _ (md_rng _ _ (by decide))
            have hw14 : f14 2 = f 2 := (show f14 2 = f1 2 by rw [ef14]; rfl).trans hw1
            have hr14_0 : f14 0 = f 0 := (show f14 0 = f1 0 by rw [ef14]; rfl).trans hr1_0
            have hr14_1 : f14 1 = f 1 := (show f14 1 = f1 1 by rw [ef14]; rfl).trans hr1_1
            have hr14_12 : f14 12 = f 12 := (show f14 12 = f1 12 by rw [ef14]; rfl).trans hr1_12
            have hr14_13 : f14 13 = f 13 := (show f14 13 = f1 13 by rw [ef14]; rfl).trans hr1_13
            have hr14_14 : f14 14 = f 14 := (show f14 14 = f1 14 by rw [ef14]; rfl).trans hr1_14
            have hr14_15 : f14 15 = f 15 := (show f14 15 = f1 15 by rw [ef14]; rfl).trans hr1_15
            have hr14_7 : f14 7 = f 7 := (show f14 7 = f1 7 by rw [ef14]; rfl).trans hr1_7
            have hr14_8 : f14 8 = f 8 := (show f14 8 = f1 8 by rw [ef14]; rfl).trans hr1_8
            have hr14_11 : f14 11 = f 11 := (show f14 11 = f1 11 by rw [ef14]; rfl).trans hr1_11
            refine Exists.intro _ (And.intro md_o ?_)
            refine And.intro (fun _ => ?_) (fun c9 => absurd c9 (by decide))
            refine hC.1 9 148 _ _ rfl _ _ _ _ _ ?_
            refine hC.1 10 149 _ _ rfl _ _ _ _ _ ?_
            refine Exists.intro _ (Exists.intro _ (And.intro (md_a_answerWeight D) (And.intro (by omega) ?_)))
            rw [md_s_answerWeight D]
            obtain ⟨f15, ef15⟩ : ∃ z9, z9 = va_up f14 10 (upd (f14 10) (z2_4).toInt.toNat (-1 : Int32)) := ⟨_, rfl⟩
            rw [← ef15]
            have pf_149 : f15 10 = upd (f14 10) (z2_4).toInt.toNat (-1 : Int32) := by rw [ef15]; exact if_pos rfl
            have pg_149 : ∀ i9, i9 ≠ 10 → f15 i9 = f14 i9 := fun i9 h9 => by rw [ef15]; exact if_neg h9
            have hf15 : md_F f15 := by rw [ef15]; exact md_F_st hf14 10 _ _ (md_rng _ _ (by decide))
            have hw15 : f15 2 = f 2 := (show f15 2 = f14 2 by rw [ef15]; rfl).trans hw14
            have hr15_0 : f15 0 = f 0 := (show f15 0 = f14 0 by rw [ef15]; rfl).trans hr14_0
            have hr15_1 : f15 1 = f 1 := (show f15 1 = f14 1 by rw [ef15]; rfl).trans hr14_1
            have hr15_12 : f15 12 = f 12 := (show f15 12 = f14 12 by rw [ef15]; rfl).trans hr14_12
            have hr15_13 : f15 13 = f 13 := (show f15 13 = f14 13 by rw [ef15]; rfl).trans hr14_13
            have hr15_14 : f15 14 = f 14 := (show f15 14 = f14 14 by rw [ef15]; rfl).trans hr14_14
            have hr15_15 : f15 15 = f 15 := (show f15 15 = f14 15 by rw [ef15]; rfl).trans hr14_15
            have hr15_7 : f15 7 = f 7 := (show f15 7 = f14 7 by rw [ef15]; rfl).trans hr14_7
            have hr15_8 : f15 8 = f 8 := (show f15 8 = f14 8 by rw [ef15]; rfl).trans hr14_8
            have hr15_11 : f15 11 = f 11 := (show f15 11 = f14 11 by rw [ef15]; rfl).trans hr14_11
            refine And.intro (fun _ => ?_) (fun c9 => absurd c9 (by decide))
            refine hC.1 11 160 _ _ rfl _ _ _ _ _ ?_
            refine hC.1 12 161 _ _ rfl _ _ _ _ _ ?_
            intro m16 em_161
            try have e16 : m16.toInt = (z1_4).toInt + (0) := by rw [em_161]; exact pm_addc _ _ (0) rfl (by omega) (by omega)
            have k1 : (1 : Int32).toInt = 1 := rfl
            intro m17 em_163
            try have e17 : m17.toInt = (z2_4).toInt + (1) := by rw [em_163]; exact pm_addc _ _ (1) rfl (by omega) (by omega)
            exact hC.2 [false, false, false, true, true, true, true] _ _ _ _ _ _ (ih3 m16 m17 v1 f15 hv1 hf15 hw15 hr15_0 hr15_1 hr15_12 hr15_13 hr15_14 hr15_15 hr15_7 hr15_8 hr15_11 (by omega) (by rw [show m17.toInt.toNat = z2_4.toInt.toNat + 1 by omega]; first | (rw [cnA_0 ((pg_149 9 (by decide)).trans pf_128) rfl]; omega) | (rw [cnA_1 ((pg_149 9 (by decide)).trans pf_128) (m1_ne (by omega))]; omega)) (by intro j9 h9; by_cases h8 : j9 = z2_4.toInt.toNat; (subst h8; rw [pg_149 9 (by decide), pf_128, pf_149, pg_128 10 (by decide), pk_us, pk_us]; first | (exact AKI_no yp_9 yq_9 (by omega) rfl rfl) | (exact AKI_yes yp_9 yq_9 (by omega) (by omega) ys_9 yc_7 yw_9)); (rw [pg_149 9 (by decide), pf_128, pf_149, pg_128 10 (by decide), pk_un h8, pk_un h8]; exact j2_4 j9 (by omega))) (by omega) (by omega) (by omega) (by omega) (by omega) (by omega) (by omega) (by omega))
          · skip
            have k1 : (1 : Int32).toInt = 1 := rfl
            refine hC.1 3 61 _ _ rfl _ _ _ _ _ ?_
            refine And.intro (fun _ => ?_) (fun c9 => absurd c9 (by decide))
            refine hC.1 4 72 _ _ rfl _ _ _ _ _ ?_
            refine And.intro (fun c18 => ?_) (fun c18 => ?_)
            · skip
              refine hC.1 5 94 _ _ rfl _ _ _ _ _ ?_
              refine Exists.intro _ (And.intro md_o ?_)
              refine Exists.intro _ (Exists.intro _ (And.intro (Or.inl (md_a_askedEdit D)) (And.intro (by omega) ?_)))
              refine And.intro (Exists.intro _ md_o) (Exists.intro _ (Exists.intro _ (Exists.intro _ (Exists.intro _ (And.intro (V_X11_setBy D v1 f1 hv1 hf1 (f1 11 (z2_4).toInt.toNat) y7 y6 (by omega) (by omega) (by omega)) (And.intro rfl (fun r9 A9 h9 => ?_)))))))
              obtain ⟨y19, rfl, rfl, by19⟩ := h9
              have ys_9 := by19
              rw [l0_9, lC_9, l11_9] at ys_9
              refine hC.1 6 107 _ _ rfl _ _ _ _ _ ?_
              refine Exists.intro _ (And.intro md_o ?_)
              refine And.intro (fun c9 => absurd c9 (by decide)) (fun _ => ?_)
              refine Exists.intro _ (Exists.intro _ (Exists.intro _ (Exists.intro _ (And.intro (F_X11_bits (md A0 g h q v1 f1) y19 ) (And.intro rfl (fun r9 A9 h9 => ?_))))))
              obtain ⟨y20, rfl, rfl, by20⟩ := h9
              have yc_9 := by20
              have yc_7 := yc_9.trans (congrArg (fun n9 : Nat => (n9 : Int)) (SB24 ys_9 (fun j9 => hf 0 j9) (fun i9 j9 => hf 12 _)))
              refine hC.1 8 128 _ _ rfl _ _ _ _ _ ?_
              refine Exists.intro _ (Exists.intro _ (And.intro (md_a_answerCount D) (And.intro (by omega) ?_)))
              rw [md_s_answerCount D]
              obtain ⟨f21, ef21⟩ : ∃ z9, z9 = va_up f1 9 (upd (f1 9) (z2_4).toInt.toNat y20) := ⟨_, rfl⟩
              rw [← ef21]
              have pf_128 : f21 9 = upd (f1 9) (z2_4).toInt.toNat y20 := by rw [ef21]; exact if_pos rfl
              have pg_128 : ∀ i9, i9 ≠ 9 → f21 i9 = f1 i9 := fun i9 h9 => by rw [ef21]; exact if_neg h9
              have hf21 : md_F f21 := by rw [ef21]; exact md_F_st hf1 9 _ _ (md_rng _ _ (by decide))
              have hw21 : f21 2 = f 2 := (show f21 2 = f1 2 by rw [ef21]; rfl).trans hw1
              have hr21_0 : f21 0 = f 0 := (show f21 0 = f1 0 by rw [ef21]; rfl).trans hr1_0
              have hr21_1 : f21 1 = f 1 := (show f21 1 = f1 1 by rw [ef21]; rfl).trans hr1_1
              have hr21_12 : f21 12 = f 12 := (show f21 12 = f1 12 by rw [ef21]; rfl).trans hr1_12
              have hr21_13 : f21 13 = f 13 := (show f21 13 = f1 13 by rw [ef21]; rfl).trans hr1_13
              have hr21_14 : f21 14 = f 14 := (show f21 14 = f1 14 by rw [ef21]; rfl).trans hr1_14
              have hr21_15 : f21 15 = f 15 := (show f21 15 = f1 15 by rw [ef21]; rfl).trans hr1_15
              have hr21_7 : f21 7 = f 7 := (show f21 7 = f1 7 by rw [ef21]; rfl).trans hr1_7
              have hr21_8 : f21 8 = f 8 := (show f21 8 = f1 8 by rw [ef21]; rfl).trans hr1_8
              have hr21_11 : f21 11 = f 11 := (show f21 11 = f1 11 by rw [ef21]; rfl).trans hr1_11
              refine Exists.intro _ (And.intro md_o ?_)
              refine And.intro (fun c9 => absurd c9 (by decide)) (fun _ => ?_)
              refine And.intro (Exists.intro _ md_o) (Exists.intro _ (Exists.intro _ (Exists.intro _ (Exists.intro _ (And.intro (F_X11_weightOf D v1 f21 hv1 hf21 y19 ) (And.intro rfl (fun r9 A9 h9 => ?_)))))))
              obtain ⟨y22, rfl, rfl, by22⟩ := h9
              have yw_9 := by22
              rw [hw21] at yw_9
              refine hC.1 10 149 _ _ rfl _ _ _ _ _ ?_
              refine Exists.intro _ (Exists.intro _ (And.intro (md_a_answerWeight D) (And.intro (by omega) ?_)))
              rw [md_s_answerWeight D]
              obtain ⟨f23, ef23⟩ : ∃ z9, z9 = va_up f21 10 (upd (f21 10) (z2_4).toInt.toNat y22) := ⟨_, rfl⟩
              rw [← ef23]
              have pf_149 : f23 10 = upd (f21 10) (z2_4).toInt.toNat y22 := by rw [ef23]; exact if_pos rfl
              have pg_149 : ∀ i9, i9 ≠ 10 → f23 i9 = f21 i9 := fun i9 h9 => by rw [ef23]; exact if_neg h9
              have hf23 : md_F f23 := by rw [ef23]; exact md_F_st hf21 10 _ _ (md_rng _ _ (by decide))
              have hw23 : f23 2 = f 2 := (show f23 2 = f21 2 by rw [ef23]; rfl).trans hw21
              have hr23_0 : f23 0 = f 0 := (show f23 0 = f21 0 by rw [ef23]; rfl).trans hr21_0
              have hr23_1 : f23 1 = f 1 := (show f23 1 = f21 1 by rw [ef23]; rfl).trans hr21_1
              have hr23_12 : f23 12 = f 12 := (show f23 12 = f21 12 by rw [ef23]; rfl).trans hr21_12
              have hr23_13 : f23 13 = f 13 := (show f23 13 = f21 13 by rw [ef23]; rfl).trans hr21_13
              have hr23_14 : f23 14 = f 14 := (show f23 14 = f21 14 by rw [ef23]; rfl).trans hr21_14
              have hr23_15 : f23 15 = f 15 := (show f23 15 = f21 15 by rw [ef23]; rfl).trans hr21_15
              have hr23_7 : f23 7 = f 7 := (show f23 7 = f21 7 by rw [ef23]; rfl).trans hr21_7
              have hr23_8 : f23 8 = f 8 := (show f23 8 = f21 8 by rw [ef23]; rfl).trans hr21_8
              have hr23_11 : f23 11 = f 11 := (show f23 11 = f21 11 by rw [ef23]; rfl).trans hr21_11
              refine And.intro (fun c9 => absurd c9 (by decide)) (fun _ => ?_)
              refine hC.1 12 161 _ _ rfl _ _ _ _ _ ?_
              intro m24 em_161
              try have e24 : m24.toInt = (z1_4).toInt + (1) := by rw [em_161]; exact pm_addc _ _ (1) rfl (by omega) (by omega)
              intro m25 em_163
              try have e25 : m25.toInt = (z2_4).toInt + (1) := by rw [em_163]; exact pm_addc _ _ (1) rfl (by omega) (by omega)
              exact hC.2 [false, false, false, true, true, true, true] _ _ _ _ _ _ (ih3 m24 m25 v1 f23 hv1 hf23 hw23 hr23_0 hr23_1 hr23_12 hr23_13 hr23_14 hr23_15 hr23_7 hr23_8 hr23_11 (by omega) (by rw [show m25.toInt.toNat = z2_4.toInt.toNat + 1 by omega]; first | (rw [cnA_0 ((pg_149 9 (by decide)).trans pf_128) rfl]; omega) | (rw [cnA_1 ((pg_149 9 (by decide)).trans pf_128) (m1_ne (by omega))]; omega)) (by intro j9 h9; by_cases h8 : j9 = z2_4.toInt.toNat; (subst h8; rw [pg_149 9 (by decide), pf_128, pf_149, pg_128 10 (by decide), pk_us, pk_us]; first | (exact AKI_no yp_9 yq_9 (by omega) rfl rfl) | (exact AKI_yes yp_9 yq_9 (by omega) (by omega) ys_9 yc_7 yw_9)); (rw [pg_149 9 (by decide), pf_128, pf_149, pg_128 10 (by decide), pk_un h8, pk_un h8]; exact j2_4 j9 (by omega))) (by omega) (by omega) (by omega) (by omega) (by omega) (by omega) (by omega) (by omega))
            · skip
              refine Exists.intro _ (And.intro md_o ?_)
              refine Exists.intro _ (Exists.intro _ (And.intro (Or.inl (md_a_askedEdit D)) (And.intro (by omega) ?_)))
              refine And.intro (Exists.intro _ md_o) (Exists.intro _ (Exists.intro _ (Exists.intro _ (Exists.intro _ (And.intro (V_X11_setBy D v1 f1 hv1 hf1 (f1 11 (z2_4).toInt.toNat) y6 y7 (by omega) (by omega) (by omega)) (And.intro rfl (fun r9 A9 h9 => ?_)))))))
              obtain ⟨y26, rfl, rfl, by26⟩ := h9
              have ys_9 := by26
              rw [l0_9, lC_9, l11_9] at ys_9
              refine hC.1 6 107 _ _ rfl _ _ _ _ _ ?_
              refine Exists.intro _ (And.intro md_o ?_)
              refine And.intro (fun c9 => absurd c9 (by decide)) (fun _ => ?_)
              refine Exists.intro _ (Exists.intro _ (Exists.intro _ (Exists.intro _ (And.intro (F_X11_bits (md A0 g h q v1 f1) y26 ) (And.intro rfl (fun r9 A9 h9 => ?_))))))
              obtain ⟨y27, rfl, rfl, by27⟩ := h9
              have yc_9 := by27
              have yc_7 := yc_9.trans (congrArg (fun n9 : Nat => (n9 : Int)) (SB24 ys_9 (fun j9 => hf 0 j9) (fun i9 j9 => hf 12 _)))
              refine hC.1 8 128 _ _ rfl _ _ _ _ _ ?_
              refine Exists.intro _ (Exists.intro _ (And.intro (md_a_answerCount D) (And.intro (by omega) ?_)))
              rw [md_s_answerCount D]
              obtain ⟨f28, ef28⟩ : ∃ z9, z9 = va_up f1 9 (upd (f1 9) (z2_4).toInt.toNat y27) := ⟨_, rfl⟩
              rw [← ef28]
              have pf_128 : f28 9 = upd (f1 9) (z2_4).toInt.toNat y27 := by rw [ef28]; exact if_pos rfl
              have pg_128 : ∀ i9, i9 ≠ 9 → f28 i9 = f1 i9 := fun i9 h9 => by rw [ef28]; exact if_neg h9
              have hf28 : md_F f28 := by rw [ef28]; exact md_F_st hf1 9 _ _ (md_rng _ _ (by decide))
              have hw28 : f28 2 = f 2 := (show f28 2 = f1 2 by rw [ef28]; rfl).trans hw1
              have hr28_0 : f28 0 = f 0 := (show f28 0 = f1 0 by rw [ef28]; rfl).trans hr1_0
              have hr28_1 : f28 1 = f 1 := (show f28 1 = f1 1 by rw [ef28]; rfl).trans hr1_1
              have hr28_12 : f28 12 = f 12 := (show f28 12 = f1 12 by rw [ef28]; rfl).trans hr1_12
              have hr28_13 : f28 13 = f 13 := (show f28 13 = f1 13 by rw [ef28]; rfl).trans hr1_13
              have hr28_14 : f28 14 = f 14 := (show f28 14 = f1 14 by rw [ef28]; rfl).trans hr1_14
              have hr28_15 : f28 15 = f 15 := (show f28 15 = f1 15 by rw [ef28]; rfl).trans hr1_15
              have hr28_7 : f28 7 = f 7 := (show f28 7 = f1 7 by rw [ef28]; rfl).trans hr1_7
              have hr28_8 : f28 8 = f 8 := (show f28 8 = f1 8 by rw [ef28]; rfl).trans hr1_8
              have hr28_11 : f28 11 = f 11 := (show f28 11 = f1 11 by rw [ef28]; rfl).trans hr1_11
              refine Exists.intro _ (And.intro md_o ?_)
              refine And.intro (fun c9 => absurd c9 (by decide)) (fun _ => ?_)
              refine And.intro (Exists.intro _ md_o) (Exists.intro _ (Exists.intro _ (Exists.intro _ (Exists.intro _ (And.intro (F_X11_weightOf D v1 f28 hv1 hf28 y26 ) (And.intro rfl (fun r9 A9 h9 => ?_)))))))
              obtain ⟨y29, rfl, rfl, by29⟩ := h9
              have yw_9 := by29
              rw [hw28] at yw_9
              refine hC.1 10 149 _ _ rfl _ _ _ _ _ ?_
              refine Exists.intro _ (Exists.intro _ (And.intro (md_a_answerWeight D) (And.intro (by omega) ?_)))
              rw [md_s_answerWeight D]
              obtain ⟨f30, ef30⟩ : ∃ z9, z9 = va_up f28 10 (upd (f28 10) (z2_4).toInt.toNat y29) := ⟨_, rfl⟩
              rw [← ef30]
              have pf_149 : f30 10 = upd (f28 10) (z2_4).toInt.toNat y29 := by rw [ef30]; exact if_pos rfl
              have pg_149 : ∀ i9, i9 ≠ 10 → f30 i9 = f28 i9 := fun i9 h9 => by rw [ef30]; exact if_neg h9
              have hf30 : md_F f30 := by rw [ef30]; exact md_F_st hf28 10 _ _ (md_rng _ _ (by decide))
              have hw30 : f30 2 = f 2 := (show f30 2 = f28 2 by rw [ef30]; rfl).trans hw28
              have hr30_0 : f30 0 = f 0 := (show f30 0 = f28 0 by rw [ef30]; rfl).trans hr28_0
              have hr30_1 : f30 1 = f 1 := (show f30 1 = f28 1 by rw [ef30]; rfl).trans hr28_1
              have hr30_12 : f30 12 = f 12 := (show f30 12 = f28 12 by rw [ef30]; rfl).trans hr28_12
              have hr30_13 : f30 13 = f 13 := (show f30 13 = f28 13 by rw [ef30]; rfl).trans hr28_13
              have hr30_14 : f30 14 = f 14 := (show f30 14 = f28 14 by rw [ef30]; rfl).trans hr28_14
              have hr30_15 : f30 15 = f 15 := (show f30 15 = f28 15 by rw [ef30]; rfl).trans hr28_15
              have hr30_7 : f30 7 = f 7 := (show f30 7 = f28 7 by rw [ef30]; rfl).trans hr28_7
              have hr30_8 : f30 8 = f 8 := (show f30 8 = f28 8 by rw [ef30]; rfl).trans hr28_8
              have hr30_11 : f30 11 = f 11 := (show f30 11 = f28 11 by rw [ef30]; rfl).trans hr28_11
              refine And.intro (fun c9 => absurd c9 (by decide)) (fun _ => ?_)
              refine hC.1 12 161 _ _ rfl _ _ _ _ _ ?_
              intro m31 em_161
              try have e31 : m31.toInt = (z1_4).toInt + (1) := by rw [em_161]; exact pm_addc _ _ (1) rfl (by omega) (by omega)
              intro m32 em_163
              try have e32 : m32.toInt = (z2_4).toInt + (1) := by rw [em_163]; exact pm_addc _ _ (1) rfl (by omega) (by omega)
              exact hC.2 [false, false, false, true, true, true, true] _ _ _ _ _ _ (ih3 m31 m32 v1 f30 hv1 hf30 hw30 hr30_0 hr30_1 hr30_12 hr30_13 hr30_14 hr30_15 hr30_7 hr30_8 hr30_11 (by omega) (by rw [show m32.toInt.toNat = z2_4.toInt.toNat + 1 by omega]; first | (rw [cnA_0 ((pg_149 9 (by decide)).trans pf_128) rfl]; omega) | (rw [cnA_1 ((pg_149 9 (by decide)).trans pf_128) (m1_ne (by omega))]; omega)) (by intro j9 h9; by_cases h8 : j9 = z2_4.toInt.toNat; (subst h8; rw [pg_149 9 (by decide), pf_128, pf_149, pg_128 10 (by decide), pk_us, pk_us]; first | (exact AKI_no yp_9 yq_9 (by omega) rfl rfl) | (exact AKI_yes yp_9 yq_9 (by omega) (by omega) ys_9 yc_7 yw_9)); (rw [pg_149 9 (by decide), pf_128, pf_149, pg_128 10 (by decide), pk_un h8, pk_un h8]; exact j2_4 j9 (by omega))) (by omega) (by omega) (by omega) (by omega) (by omega) (by omega) (by omega) (by omega))
  exact lp2 (200 - (0 : Int32).toInt).toNat.succ (0 : Int32) (0 : Int32) v f hv hf rfl rfl rfl rfl rfl rfl rfl rfl rfl rfl (by omega) (by rfl) (by intro j9 h9; omega) (by omega) (by omega) (by omega) (by omega) (by omega) (by omega) (by omega) (by omega)

end
