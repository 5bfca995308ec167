section
variable {l : Launch} {g : pm_G} {A0 : pm_H} {K nn dn : Nat} {q : Nat → Nat} {w : Nat → Int32} {e : Nat → Nat → Int32} {v : Nat → Int32} {f : Nat → Nat → Int32}
set_option maxRecDepth 100000 in
set_option maxHeartbeats 2000000 in
theorem V_X10_solve (hI : cw_I K nn dn q w e) (hs : cw_S v f)   : pm_Mt l g 161 4 0 0 [.ref (q 0)] (cw A0 g K nn dn q w e v f) (cw_Qt A0 g K nn dn q (fun r w2 e2 => e2 15 = e 15 ∧ (∃ x : Int32, r = some (.int x) ∧ (((w2 0).toInt = (w 0).toInt ∧ (w2 1).toInt = (w 1).toInt ∧ (w2 2).toInt = (w 2).toInt ∧ (w2 3).toInt = (w 3).toInt) ∧ ((∀ i9, 40 ≤ i9 → w2 i9 = w i9 ∧ e2 i9 = e i9) ∧ (w2 3 = w 3 ∧ w2 2 = w 2 ∧ e2 35 = e 35 ∧ e2 36 = e 36 ∧ e2 39 = e 39) ∧ (∀ j9 : Nat, (j9 : Int) < (w 3).toInt → AKI (e (nn + 1)) (e (nn + 2)) (e 15) (w nn).toInt (w 0).toInt (cN w) (cC e) (cM e) (e 39 j9) (e 35 j9) (e 36 j9) (e2 37 j9) (e2 38 j9)) ∧ x.toInt = cnA (e2 37) (w 3).toInt.toNat))))) := by
  refine mt_X10_solve rfl (fun J hC => ?_)
  have ro_nn : cw_ro K nn := hI.2.1.2.1
  have ro_dn : cw_ro K dn := hI.2.1.2.2.1
  have hu1 := hI.2.1
  unfold cw_W at hu1
  refine hC.1 0 0 _ _ rfl _ _ _ _ _ ?_
  have k0 : (0 : Int32).toInt = 0 := rfl
  have lp3 : ∀ (n : Nat) (z1_4 : Int32) (z2_4 : Int32) (w2 : Nat → Int32) (e2 : Nat → Nat → Int32) (v2 : Nat → Int32) (f2 : Nat → Nat → Int32), cw_I K nn dn q w2 e2 → e2 15 = e 15 → cw_S v2 f2 → (0 ≤ z2_4.toInt ∧ z2_4.toInt ≤ (w 3).toInt) → (w2 = w ∧ ∀ i9, i9 ≠ 37 → i9 ≠ 38 → e2 i9 = e i9) → (0 ≤ z1_4.toInt ∧ z1_4.toInt ≤ z2_4.toInt ∧ z1_4.toInt = cnA (e2 37) z2_4.toInt.toNat) → (∀ j9 : Nat, (j9 : Int) < z2_4.toInt → AKI (e (nn + 1)) (e (nn + 2)) (e 15) (w nn).toInt (w 0).toInt (cN w) (cC e) (cM e) (e 39 j9) (e 35 j9) (e 36 j9) (e2 37 j9) (e2 38 j9)) → (w2 0).toInt = (w 0).toInt → (w2 1).toInt = (w 1).toInt → (w2 2).toInt = (w 2).toInt → (w2 3).toInt = (w 3).toInt → 200 - z2_4.toInt < (n : Int) → J 4 [some (.ref (q 0)), some (.int z1_4), some (.int z2_4), none, none] [] (cw A0 g K nn dn q w2 e2 v2 f2) 0 0 := by
    intro n
    induction n with
    | zero =>
      intro z1_4 z2_4 w2 e2 v2 f2 hI2 hx2 hs2 j0_4 j1_4 j2_4 j3_4 j4_4 j5_4 j6_4 j7_4 j8_4
      omega
    | succ n ih4 =>
      intro z1_4 z2_4 w2 e2 v2 f2 hI2 hx2 hs2 j0_4 j1_4 j2_4 j3_4 j4_4 j5_4 j6_4 j7_4 j8_4
      have en_9 := j1_4.2
      have ew_9 := j1_4.1
      have nn_9 := ro_nn
      unfold cw_ro at nn_9
      have e39_9 : e2 39 = e 39 := en_9 39 (by decide) (by decide)
      have e35_9 : e2 35 = e 35 := en_9 35 (by decide) (by decide)
      have e36_9 : e2 36 = e 36 := en_9 36 (by decide) (by decide)
      have e15_9 : e2 15 = e 15 := en_9 15 (by decide) (by decide)
      have hu5 := hI2.2.1
      unfold cw_W at hu5
      refine hC.1 1 4 _ _ rfl _ _ _ _ _ ?_
      refine Exists.intro _ (And.intro (cw_o0 hI2.1) ?_)
      refine Exists.intro _ (And.intro (cw_o9 hI2.1) ?_)
      refine And.intro (fun c6 => ?_) (fun c6 => ?_)
      · skip
        refine hC.1 5 76 _ _ rfl _ _ _ _ _ ?_
        exact ⟨rfl, fun e9 => absurd e9 (by decide), rfl, w2, e2, v2, f2, rfl, hI2, hs2, hx2, z1_4, rfl, by first | omega | (dsimp only; omega) | trivial, by exact ⟨fun i9 h9 => ⟨by rw [ew_9], en_9 i9 (by omega) (by omega)⟩, ⟨by rw [ew_9], by rw [ew_9], e35_9, e36_9, e39_9⟩, fun j9 h9 => j3_4 j9 (by rw [← ew_9] at h9; omega), by rw [show (w 3).toInt.toNat = z2_4.toInt.toNat by (rw [← ew_9]; omega)]; exact j2_4.2.2⟩⟩
      · skip
        refine Exists.intro _ (And.intro (cw_o0 hI2.1) ?_)
        refine Exists.intro _ (And.intro (cw_o9 hI2.1) ?_)
        refine Exists.intro _ (Exists.intro _ (And.intro (Or.inl (cw_a39 hI2.1)) (And.intro (by omega) ?_)))
        have km1 : (-1 : Int32).toInt = -1 := rfl
        refine And.intro (fun c7 => ?_) (fun c7 => ?_)
        · skip
          have dc7 := pm_neI c7
          refine hC.1 2 40 _ _ rfl _ _ _ _ _ ?_
          refine Exists.intro _ (And.intro (cw_o0 hI2.1) ?_)
          refine And.intro (Exists.intro _ (cw_o1 hI2.1)) (Exists.intro _ (Exists.intro _ (Exists.intro _ (Exists.intro _ (And.intro (F_X9_behind hI2 hs2 (e2 39 (z2_4).toInt.toNat) ) (And.intro rfl (fun r9 A9 h9 => ?_)))))))
          rcases h9 with ⟨rfl, ⟨rfl, hn9⟩ | ⟨o9, rfl, ho9, hn9, he9⟩⟩
          · skip
            have kn_45 := hn9
            unfold kno at hn9
            refine hC.1 3 48 _ _ rfl _ _ _ _ _ ?_
            refine Exists.intro _ (And.intro (cw_o0 hI2.1) ?_)
            refine Exists.intro _ (And.intro (cw_o0 hI2.1) ?_)
            refine And.intro (Exists.intro _ (cw_o9 hI2.1)) (Exists.intro _ (Exists.intro _ (Exists.intro _ (Exists.intro _ (And.intro (V_X5_answer__n hI2 hs2 z2_4 (by omega)) (And.intro rfl (fun r9 A9 h9 => ?_)))))))
            rcases h9 with ⟨w11, e11, v11, f11, rfl, hI11, hs11, hy11, hzy10⟩
            have hx11 : e11 15 = e 15 := hy11.trans hx2
            have hu12 := hI11.2.1
            unfold cw_W at hu12
            rcases hzy10 with ⟨rfl, by10⟩ | ⟨rfl, by10⟩
            · skip
              have k1 : (1 : Int32).toInt = 1 := rfl
              have hb_61 := by10.2
              refine And.intro (fun c9 => absurd c9 (by decide)) (fun _ => ?_)
              intro m13 em_67
              try have e13 : m13.toInt = (z1_4).toInt + (1) := by rw [em_67]; exact pm_addc _ _ (1) rfl (by omega) (by omega)
              refine hC.1 4 70 _ _ rfl _ _ _ _ _ ?_
              intro m14 em_70
              try have e14 : m14.toInt = (z2_4).toInt + (1) := by rw [em_70]; exact pm_addc _ _ (1) rfl (by omega) (by omega)
              exact hC.2 [false, false, false, true, true] _ _ _ _ _ _ (ih4 m13 m14 w11 e11 v11 f11 hI11 hx11 hs11 (by omega) (by exact ⟨hb_61.1.trans ew_9, fun i9 h9 h8 => (hb_61.2.1 i9 h9 h8).trans (en_9 i9 h9 h8)⟩) (by refine ⟨by omega, by omega, ?_⟩; rw [show m14.toInt.toNat = z2_4.toInt.toNat + 1 by omega]; first | (exact hb_61.elim) | (rw [cnA_0 hb_61.2.2.1 rfl]; omega) | (obtain ⟨a8, b8, g1, g2, g3, g4⟩ := hb_61.2.2; first | (rw [cnA_1 g1 g4]; omega) | (rw [cnA_0 g1 g4]; omega))) (by first | (exact hb_61.elim) | (intro j9 h9; by_cases h8 : j9 = z2_4.toInt.toNat; (subst h8; first | (obtain ⟨a8, b8, g1, g2, g3, g4⟩ := hb_61.2.2; rw [g1, g2, pk_us, pk_us]; first | (exact Or.inl ⟨by rw [← e39_9]; omega, (ANR_e g3 (en_9 _ (by omega) (by omega)) (en_9 _ (by omega) (by omega)) e15_9 (by rw [ew_9]) (by rw [e35_9]) (by rw [e36_9]))⟩) | (exact AKI_row (by rw [← e39_9]; omega) (by rw [← e39_9, ← ew_9]; exact kn_44) yo_9 (ANR_e g3 (en_9 _ (by omega) (by omega)) (en_9 _ (by omega) (by omega)) e15_9 (by rw [ew_9]) (by rw [e35_9]) (by rw [e36_9])))) | (rw [hb_61.2.2.1, hb_61.2.2.2, pk_us, pk_us]; exact Or.inr (Or.inr ⟨by rw [← e39_9]; omega, by rw [← e39_9, ← ew_9]; exact kn_44, rfl, rfl⟩))); (first | (obtain ⟨a8, b8, g1, g2, g3, g4⟩ := hb_61.2.2; rw [g1, g2, pk_un h8, pk_un h8]; exact j3_4 j9 (by omega)) | (rw [hb_61.2.2.1, hb_61.2.2.2, pk_un h8, pk_un h8]; exact j3_4 j9 (by omega))))) (by omega) (by omega) (by omega) (by omega) (by omega))
            · skip
              have hb_61 := by10.2
              refine And.intro (fun _ => ?_) (fun c9 => absurd c9 (by decide))
              refine hC.1 4 70 _ _ rfl _ _ _ _ _ ?_
              have k1 : (1 : Int32).toInt = 1 := rfl
              intro m15 em_70
              try have e15 : m15.toInt = (z2_4).toInt + (1) := by rw [em_70]; exact pm_addc _ _ (1) rfl (by omega) (by omega)
              exact hC.2 [false, false, false, true, true] _ _ _ _ _ _ (ih4 z1_4 m15 w11 e11 v11 f11 hI11 hx11 hs11 (by omega) (by exact ⟨hb_61.1.trans ew_9, fun i9 h9 h8 => (hb_61.2.1 i9 h9 h8).trans (en_9 i9 h9 h8)⟩) (by refine ⟨by omega, by omega, ?_⟩; rw [show m15.toInt.toNat = z2_4.toInt.toNat + 1 by omega]; first | (exact hb_61.elim) | (rw [cnA_0 hb_61.2.2.1 rfl]; omega) | (obtain ⟨a8, b8, g1, g2, g3, g4⟩ := hb_61.2.2; first | (rw [cnA_1 g1 g4]; omega) | (rw [cnA_0 g1 g4]; omega))) (by first | (exact hb_61.elim) | (intro j9 h9; by_cases h8 : j9 = z2_4.toInt.toNat; (subst h8; first | (obtain ⟨a8, b8, g1, g2, g3, g4⟩ := hb_61.2.2; rw [g1, g2, pk_us, pk_us]; first | (exact Or.inl ⟨by rw [← e39_9]; omega, (ANR_e g3 (en_9 _ (by omega) (by omega)) (en_9 _ (by omega) (by omega)) e15_9 (by rw [ew_9]) (by rw [e35_9]) (by rw [e36_9]))⟩) | (exact AKI_row (by rw [← e39_9]; omega) (by rw [← e39_9, ← ew_9]; exact kn_44) yo_9 (ANR_e g3 (en_9 _ (by omega) (by omega)) (en_9 _ (by omega) (by omega)) e15_9 (by rw [ew_9]) (by rw [e35_9]) (by rw [e36_9])))) | (rw [hb_61.2.2.1, hb_61.2.2.2, pk_us, pk_us]; exact Or.inr (Or.inr ⟨by rw [← e39_9]; omega, by rw [← e39_9, ← ew_9]; exact kn_44, rfl, rfl⟩))); (first | (obtain ⟨a8, b8, g1, g2, g3, g4⟩ := hb_61.2.2; rw [g1, g2, pk_un h8, pk_un h8]; exact j3_4 j9 (by omega)) | (rw [hb_61.2.2.1, hb_61.2.2.2, pk_un h8, pk_un h8]; exact j3_4 j9 (by omega))))) (by omega) (by omega) (by omega) (by omega) (by omega))
          · skip
            have kn_45 := hn9
            have ke_45 := he9
            have ko_45 : ∀ z9 : Nat, (z9 : Int) = 40 + 4 * (((e2 39 (z2_4).toInt.toNat)).toInt % 41) → z9 = o9 := fun z9 h9 => (by omega)
            unfold kno at hn9
            refine hC.1 3 48 _ _ rfl _ _ _ _ _ ?_
            refine Exists.intro _ (And.intro (cw_o0 hI2.1) ?_)
            refine Exists.intro _ (And.intro (cw_o0 hI2.1) ?_)
            refine And.intro (Exists.intro _ (cw_o9 hI2.1)) (Exists.intro _ (Exists.intro _ (Exists.intro _ (Exists.intro _ (And.intro (V_X5_answer hI2 hs2 z2_4 ho9 (by omega)) (And.intro rfl (fun r9 A9 h9 => ?_)))))))
            rcases h9 with ⟨w17, e17, v17, f17, rfl, hI17, hs17, hy17, hzy16⟩
            have hx17 : e17 15 = e 15 := hy17.trans hx2
            have hu18 := hI17.2.1
            unfold cw_W at hu18
            rcases hzy16 with ⟨rfl, by16⟩ | ⟨rfl, by16⟩
            · skip
              have k1 : (1 : Int32).toInt = 1 := rfl
              have hb_61 := by16.2
              refine And.intro (fun c9 => absurd c9 (by decide)) (fun _ => ?_)
              intro m19 em_67
              try have e19 : m19.toInt = (z1_4).toInt + (1) := by rw [em_67]; exact pm_addc _ _ (1) rfl (by omega) (by omega)
              refine hC.1 4 70 _ _ rfl _ _ _ _ _ ?_
              intro m20 em_70
              try have e20 : m20.toInt = (z2_4).toInt + (1) := by rw [em_70]; exact pm_addc _ _ (1) rfl (by omega) (by omega)
              exact hC.2 [false, false, false, true, true] _ _ _ _ _ _ (ih4 m19 m20 w17 e17 v17 f17 hI17 hx17 hs17 (by omega) (by exact ⟨hb_61.1.trans ew_9, fun i9 h9 h8 => (hb_61.2.1 i9 h9 h8).trans (en_9 i9 h9 h8)⟩) (by refine ⟨by omega, by omega, ?_⟩; rw [show m20.toInt.toNat = z2_4.toInt.toNat + 1 by omega]; first | (exact hb_61.elim) | (rw [cnA_0 hb_61.2.2.1 rfl]; omega) | (obtain ⟨a8, b8, g1, g2, g3, g4⟩ := hb_61.2.2; first | (rw [cnA_1 g1 g4]; omega) | (rw [cnA_0 g1 g4]; omega))) (by first | (exact hb_61.elim) | (intro j9 h9; by_cases h8 : j9 = z2_4.toInt.toNat; (subst h8; first | (obtain ⟨a8, b8, g1, g2, g3, g4⟩ := hb_61.2.2; rw [g1, g2, pk_us, pk_us]; first | (exact Or.inl ⟨by rw [← e39_9]; omega, (ANR_e g3 (en_9 _ (by omega) (by omega)) (en_9 _ (by omega) (by omega)) e15_9 (by rw [ew_9]) (by rw [e35_9]) (by rw [e36_9]))⟩) | (exact AKI_row (by rw [← e39_9]; omega) (by rw [← e39_9, ← ew_9]; exact kn_44) yo_9 (ANR_e g3 (en_9 _ (by omega) (by omega)) (en_9 _ (by omega) (by omega)) e15_9 (by rw [ew_9]) (by rw [e35_9]) (by rw [e36_9])))) | (rw [hb_61.2.2.1, hb_61.2.2.2, pk_us, pk_us]; exact Or.inr (Or.inr ⟨by rw [← e39_9]; omega, by rw [← e39_9, ← ew_9]; exact kn_44, rfl, rfl⟩))); (first | (obtain ⟨a8, b8, g1, g2, g3, g4⟩ := hb_61.2.2; rw [g1, g2, pk_un h8, pk_un h8]; exact j3_4 j9 (by omega)) | (rw [hb_61.2.2.1, hb_61.2.2.2, pk_un h8, pk_un h8]; exact j3_4 j9 (by omega))))) (by omega) (by omega) (by omega) (by omega) (by omega))
            · skip
              have hb_61 := by16.2
              refine And.intro (fun _ => ?_) (fun c9 => absurd c9 (by decide))
              refine hC.1 4 70 _ _ rfl _ _ _ _ _ ?_
              have k1 : (1 : Int32).toInt = 1 := rfl
              intro m21 em_70
              try have e21 : m21.toInt = (z2_4).toInt + (1) := by rw [em_70]; exact pm_addc _ _ (1) rfl (by omega) (by omega)
              exact hC.2 [false, false, false, true, true] _ _ _ _ _ _ (ih4 z1_4 m21 w17 e17 v17 f17 hI17 hx17 hs17 (by omega) (by exact ⟨hb_61.1.trans ew_9, fun i9 h9 h8 => (hb_61.2.1 i9 h9 h8).trans (en_9 i9 h9 h8)⟩) (by refine ⟨by omega, by omega, ?_⟩; rw [show m21.toInt.toNat = z2_4.toInt.toNat + 1 by omega]; first | (exact hb_61.elim) | (rw [cnA_0 hb_61.2.2.1 rfl]; omega) | (obtain ⟨a8, b8, g1, g2, g3, g4⟩ := hb_61.2.2; first | (rw [cnA_1 g1 g4]; omega) | (rw [cnA_0 g1 g4]; omega))) (by first | (exact hb_61.elim) | (intro j9 h9; by_cases h8 : j9 = z2_4.toInt.toNat; (subst h8; first | (obtain ⟨a8, b8, g1, g2, g3, g4⟩ := hb_61.2.2; rw [g1, g2, pk_us, pk_us]; first | (exact Or.inl ⟨by rw [← e39_9]; omega, (ANR_e g3 (en_9 _ (by omega) (by omega)) (en_9 _ (by omega) (by omega)) e15_9 (by rw [ew_9]) (by rw [e35_9]) (by rw [e36_9]))⟩) | (exact AKI_row (by rw [← e39_9]; omega) (by rw [← e39_9, ← ew_9]; exact kn_44) yo_9 (ANR_e g3 (en_9 _ (by omega) (by omega)) (en_9 _ (by omega) (by omega)) e15_9 (by rw [ew_9]) (by rw [e35_9]) (by rw [e36_9])))) | (rw [hb_61.2.2.1, hb_61.2.2.2, pk_us, pk_us]; exact Or.inr (Or.inr ⟨by rw [← e39_9]; omega, by rw [← e39_9, ← ew_9]; exact kn_44, rfl, rfl⟩))); (first | (obtain ⟨a8, b8, g1, g2, g3, g4⟩ := hb_61.2.2; rw [g1, g2, pk_un h8, pk_un h8]; exact j3_4 j9 (by omega)) | (rw [hb_61.2.2.1, hb_61.2.2.2, pk_un h8, pk_un h8]; exact j3_4 j9 (by omega))))) (by omega) (by omega) (by omega) (by omega) (by omega))
        · skip
          have dc7 : ((e2 39 (z2_4).toInt.toNat)).toInt = ((-1 : Int32) : Int32).toInt := congrArg Int32.toInt c7
          refine Exists.intro _ (And.intro (cw_o0 hI2.1) ?_)
          refine Exists.intro _ (And.intro (cw_o1 hI2.1) ?_)
          refine hC.1 3 48 _ _ rfl _ _ _ _ _ ?_
          refine Exists.intro _ (And.intro (cw_o0 hI2.1) ?_)
          refine Exists.intro _ (And.intro (cw_o0 hI2.1) ?_)
          refine And.intro (Exists.intro _ (cw_o9 hI2.1)) (Exists.intro _ (Exists.intro _ (Exists.intro _ (Exists.intro _ (And.intro (V_X5_answer hI2 hs2 z2_4 ro_nn (by omega)) (And.intro rfl (fun r9 A9 h9 => ?_)))))))
          rcases h9 with ⟨w23, e23, v23, f23, rfl, hI23, hs23, hy23, hzy22⟩
          have hx23 : e23 15 = e 15 := hy23.trans hx2
          have hu24 := hI23.2.1
          unfold cw_W at hu24
          rcases hzy22 with ⟨rfl, by22⟩ | ⟨rfl, by22⟩
          · skip
            have k1 : (1 : Int32).toInt = 1 := rfl
            have hb_61 := by22.2
            refine And.intro (fun c9 => absurd c9 (by decide)) (fun _ => ?_)
            intro m25 em_67
            try have e25 : m25.toInt = (z1_4).toInt + (1) := by rw [em_67]; exact pm_addc _ _ (1) rfl (by omega) (by omega)
            refine hC.1 4 70 _ _ rfl _ _ _ _ _ ?_
            intro m26 em_70
            try have e26 : m26.toInt = (z2_4).toInt + (1) := by rw [em_70]; exact pm_addc _ _ (1) rfl (by omega) (by omega)
            exact hC.2 [false, false, false, true, true] _ _ _ _ _ _ (ih4 m25 m26 w23 e23 v23 f23 hI23 hx23 hs23 (by omega) (by exact ⟨hb_61.1.trans ew_9, fun i9 h9 h8 => (hb_61.2.1 i9 h9 h8).trans (en_9 i9 h9 h8)⟩) (by refine ⟨by omega, by omega, ?_⟩; rw [show m26.toInt.toNat = z2_4.toInt.toNat + 1 by omega]; first | (exact hb_61.elim) | (rw [cnA_0 hb_61.2.2.1 rfl]; omega) | (obtain ⟨a8, b8, g1, g2, g3, g4⟩ := hb_61.2.2; first | (rw [cnA_1 g1 g4]; omega) | (rw [cnA_0 g1 g4]; omega))) (by first | (exact hb_61.elim) | (intro j9 h9; by_cases h8 : j9 = z2_4.toInt.toNat; (subst h8; first | (obtain ⟨a8, b8, g1, g2, g3, g4⟩ := hb_61.2.2; rw [g1, g2, pk_us, pk_us]; first | (exact Or.inl ⟨by rw [← e39_9]; omega, (ANR_e g3 (en_9 _ (by omega) (by omega)) (en_9 _ (by omega) (by omega)) e15_9 (by rw [ew_9]) (by rw [e35_9]) (by rw [e36_9]))⟩) | (exact AKI_row (by rw [← e39_9]; omega) (by rw [← e39_9, ← ew_9]; exact kn_44) yo_9 (ANR_e g3 (en_9 _ (by omega) (by omega)) (en_9 _ (by omega) (by omega)) e15_9 (by rw [ew_9]) (by rw [e35_9]) (by rw [e36_9])))) | (rw [hb_61.2.2.1, hb_61.2.2.2, pk_us, pk_us]; exact Or.inr (Or.inr ⟨by rw [← e39_9]; omega, by rw [← e39_9, ← ew_9]; exact kn_44, rfl, rfl⟩))); (first | (obtain ⟨a8, b8, g1, g2, g3, g4⟩ := hb_61.2.2; rw [g1, g2, pk_un h8, pk_un h8]; exact j3_4 j9 (by omega)) | (rw [hb_61.2.2.1, hb_61.2.2.2, pk_un h8, pk_un h8]; exact j3_4 j9 (by omega))))) (by omega) (by omega) (by omega) (by omega) (by omega))
          · skip
            have hb_61 := by22.2
            refine And.intro (fun _ => ?_) (fun c9 => absurd c9 (by decide))
            refine hC.1 4 70 _ _ rfl _ _ _ _ _ ?_
            have k1 : (1 : Int32).toInt = 1 := rfl
            intro m27 em_70
            try have e27 : m27.toInt = (z2_4).toInt + (1) := by rw [em_70]; exact pm_addc _ _ (1) rfl (by omega) (by omega)
            exact hC.2 [false, false, false, true, true] _ _ _ _ _ _ (ih4 z1_4 m27 w23 e23 v23 f23 hI23 hx23 hs23 (by omega) (by exact ⟨hb_61.1.trans ew_9, fun i9 h9 h8 => (hb_61.2.1 i9 h9 h8).trans (en_9 i9 h9 h8)⟩) (by refine ⟨by omega, by omega, ?_⟩; rw [show m27.toInt.toNat = z2_4.toInt.toNat + 1 by omega]; first | (exact hb_61.elim) | (rw [cnA_0 hb_61.2.2.1 rfl]; omega) | (obtain ⟨a8, b8, g1, g2, g3, g4⟩ := hb_61.2.2; first | (rw [cnA_1 g1 g4]; omega) | (rw [cnA_0 g1 g4]; omega))) (by first | (exact hb_61.elim) | (intro j9 h9; by_cases h8 : j9 = z2_4.toInt.toNat; (subst h8; first | (obtain ⟨a8, b8, g1, g2, g3, g4⟩ := hb_61.2.2; rw [g1, g2, pk_us, pk_us]; first | (exact Or.inl ⟨by rw [← e39_9]; omega, (ANR_e g3 (en_9 _ (by omega) (by omega)) (en_9 _ (by omega) (by omega)) e15_9 (by rw [ew_9]) (by rw [e35_9]) (by rw [e36_9]))⟩) | (exact AKI_row (by rw [← e39_9]; omega) (by rw [← e39_9, ← ew_9]; exact kn_44) yo_9 (ANR_e g3 (en_9 _ (by omega) (by omega)) (en_9 _ (by omega) (by omega)) e15_9 (by rw [ew_9]) (by rw [e35_9]) (by rw [e36_9])))) | (rw [hb_61.2.2.1, hb_61.2.2.2, pk_us, pk_us]; exact Or.inr (Or.inr ⟨by rw [← e39_9]; omega, by rw [← e39_9, ← ew_9]; exact kn_44, rfl, rfl⟩))); (first | (obtain ⟨a8, b8, g1, g2, g3, g4⟩ := hb_61.2.2; rw [g1, g2, pk_un h8, pk_un h8]; exact j3_4 j9 (by omega)) | (rw [hb_61.2.2.1, hb_61.2.2.2, pk_un h8, pk_un h8]; exact j3_4 j9 (by omega))))) (by omega) (by omega) (by omega) (by omega) (by omega))
  exact lp3 (200 - (0 : Int32).toInt).toNat.succ (0 : Int32) (0 : Int32) w e v f hI rfl hs (by omega) (by exact ⟨rfl, fun _ _ _ => rfl⟩) (by exact ⟨by omega, by omega, rfl⟩) (by intro j9 h9; omega) (by omega) (by omega) (by omega) (by omega) (by omega)

end
