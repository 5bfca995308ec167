section
variable {l : Launch} {g : pm_G} {A0 : pm_H} {h : Nat} {q : Nat → Nat}
set_option maxRecDepth 100000 in
set_option maxHeartbeats 2000000 in
theorem F_X11_recolours (D : md_D h q) (v : Nat → Int32) (f : Nat → Nat → Int32) (hv : md_V v) (hf : md_F f) (x1 : Int32) (x2 : Int32) (x3 : Int32) (x4 : Int32) (x5 : Int32) (p0 : (v 4).toInt < 100000) (p1 : -1 ≤ x3.toInt ∧ x3.toInt ≤ 23) (p2 : 0 ≤ x4.toInt ∧ x4.toInt ≤ 23) : pm_Mt l g 171 4 0 0 [.ref h, .int x1, .int x2, .int x3, .int x4, .int x5] (md A0 g h q v f) (md_Qw A0 g h q f (fun r v2 f2 => ((v2 3).toInt = (v 3).toInt ∧ (v2 6).toInt = (v 6).toInt ∧ (v2 4).toInt = (v 4).toInt + 1) ∧ (∀ (L : List pl_P) (h9 : Int32 → Int32), rp (v 0) (f 0) (f 1) L → (∀ c9, h9 c9 = if x3 = -1 ∨ c9 = x3 then x4 else if ¬ x5 = 0 ∧ c9 = x4 then x3 else c9) → 0 ≤ x1.toInt → x1.toInt ≤ x2.toInt + 1 → x2.toInt < (L.length : Int) → rp (v2 0) (f2 0) (f2 1) (rc_l L x1.toInt x2.toInt h9)))) := by
  refine mt_X11_recolours rfl (fun J hC => ?_)
  have hv9 := hv
  unfold md_V at hv9
  have rg_x1 := pm_rng x1
  have rg_x2 := pm_rng x2
  have rg_x3 := pm_rng x3
  have rg_x4 := pm_rng x4
  have rg_x5 := pm_rng x5
  refine hC.1 0 0 _ _ rfl _ _ _ _ _ ?_
  have hp_1 : ∀ L, rp (v 0) (f 0) (f 1) L → rp (v 0) (f 0) (f 1) L := fun L h => rp_fr h (by omega) rfl rfl
  refine And.intro (Exists.intro _ md_o) (Exists.intro _ (Exists.intro _ (Exists.intro _ (Exists.intro _ (And.intro (F_X11_begins D v f hv hf  ) (And.intro rfl (fun r9 A9 h9 => ?_)))))))
  obtain ⟨v2, f2, rfl, rfl, hv2, hf2, hx2, hg2_0, hg2_1, by1⟩ := h9
  have hw2 : f2 2 = f 2 := hx2.trans rfl
  have hr2_0 : f2 0 = f 0 := hg2_0.trans rfl
  have hr2_1 : f2 1 = f 1 := hg2_1.trans rfl
  have hu3 := hv2
  unfold md_V at hu3
  have sq2 : (v2 0).toInt = (v 0).toInt ∧ (v2 3).toInt = (v 3).toInt ∧ (v2 4).toInt = (v 4).toInt ∧ (v2 6).toInt = (v 6).toInt := by omega
  have sp2 := by1.2.2.2.2
  clear by1
  have k0 : (0 : Int32).toInt = 0 := rfl
  have lp5 : ∀ (n : Nat) (z6_7 : Int32) (v4 : Nat → Int32) (f4 : Nat → Nat → Int32), md_V v4 → md_F f4 → f4 2 = f 2 → f4 0 = f 0 → f4 1 = f 1 → (0 ≤ z6_7.toInt ∧ z6_7.toInt ≤ (v 0).toInt) → ((v4 0).toInt = (v 0).toInt ∧ (v4 4).toInt = (v 4).toInt ∧ (v4 2).toInt = z6_7.toInt) → (∀ (L : List pl_P) (h9 : Int32 → Int32), rp (v 0) (f 0) (f 1) L → (∀ c9, h9 c9 = if x3 = -1 ∨ c9 = x3 then x4 else if ¬ x5 = 0 ∧ c9 = x4 then x3 else c9) → 0 ≤ x1.toInt → x1.toInt ≤ x2.toInt + 1 → x2.toInt < (L.length : Int) → rp (v4 2) (f4 5) (f4 6) (rc_p L x1.toInt x2.toInt h9 z6_7.toInt)) → (v4 3).toInt = (v 3).toInt → (v4 6).toInt = (v 6).toInt → 200 - z6_7.toInt < (n : Int) → J 7 [some (.ref h), some (.int x1), some (.int x2), some (.int x3), some (.int x4), some (.int x5), some (.int z6_7), none, none, none] [] (md A0 g h q v4 f4) 0 0 := by
    intro n
    induction n with
    | zero =>
      intro z6_7 v4 f4 hv4 hf4 hw4 hr4_0 hr4_1 j0_7 j1_7 j2_7 j3_7 j4_7 j5_7
      omega
    | succ n ih6 =>
      intro z6_7 v4 f4 hv4 hf4 hw4 hr4_0 hr4_1 j0_7 j1_7 j2_7 j3_7 j4_7 j5_7
      have lr0 := hr4_0
      have lr1 := hr4_1
      refine hC.1 1 7 _ _ rfl _ _ _ _ _ ?_
      have hu7 := hv4
      unfold md_V at hu7
      refine Exists.intro _ (And.intro md_o ?_)
      refine And.intro (fun c8 => ?_) (fun c8 => ?_)
      · skip
        refine hC.1 7 99 _ _ rfl _ _ _ _ _ ?_
        have hp_100 : ∀ L, rp (v 0) (f 0) (f 1) L → rp (v4 0) (f4 0) (f4 1) L := fun L h => rp_fr h (by omega) hr4_0 hr4_1
        refine And.intro (Exists.intro _ md_o) (Exists.intro _ (Exists.intro _ (Exists.intro _ (Exists.intro _ (And.intro (F_X11_ends D v4 f4 hv4 hf4  (by omega)) (And.intro rfl (fun r9 A9 h9 => ?_)))))))
        obtain ⟨y9, v10, f10, rfl, rfl, hv10, hf10, hx10, by9⟩ := h9
        have hw10 : f10 2 = f 2 := hx10.trans hw4
        have hu11 := hv10
        unfold md_V at hu11
        clear hu7
        have hb_100 := by9.2
        have sq10 : (v10 1).toInt = (v4 1).toInt ∧ (v10 2).toInt = (v4 2).toInt ∧ (v10 3).toInt = (v4 3).toInt ∧ (v10 6).toInt = (v4 6).toInt := by omega
        have sp10 := by9.1.2.2.2.2
        clear by9
        exact ⟨rfl, fun e9 => absurd e9 (by decide), rfl, y9, v10, f10, rfl, rfl, hv10, hf10, hw10, by first | omega | (dsimp only; omega) | trivial, by intro L h9 hL hH h1 h2 h3; have hl := hL.1; have t2 := j2_7 L h9 hL hH h1 h2 h3; rw [show z6_7.toInt = (L.length : Int) by omega, rc_e h1 h2 h3] at t2; exact hb_100 _ t2⟩
      · skip
        refine Exists.intro _ (And.intro md_o ?_)
        refine Exists.intro _ (Exists.intro _ (And.intro (Or.inl (md_a_colours D)) (And.intro (by omega) ?_)))
        have w12 : (0 : Int) ≤ (f4 0 (z6_7).toInt.toNat).toInt ∧ (f4 0 (z6_7).toInt.toNat).toInt ≤ (23 : Int) := hf4 0 _
        refine Exists.intro _ (Exists.intro _ (Exists.intro _ (Exists.intro _ (And.intro (c_X11_isIn (md A0 g h q v4 f4) z6_7 x1 x2 ) (And.intro rfl (fun r9 A9 h9 => ?_))))))
        rcases h9 with ⟨y13, rfl, rfl, ⟨rfl, by13⟩ | ⟨rfl, by13⟩⟩
        · skip
          have k1 : (1 : Int32).toInt = 1 := rfl
          refine And.intro (fun _ => ?_) (fun c9 => absurd c9 (by decide))
          refine hC.1 2 44 _ _ rfl _ _ _ _ _ ?_
          have km1 : (-1 : Int32).toInt = -1 := rfl
          refine And.intro (fun c14 => ?_) (fun c14 => ?_)
          · skip
            have dc14 : (x3).toInt = ((-1 : Int32) : Int32).toInt := congrArg Int32.toInt c14
            refine hC.1 3 55 _ _ rfl _ _ _ _ _ ?_
            refine hC.1 6 78 _ _ rfl _ _ _ _ _ ?_
            refine Exists.intro _ (And.intro md_o ?_)
            refine Exists.intro _ (Exists.intro _ (And.intro (Or.inl (md_a_names D)) (And.intro (by omega) ?_)))
            have hp_90 : ∀ L, rp (v 0) (f 0) (f 1) L → rp (v4 0) (f4 0) (f4 1) L := fun L h => rp_fr h (by omega) hr4_0 hr4_1
            refine And.intro (Exists.intro _ md_o) (Exists.intro _ (Exists.intro _ (Exists.intro _ (Exists.intro _ (And.intro (F_X11_lays D v4 f4 hv4 hf4 x4 (f4 1 (z6_7).toInt.toNat) (by omega) (by omega)) (And.intro rfl (fun r9 A9 h9 => ?_)))))))
            obtain ⟨v16, f16, rfl, rfl, hv16, hf16, hx16, hg16_0, hg16_1, by15⟩ := h9
            have hw16 : f16 2 = f 2 := hx16.trans hw4
            have hr16_0 : f16 0 = f 0 := hg16_0.trans hr4_0
            have hr16_1 : f16 1 = f 1 := hg16_1.trans hr4_1
            have hu17 := hv16
            unfold md_V at hu17
            clear hu7
            have hb_90 := by15.2
            have sq16 : (v16 0).toInt = (v4 0).toInt ∧ (v16 1).toInt = (v4 1).toInt ∧ (v16 3).toInt = (v4 3).toInt ∧ (v16 4).toInt = (v4 4).toInt ∧ (v16 6).toInt = (v4 6).toInt := by omega
            have sp16 := by15.1.2.2.2.2.2
            have hb9 := by15.2
            clear by15
            intro m18 em_93
            try have e18 : m18.toInt = (z6_7).toInt + (1) := by rw [em_93]; exact pm_addc _ _ (1) rfl (by omega) (by omega)
            exact hC.2 [false, false, false, false, false, false, false, true, true, true] _ _ _ _ _ _ (ih6 m18 v16 f16 hv16 hf16 hw16 hr16_0 hr16_1 (by omega) (by omega) (by intro L h9 hL hH h1 h2 h3; have hl := hL.1; have hL2 := rp_fr hL (n2 := v16 0) (by omega) lr0 lr1; rw [show m18.toInt = z6_7.toInt + 1 by omega, rc_s hL2 h1 h2 h3 (by omega) (by omega)]; have h4 := hb9 _ (j2_7 L h9 hL hH h1 h2 h3); first | (rw [if_neg (by omega)]; exact h4) | (rw [if_pos (by omega), hH, if_pos (Or.inl (by assumption))]; exact h4) | (rw [if_pos (by omega), hH, if_pos (Or.inr (by assumption))]; exact h4) | (rw [if_pos (by omega), hH, if_neg (fun h8 => h8.elim (by assumption) (by assumption)), if_pos ⟨by assumption, by assumption⟩]; exact h4) | (rw [if_pos (by omega), hH, if_neg (fun h8 => h8.elim (by assumption) (by assumption)), if_neg (fun h8 => absurd h8.2 (by assumption))]; exact h4) | (rw [if_pos (by omega), hH, if_neg (fun h8 => h8.elim (by assumption) (by assumption)), if_neg (fun h8 => h8.1 (by assumption))]; exact h4)) (by omega) (by omega) (by omega))
          · skip
            have dc14 := pm_neI c14
            refine And.intro (fun c19 => ?_) (fun c19 => ?_)
            · skip
              have dc19 := pm_neI c19
              refine hC.1 4 60 _ _ rfl _ _ _ _ _ ?_
              refine And.intro (fun c20 => ?_) (fun c20 => ?_)
              · skip
                have dc20 : (x5).toInt = (0 : Int32).toInt := congrArg Int32.toInt c20
                refine hC.1 5 76 _ _ rfl _ _ _ _ _ ?_
                refine hC.1 6 78 _ _ rfl _ _ _ _ _ ?_
                refine Exists.intro _ (And.intro md_o ?_)
                refine Exists.intro _ (Exists.intro _ (And.intro (Or.inl (md_a_names D)) (And.intro (by omega) ?_)))
                have hp_90 : ∀ L, rp (v 0) (f 0) (f 1) L → rp (v4 0) (f4 0) (f4 1) L := fun L h => rp_fr h (by omega) hr4_0 hr4_1
                refine And.intro (Exists.intro _ md_o) (Exists.intro _ (Exists.intro _ (Exists.intro _ (Exists.intro _ (And.intro (F_X11_lays D v4 f4 hv4 hf4 (f4 0 (z6_7).toInt.toNat) (f4 1 (z6_7).toInt.toNat) (by omega) (by omega)) (And.intro rfl (fun r9 A9 h9 => ?_)))))))
                obtain ⟨v22, f22, rfl, rfl, hv22, hf22, hx22, hg22_0, hg22_1, by21⟩ := h9
                have hw22 : f22 2 = f 2 := hx22.trans hw4
                have hr22_0 : f22 0 = f 0 := hg22_0.trans hr4_0
                have hr22_1 : f22 1 = f 1 := hg22_1.trans hr4_1
                have hu23 := hv22
                unfold md_V at hu23
                clear hu7
                have hb_90 := by21.2
                have sq22 : (v22 0).toInt = (v4 0).toInt ∧ (v22 1).toInt = (v4 1).toInt ∧ (v22 3).toInt = (v4 3).toInt ∧ (v22 4).toInt = (v4 4).toInt ∧ (v22 6).toInt = (v4 6).toInt := by omega
                have sp22 := by21.1.2.2.2.2.2
                have hb9 := by21.2
                clear by21
                intro m24 em_93
                try have e24 : m24.toInt = (z6_7).toInt + (1) := by rw [em_93]; exact pm_addc _ _ (1) rfl (by omega) (by omega)
                exact hC.2 [false, false, false, false, false, false, false, true, true, true] _ _ _ _ _ _ (ih6 m24 v22 f22 hv22 hf22 hw22 hr22_0 hr22_1 (by omega) (by omega) (by intro L h9 hL hH h1 h2 h3; have hl := hL.1; have hL2 := rp_fr hL (n2 := v22 0) (by omega) lr0 lr1; rw [show m24.toInt = z6_7.toInt + 1 by omega, rc_s hL2 h1 h2 h3 (by omega) (by omega)]; have h4 := hb9 _ (j2_7 L h9 hL hH h1 h2 h3); first | (rw [if_neg (by omega)]; exact h4) | (rw [if_pos (by omega), hH, if_pos (Or.inl (by assumption))]; exact h4) | (rw [if_pos (by omega), hH, if_pos (Or.inr (by assumption))]; exact h4) | (rw [if_pos (by omega), hH, if_neg (fun h8 => h8.elim (by assumption) (by assumption)), if_pos ⟨by assumption, by assumption⟩]; exact h4) | (rw [if_pos (by omega), hH, if_neg (fun h8 => h8.elim (by assumption) (by assumption)), if_neg (fun h8 => absurd h8.2 (by assumption))]; exact h4) | (rw [if_pos (by omega), hH, if_neg (fun h8 => h8.elim (by assumption) (by assumption)), if_neg (fun h8 => h8.1 (by assumption))]; exact h4)) (by omega) (by omega) (by omega))
              · skip
                have dc20 := pm_neI c20
                refine And.intro (fun c25 => ?_) (fun c25 => ?_)
                · skip
                  have dc25 := pm_neI c25
                  refine hC.1 5 76 _ _ rfl _ _ _ _ _ ?_
                  refine hC.1 6 78 _ _ rfl _ _ _ _ _ ?_
                  refine Exists.intro _ (And.intro md_o ?_)
                  refine Exists.intro _ (Exists.intro _ (And.intro (Or.inl (md_a_names D)) (And.intro (by omega) ?_)))
                  have hp_90 : ∀ L, rp (v 0) (f 0) (f 1) L → rp (v4 0) (f4 0) (f4 1) L := fun L h => rp_fr h (by omega) hr4_0 hr4_1
                  refine And.intro (Exists.intro _ md_o) (Exists.intro _ (Exists.intro _ (Exists.intro _ (Exists.intro _ (And.intro (F_X11_lays D v4 f4 hv4 hf4 (f4 0 (z6_7).toInt.toNat) (f4 1 (z6_7).toInt.toNat) (by omega) (by omega)) (And.intro rfl (fun r9 A9 h9 => ?_)))))))
                  obtain ⟨v27, f27, rfl, rfl, hv27, hf27, hx27, hg27_0, hg27_1, by26⟩ := h9
                  have hw27 : f27 2 = f 2 := hx27.trans hw4
                  have hr27_0 : f27 0 = f 0 := hg27_0.trans hr4_0
                  have hr27_1 : f27 1 = f 1 := hg27_1.trans hr4_1
                  have hu28 := hv27
                  unfold md_V at hu28
                  clear hu7
                  have hb_90 := by26.2
                  have sq27 : (v27 0).toInt = (v4 0).toInt ∧ (v27 1).toInt = (v4 1).toInt ∧ (v27 3).toInt = (v4 3).toInt ∧ (v27 4).toInt = (v4 4).toInt ∧ (v27 6).toInt = (v4 6).toInt := by omega
                  have sp27 := by26.1.2.2.2.2.2
                  have hb9 := by26.2
                  clear by26
                  intro m29 em_93
                  try have e29 : m29.toInt = (z6_7).toInt + (1) := by rw [em_93]; exact pm_addc _ _ (1) rfl (by omega) (by omega)
                  exact hC.2 [false, false, false, false, false, false, false, true, true, true] _ _ _ _ _ _ (ih6 m29 v27 f27 hv27 hf27 hw27 hr27_0 hr27_1 (by omega) (by omega) (by intro L h9 hL hH h1 h2 h3; have hl := hL.1; have hL2 := rp_fr hL (n2 := v27 0) (by omega) lr0 lr1; rw [show m29.toInt = z6_7.toInt + 1 by omega, rc_s hL2 h1 h2 h3 (by omega) (by omega)]; have h4 := hb9 _ (j2_7 L h9 hL hH h1 h2 h3); first | (rw [if_neg (by omega)]; exact h4) | (rw [if_pos (by omega), hH, if_pos (Or.inl (by assumption))]; exact h4) | (rw [if_pos (by omega), hH, if_pos (Or.inr (by assumption))]; exact h4) | (rw [if_pos (by omega), hH, if_neg (fun h8 => h8.elim (by assumption) (by assumption)), if_pos ⟨by assumption, by assumption⟩]; exact h4) | (rw [if_pos (by omega), hH, if_neg (fun h8 => h8.elim (by assumption) (by assumption)), if_neg (fun h8 => absurd h8.2 (by assumption))]; exact h4) | (rw [if_pos (by omega), hH, if_neg (fun h8 => h8.elim (by assumption) (by assumption)), if_neg (fun h8 => h8.1 (by assumption))]; exact h4)) (by omega) (by omega) (by omega))
                · skip
                  have dc25 : ((f4 0 (z6_7).toInt.toNat)).toInt = (x4 : Int32).toInt := congrArg Int32.toInt c25
                  refine hC.1 6 78 _ _ rfl _ _ _ _ _ ?_
                  refine Exists.intro _ (And.intro md_o ?_)
                  refine Exists.intro _ (Exists.intro _ (And.intro (Or.inl (md_a_names D)) (And.intro (by omega) ?_)))
                  have hp_90 : ∀ L, rp (v 0) (f 0) (f 1) L → rp (v4 0) (f4 0) (f4 1) L := fun L h => rp_fr h (by omega) hr4_0 hr4_1
                  refine And.intro (Exists.intro _ md_o) (Exists.intro _ (Exists.intro _ (Exists.intro _ (Exists.intro _ (And.intro (F_X11_lays D v4 f4 hv4 hf4 x3 (f4 1 (z6_7).toInt.toNat) (by omega) (by omega)) (And.intro rfl (fun r9 A9 h9 => ?_)))))))
                  obtain ⟨v31, f31, rfl, rfl, hv31, hf31, hx31, hg31_0, hg31_1, by30⟩ := h9
                  have hw31 : f31 2 = f 2 := hx31.trans hw4
                  have hr31_0 : f31 0 = f 0 := hg31_0.trans hr4_0
                  have hr31_1 : f31 1 = f 1 := hg31_1.trans hr4_1
                  have hu32 := hv31
                  unfold md_V at hu32
                  clear hu7
                  have hb_90 := by30.2
                  have sq31 : (v31 0).toInt = (v4 0).toInt ∧ (v31 1).toInt = (v4 1).toInt ∧ (v31 3).toInt = (v4 3).toInt ∧ (v31 4).toInt = (v4 4).toInt ∧ (v31 6).toInt = (v4 6).toInt := by omega
                  have sp31 := by30.1.2.2.2.2.2
                  have hb9 := by30.2
                  clear by30
                  intro m33 em_93
                  try have e33 : m33.toInt = (z6_7).toInt + (1) := by rw [em_93]; exact pm_addc _ _ (1) rfl (by omega) (by omega)
                  exact hC.2 [false, false, false, false, false, false, false, true, true, true] _ _ _ _ _ _ (ih6 m33 v31 f31 hv31 hf31 hw31 hr31_0 hr31_1 (by omega) (by omega) (by intro L h9 hL hH h1 h2 h3; have hl := hL.1; have hL2 := rp_fr hL (n2 := v31 0) (by omega) lr0 lr1; rw [show m33.toInt = z6_7.toInt + 1 by omega, rc_s hL2 h1 h2 h3 (by omega) (by omega)]; have h4 := hb9 _ (j2_7 L h9 hL hH h1 h2 h3); first | (rw [if_neg (by omega)]; exact h4) | (rw [if_pos (by omega), hH, if_pos (Or.inl (by assumption))]; exact h4) | (rw [if_pos (by omega), hH, if_pos (Or.inr (by assumption))]; exact h4) | (rw [if_pos (by omega), hH, if_neg (fun h8 => h8.elim (by assumption) (by assumption)), if_pos ⟨by assumption, by assumption⟩]; exact h4) | (rw [if_pos (by omega), hH, if_neg (fun h8 => h8.elim (by assumption) (by assumption)), if_neg (fun h8 => absurd h8.2 (by assumption))]; exact h4) | (rw [if_pos (by omega), hH, if_neg (fun h8 => h8.elim (by assumption) (by assumption)), if_neg (fun h8 => h8.1 (by assumption))]; exact h4)) (by omega) (by omega) (by omega))
            · skip
              have dc19 : ((f4 0 (z6_7).toInt.toNat)).toInt = (x3 : Int32).toInt := congrArg Int32.toInt c19
              refine hC.1 3 55 _ _ rfl _ _ _ _ _ ?_
              refine hC.1 6 78 _ _ rfl _ _ _ _ _ ?_
              refine Exists.intro _ (And.intro md_o ?_)
              refine Exists.intro _ (Exists.intro _ (And.intro (Or.inl (md_a_names D)) (And.intro (by omega) ?_)))
              have hp_90 : ∀ L, rp (v 0) (f 0) (f 1) L → rp (v4 0) (f4 0) (f4 1) L := fun L h => rp_fr h (by omega) hr4_0 hr4_1
              refine And.intro (Exists.intro _ md_o) (Exists.intro _ (Exists.intro _ (Exists.intro _ (Exists.intro _ (And.intro (F_X11_lays D v4 f4 hv4 hf4 x4 (f4 1 (z6_7).toInt.toNat) (by omega) (by omega)) (And.intro rfl (fun r9 A9 h9 => ?_)))))))
              obtain ⟨v35, f35, rfl, rfl, hv35, hf35, hx35, hg35_0, hg35_1, by34⟩ := h9
              have hw35 : f35 2 = f 2 := hx35.trans hw4
              have hr35_0 : f35 0 = f 0 := hg35_0.trans hr4_0
              have hr35_1 : f35 1 = f 1 := hg35_1.trans hr4_1
              have hu36 := hv35
              unfold md_V at hu36
              clear hu7
              have hb_90 := by34.2
              have sq35 : (v35 0).toInt = (v4 0).toInt ∧ (v35 1).toInt = (v4 1).toInt ∧ (v35 3).toInt = (v4 3).toInt ∧ (v35 4).toInt = (v4 4).toInt ∧ (v35 6).toInt = (v4 6).toInt := by omega
              have sp35 := by34.1.2.2.2.2.2
              have hb9 := by34.2
              clear by34
              intro m37 em_93
              try have e37 : m37.toInt = (z6_7).toInt + (1) := by rw [em_93]; exact pm_addc _ _ (1) rfl (by omega) (by omega)
              exact hC.2 [false, false, false, false, false, false, false, true, true, true] _ _ _ _ _ _ (ih6 m37 v35 f35 hv35 hf35 hw35 hr35_0 hr35_1 (by omega) (by omega) (by intro L h9 hL hH h1 h2 h3; have hl := hL.1; have hL2 := rp_fr hL (n2 := v35 0) (by omega) lr0 lr1; rw [show m37.toInt = z6_7.toInt + 1 by omega, rc_s hL2 h1 h2 h3 (by omega) (by omega)]; have h4 := hb9 _ (j2_7 L h9 hL hH h1 h2 h3); first | (rw [if_neg (by omega)]; exact h4) | (rw [if_pos (by omega), hH, if_pos (Or.inl (by assumption))]; exact h4) | (rw [if_pos (by omega), hH, if_pos (Or.inr (by assumption))]; exact h4) | (rw [if_pos (by omega), hH, if_neg (fun h8 => h8.elim (by assumption) (by assumption)), if_pos ⟨by assumption, by assumption⟩]; exact h4) | (rw [if_pos (by omega), hH, if_neg (fun h8 => h8.elim (by assumption) (by assumption)), if_neg (fun h8 => absurd h8.2 (by assumption))]; exact h4) | (rw [if_pos (by omega), hH, if_neg (fun h8 => h8.elim (by assumption) (by assumption)), if_neg (fun h8 => h8.1 (by assumption))]; exact h4)) (by omega) (by omega) (by omega))
        · skip
          refine And.intro (fun c9 => absurd c9 (by decide)) (fun _ => ?_)
          refine hC.1 6 78 _ _ rfl _ _ _ _ _ ?_
          refine Exists.intro _ (And.intro md_o ?_)
          refine Exists.intro _ (Exists.intro _ (And.intro (Or.inl (md_a_names D)) (And.intro (by omega) ?_)))
          have hp_90 : ∀ L, rp (v 0) (f 0) (f 1) L → rp (v4 0) (f4 0) (f4 1) L := fun L h => rp_fr h (by omega) hr4_0 hr4_1
          refine And.intro (Exists.intro _ md_o) (Exists.intro _ (Exists.intro _ (Exists.intro _ (Exists.intro _ (And.intro (F_X11_lays D v4 f4 hv4 hf4 (f4 0 (z6_7).toInt.toNat) (f4 1 (z6_7).toInt.toNat) (by omega) (by omega)) (And.intro rfl (fun r9 A9 h9 => ?_)))))))
          obtain ⟨v39, f39, rfl, rfl, hv39, hf39, hx39, hg39_0, hg39_1, by38⟩ := h9
          have hw39 : f39 2 = f 2 := hx39.trans hw4
          have hr39_0 : f39 0 = f 0 := hg39_0.trans hr4_0
          have hr39_1 : f39 1 = f 1 := hg39_1.trans hr4_1
          have hu40 := hv39
          unfold md_V at hu40
          clear hu7
          have hb_90 := by38.2
          have sq39 : (v39 0).toInt = (v4 0).toInt ∧ (v39 1).toInt = (v4 1).toInt ∧ (v39 3).toInt = (v4 3).toInt ∧ (v39 4).toInt = (v4 4).toInt ∧ (v39 6).toInt = (v4 6).toInt := by omega
          have sp39 := by38.1.2.2.2.2.2
          have hb9 := by38.2
          clear by38
          have k1 : (1 : Int32).toInt = 1 := rfl
          intro m41 em_93
          try have e41 : m41.toInt = (z6_7).toInt + (1) := by rw [em_93]; exact pm_addc _ _ (1) rfl (by omega) (by omega)
          exact hC.2 [false, false, false, false, false, false, false, true, true, true] _ _ _ _ _ _ (ih6 m41 v39 f39 hv39 hf39 hw39 hr39_0 hr39_1 (by omega) (by omega) (by intro L h9 hL hH h1 h2 h3; have hl := hL.1; have hL2 := rp_fr hL (n2 := v39 0) (by omega) lr0 lr1; rw [show m41.toInt = z6_7.toInt + 1 by omega, rc_s hL2 h1 h2 h3 (by omega) (by omega)]; have h4 := hb9 _ (j2_7 L h9 hL hH h1 h2 h3); first | (rw [if_neg (by omega)]; exact h4) | (rw [if_pos (by omega), hH, if_pos (Or.inl (by assumption))]; exact h4) | (rw [if_pos (by omega), hH, if_pos (Or.inr (by assumption))]; exact h4) | (rw [if_pos (by omega), hH, if_neg (fun h8 => h8.elim (by assumption) (by assumption)), if_pos ⟨by assumption, by assumption⟩]; exact h4) | (rw [if_pos (by omega), hH, if_neg (fun h8 => h8.elim (by assumption) (by assumption)), if_neg (fun h8 => absurd h8.2 (by assumption))]; exact h4) | (rw [if_pos (by omega), hH, if_neg (fun h8 => h8.elim (by assumption) (by assumption)), if_neg (fun h8 => h8.1 (by assumption))]; exact h4)) (by omega) (by omega) (by omega))
  exact lp5 (200 - (0 : Int32).toInt).toNat.succ (0 : Int32) v2 f2 hv2 hf2 hw2 hr2_0 hr2_1 (by omega) (by omega) (by intro L h9 hL hH h1 h2 h3; rw [rc_0 h1 h2]; exact rp_0 (by omega)) (by omega) (by omega) (by omega)

end
