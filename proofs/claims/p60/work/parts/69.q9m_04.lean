section
section
variable {l : Launch} {g : pm_G} {A0 : pm_H} {h : Nat} {q : Nat → Nat}
set_option maxRecDepth 100000 in
set_option maxHeartbeats 2000000 in
theorem Y_X11_sort (D : md_D h q) (v : Nat → Int32) (f : Nat → Nat → Int32) (hv : md_V v) (hf : md_F f) (x1 : Int32) (x2 : Int32) (p0 : (v 4).toInt < 100000) : pm_Mt l g 190 4 0 0 [.ref h, .int x1, .int x2] (md A0 g h q v f) (md_Qw A0 g h q f (fun r v2 f2 => ((v2 6).toInt = (v 6).toInt ∧ (v2 4).toInt ≤ (v 4).toInt + 1 ∧ (v 4).toInt ≤ (v2 4).toInt) ∧ ((∀ L, rp (v 0) (f 0) (f 1) L → rp (v2 0) (f2 0) (f2 1) ((ed_sort L x1 x2).getD L) ∧ (v2 4).toInt = (v 4).toInt + edn (ed_sort L x1 x2) ∧ (v2 3).toInt = (v 3).toInt + edn (ed_sort L x1 x2) * (0)) ∧ HMe (v 4).toInt f v2 f2 r.toInt))) := by
  refine mt_X11_sort rfl (fun J hC => ?_)
  have hv9 := hv
  unfold md_V at hv9
  have rg_x1 := pm_rng x1
  have rg_x2 := pm_rng x2
  refine hC.1 0 0 _ _ rfl _ _ _ _ _ ?_
  have hp_3 : ∀ L, rp (v 0) (f 0) (f 1) L → rp (v 0) (f 0) (f 1) L := fun L h => rp_fr h (by omega) rfl rfl
  refine And.intro (Exists.intro _ md_o) (Exists.intro _ (Exists.intro _ (Exists.intro _ (Exists.intro _ (And.intro (c_X11_isSpan D v f hv hf x1 x2 ) (And.intro rfl (fun r9 A9 h9 => ?_)))))))
  rcases h9 with ⟨y1, rfl, rfl, ⟨rfl, by1⟩ | ⟨rfl, by1⟩⟩
  · skip
    have k1 : (1 : Int32).toInt = 1 := rfl
    refine And.intro (fun _ => ?_) (fun c9 => absurd c9 (by decide))
    refine hC.1 1 11 _ _ rfl _ _ _ _ _ ?_
    have hp_12 : ∀ L, rp (v 0) (f 0) (f 1) L → rp (v 0) (f 0) (f 1) L := fun L h => rp_fr h (by omega) rfl rfl
    refine And.intro (Exists.intro _ md_o) (Exists.intro _ (Exists.intro _ (Exists.intro _ (Exists.intro _ (And.intro (Y_X11_begins D v f hv hf  ) (And.intro rfl (fun r9 A9 h9 => ?_)))))))
    obtain ⟨v3, f3, rfl, rfl, hv3, hf3, hx3, hg3_0, hg3_1, hg3_12, hg3_13, hg3_14, hg3_15, by2⟩ := h9
    have hw3 : f3 2 = f 2 := hx3.trans rfl
    have hr3_0 : f3 0 = f 0 := hg3_0.trans rfl
    have hr3_1 : f3 1 = f 1 := hg3_1.trans rfl
    have hr3_12 : f3 12 = f 12 := hg3_12.trans rfl
    have hr3_13 : f3 13 = f 13 := hg3_13.trans rfl
    have hr3_14 : f3 14 = f 14 := hg3_14.trans rfl
    have hr3_15 : f3 15 = f 15 := hg3_15.trans rfl
    have hu4 := hv3
    unfold md_V at hu4
    have sq3 : (v3 0).toInt = (v 0).toInt ∧ (v3 3).toInt = (v 3).toInt ∧ (v3 4).toInt = (v 4).toInt ∧ (v3 6).toInt = (v 6).toInt := by omega
    have sp3 := by2.2.2.2.2
    clear by2
    have k0 : (0 : Int32).toInt = 0 := rfl
    have hp_18 : ∀ L, rp (v 0) (f 0) (f 1) L → rp (v3 0) (f3 0) (f3 1) L := fun L h => rp_fr h (by omega) hr3_0 hr3_1
    refine And.intro (Exists.intro _ md_o) (Exists.intro _ (Exists.intro _ (Exists.intro _ (Exists.intro _ (And.intro (Y_X11_laysFrom D v3 f3 hv3 hf3 (0 : Int32) x1 (by omega) (by omega) (by omega) (by omega)) (And.intro rfl (fun r9 A9 h9 => ?_)))))))
    obtain ⟨v6, f6, rfl, rfl, hv6, hf6, hx6, hg6_0, hg6_1, hg6_12, hg6_13, hg6_14, hg6_15, by5⟩ := h9
    have hw6 : f6 2 = f 2 := hx6.trans hw3
    have hr6_0 : f6 0 = f 0 := hg6_0.trans hr3_0
    have hr6_1 : f6 1 = f 1 := hg6_1.trans hr3_1
    have hr6_12 : f6 12 = f 12 := hg6_12.trans hr3_12
    have hr6_13 : f6 13 = f 13 := hg6_13.trans hr3_13
    have hr6_14 : f6 14 = f 14 := hg6_14.trans hr3_14
    have hr6_15 : f6 15 = f 15 := hg6_15.trans hr3_15
    have hu7 := hv6
    unfold md_V at hu7
    clear hu4
    have hb_18 := by5.2
    have sq6 : (v6 0).toInt = (v 0).toInt ∧ (v6 1).toInt = (v3 1).toInt ∧ (v6 3).toInt = (v 3).toInt ∧ (v6 4).toInt = (v 4).toInt ∧ (v6 6).toInt = (v 6).toInt := by omega
    have sp6 := by5.1.2.2.2.2.2
    clear by5
    have lp9 : ∀ (n : Nat) (z3_23 : Int32) (v8 : Nat → Int32) (f8 : Nat → Nat → Int32), md_V v8 → md_F f8 → f8 2 = f 2 → f8 0 = f 0 → f8 1 = f 1 → f8 12 = f 12 → f8 13 = f 13 → f8 14 = f 14 → f8 15 = f 15 → (0 ≤ z3_23.toInt ∧ z3_23.toInt ≤ 24) → ((v8 0).toInt = (v 0).toInt ∧ (v8 4).toInt = (v 4).toInt ∧ (v8 3).toInt = (v 3).toInt) → ((v8 2).toInt = x1.toInt + ctLt (f 0) z3_23.toInt x1.toInt.toNat (x2.toInt - x1.toInt + 1).toNat) → (∀ L, rp (v 0) (f 0) (f 1) L → rp (v8 2) (f8 5) (f8 6) (si L 0 x1.toInt ++ st_l (si L x1.toInt (x2.toInt + 1)) z3_23.toInt.toNat)) → (v8 6).toInt = (v 6).toInt → 200 - z3_23.toInt < (n : Int) → J 23 [some (.ref h), some (.int x1), some (.int x2), some (.int z3_23), none] [] (md A0 g h q v8 f8) 0 0 := by
      intro n
      induction n with
      | zero =>
        intro z3_23 v8 f8 hv8 hf8 hw8 hr8_0 hr8_1 hr8_12 hr8_13 hr8_14 hr8_15 j0_23 j1_23 j2_23 j3_23 j4_23 j5_23
        omega
      | succ n ih10 =>
        intro z3_23 v8 f8 hv8 hf8 hw8 hr8_0 hr8_1 hr8_12 hr8_13 hr8_14 hr8_15 j0_23 j1_23 j2_23 j3_23 j4_23 j5_23
        have cl9 := ctLt_le (f 0) z3_23.toInt x1.toInt.toNat (x2.toInt - x1.toInt + 1).toNat
        refine hC.1 2 23 _ _ rfl _ _ _ _ _ ?_
        have hu11 := hv8
        unfold md_V at hu11
        have k24 : (24 : Int32).toInt = 24 := rfl
        refine And.intro (fun c12 => ?_) (fun c12 => ?_)
        · skip
          refine hC.1 6 73 _ _ rfl _ _ _ _ _ ?_
          intro m13 em_76
          try have e13 : m13.toInt = (x2).toInt + (1) := by rw [em_76]; exact pm_addc _ _ (1) rfl (by omega) (by omega)
          refine Exists.intro _ (And.intro md_o ?_)
          have hp_81 : ∀ L, rp (v 0) (f 0) (f 1) L → rp (v8 0) (f8 0) (f8 1) L := fun L h => rp_fr h (by omega) hr8_0 hr8_1
          refine And.intro (Exists.intro _ md_o) (Exists.intro _ (Exists.intro _ (Exists.intro _ (Exists.intro _ (And.intro (Y_X11_laysFrom D v8 f8 hv8 hf8 m13 (v8 0) (by omega) (by omega) (by omega) (by omega)) (And.intro rfl (fun r9 A9 h9 => ?_)))))))
          obtain ⟨v15, f15, rfl, rfl, hv15, hf15, hx15, hg15_0, hg15_1, hg15_12, hg15_13, hg15_14, hg15_15, by14⟩ := h9
          have hw15 : f15 2 = f 2 := hx15.trans hw8
          have hr15_0 : f15 0 = f 0 := hg15_0.trans hr8_0
          have hr15_1 : f15 1 = f 1 := hg15_1.trans hr8_1
          have hr15_12 : f15 12 = f 12 := hg15_12.trans hr8_12
          have hr15_13 : f15 13 = f 13 := hg15_13.trans hr8_13
          have hr15_14 : f15 14 = f 14 := hg15_14.trans hr8_14
          have hr15_15 : f15 15 = f 15 := hg15_15.trans hr8_15
          have hu16 := hv15
          unfold md_V at hu16
          clear hu11
          have hb_81 := by14.2
          have sq15 : (v15 0).toInt = (v8 0).toInt ∧ (v15 1).toInt = (v8 1).toInt ∧ (v15 3).toInt = (v8 3).toInt ∧ (v15 4).toInt = (v8 4).toInt ∧ (v15 6).toInt = (v8 6).toInt := by omega
          have sp15 := by14.1.2.2.2.2.2
          clear by14
          have hp_85 : ∀ L, rp (v 0) (f 0) (f 1) L → rp (v15 0) (f15 0) (f15 1) L := fun L h => rp_fr h (by omega) hr15_0 hr15_1
          refine And.intro (Exists.intro _ md_o) (Exists.intro _ (Exists.intro _ (Exists.intro _ (Exists.intro _ (And.intro (Y_X11_ends D v15 f15 hv15 hf15  (by omega)) (And.intro rfl (fun r9 A9 h9 => ?_)))))))
          obtain ⟨y17, v18, f18, rfl, rfl, hv18, hf18, hx18, by17⟩ := h9
          have hw18 : f18 2 = f 2 := hx18.trans hw15
          have hu19 := hv18
          unfold md_V at hu19
          clear hu16
          have hb_85 := by17.2.1
          have sq18 : (v18 1).toInt = (v8 1).toInt ∧ (v18 2).toInt = (v15 2).toInt ∧ (v18 3).toInt = (v8 3).toInt ∧ (v18 6).toInt = (v8 6).toInt := by omega
          have sp18 := by17.1.2.2.2.2
          have hm_9 := HM_fr by17.2.2 hr15_12 hr15_13 hr15_14 hr15_15
          clear by17
          exact ⟨rfl, fun e9 => absurd e9 (by decide), rfl, y17, v18, f18, rfl, rfl, hv18, hf18, hw18, by first | omega | (dsimp only; omega) | trivial, by refine ⟨?_, ?_⟩; (intro L hL; have hl := hL.1; rw [ed_sort, if_pos (by omega)]; have t2 := j3_23 L hL; rw [show z3_23.toInt.toNat = 24 by omega] at t2; have t3 := hb_81 L _ (x2.toInt + 1) L.length (hp_81 L hL) (by omega) (by omega) (by omega) (by omega) t2; exact ⟨hb_85 _ t3, by show _ = _ + (1 : Int); omega, by show _ = _ + (1 : Int) * _; omega⟩); (first | (exact Or.inr ⟨by omega, hm_9⟩) | (exact Or.inl ⟨by omega, hr_missing, hr_missing, hr_missing, hr_missing⟩))⟩
        · skip
          have lp21 : ∀ (n : Nat) (z4_32 : Int32) (v20 : Nat → Int32) (f20 : Nat → Nat → Int32), md_V v20 → md_F f20 → f20 2 = f 2 → f20 0 = f 0 → f20 1 = f 1 → f20 12 = f 12 → f20 13 = f 13 → f20 14 = f 14 → f20 15 = f 15 → (x1.toInt ≤ z4_32.toInt ∧ z4_32.toInt ≤ x2.toInt + 1) → ((v20 0).toInt = (v 0).toInt ∧ (v20 4).toInt = (v 4).toInt ∧ (v20 3).toInt = (v 3).toInt) → ((v20 2).toInt = x1.toInt + soN (f 0) z3_23.toInt x1.toInt.toNat (z4_32.toInt - x1.toInt).toNat (x2.toInt - x1.toInt + 1).toNat) → (∀ L, rp (v 0) (f 0) (f 1) L → rp (v20 2) (f20 5) (f20 6) (si L 0 x1.toInt ++ (st_l (si L x1.toInt (x2.toInt + 1)) z3_23.toInt.toNat ++ (si L x1.toInt z4_32.toInt).filter (fun p => decide (p.1.toInt = z3_23.toInt))))) → (v20 6).toInt = (v 6).toInt → 200 - z4_32.toInt < (n : Int) → J 32 [some (.ref h), some (.int x1), some (.int x2), some (.int z3_23), some (.int z4_32)] [] (md A0 g h q v20 f20) 0 0 := by
            intro n
            induction n with
            | zero =>
              intro z4_32 v20 f20 hv20 hf20 hw20 hr20_0 hr20_1 hr20_12 hr20_13 hr20_14 hr20_15 j0_32 j1_32 j2_32 j3_32 j4_32 j5_32
              omega
            | succ n ih22 =>
              intro z4_32 v20 f20 hv20 hf20 hw20 hr20_0 hr20_1 hr20_12 hr20_13 hr20_14 hr20_15 j0_32 j1_32 j2_32 j3_32 j4_32 j5_32
              have lr0 := hr20_0
              have lr1 := hr20_1
              refine hC.1 3 32 _ _ rfl _ _ _ _ _ ?_
              have hu23 := hv20
              unfold md_V at hu23
              refine And.intro (fun c24 => ?_) (fun c24 => ?_)
              · skip
                refine hC.1 5 67 _ _ rfl _ _ _ _ _ ?_
                intro m25 em_67
                try have e25 : m25.toInt = (z3_23).toInt + (1) := by rw [em_67]; exact pm_addc _ _ (1) rfl (by omega) (by omega)
                exact hC.2 [false, false, false, false, true] _ _ _ _ _ _ (ih10 m25 v20 f20 hv20 hf20 hw20 hr20_0 hr20_1 hr20_12 hr20_13 hr20_14 hr20_15 (by omega) (by omega) (by rw [j2_32, show (z4_32.toInt - x1.toInt).toNat = (x2.toInt - x1.toInt + 1).toNat by omega, so_e, show m25.toInt = z3_23.toInt + 1 by omega]) (by intro L hL; have hl := hL.1; have t9 := j3_32 L hL; rw [show z4_32.toInt = x2.toInt + 1 by omega] at t9; rw [show m25.toInt.toNat = z3_23.toInt.toNat + 1 by omega]; show rp _ _ _ (_ ++ (st_l _ _ ++ List.filter (fun p => decide (p.1.toInt = ((z3_23.toInt.toNat : Nat) : Int))) _)); rw [show ((z3_23.toInt.toNat : Nat) : Int) = z3_23.toInt by omega]; exact t9) (by omega) (by omega))
              · skip
                refine Exists.intro _ (And.intro md_o ?_)
                refine Exists.intro _ (Exists.intro _ (And.intro (Or.inl (md_a_colours D)) (And.intro (by omega) ?_)))
                have w26 : (0 : Int) ≤ (f20 0 (z4_32).toInt.toNat).toInt ∧ (f20 0 (z4_32).toInt.toNat).toInt ≤ (23 : Int) := hf20 0 _
                refine And.intro (fun c27 => ?_) (fun c27 => ?_)
                · skip
                  have dc27 := pm_neI c27
                  refine hC.1 4 61 _ _ rfl _ _ _ _ _ ?_
                  intro m28 em_61
                  try have e28 : m28.toInt = (z4_32).toInt + (1) := by rw [em_61]; exact pm_addc _ _ (1) rfl (by omega) (by omega)
                  exact ih22 m28 v20 f20 hv20 hf20 hw20 hr20_0 hr20_1 hr20_12 hr20_13 hr20_14 hr20_15 (by omega) (by omega) (by first | (rw [show (m28.toInt - x1.toInt).toNat = (z4_32.toInt - x1.toInt).toNat + 1 by omega, so9.2]; omega) | (rw [show (m28.toInt - x1.toInt).toNat = (z4_32.toInt - x1.toInt).toNat + 1 by omega, so_n (by rw [show x1.toInt.toNat + (z4_32.toInt - x1.toInt).toNat = z4_32.toInt.toNat by omega, ← hr20_0]; assumption)]; exact j2_32)) (by first | (intro L hL; have hl := hL.1; rw [show m28.toInt = z4_32.toInt + 1 by omega, si_s hL (a := x1.toInt) (z := z4_32.toInt) (by omega) (by omega) (by omega), fl_y (by rw [hc49]), ← List.append_assoc, ← List.append_assoc]; have h4 := hb9 _ (j3_32 L hL); rw [lr1, ← List.append_assoc] at h4; rw [hc49]; exact h4) | (intro L hL; have hl := hL.1; rw [show m28.toInt = z4_32.toInt + 1 by omega, si_s hL (a := x1.toInt) (z := z4_32.toInt) (by omega) (by omega) (by omega), fl_n (by rw [← lr0]; assumption)]; exact j3_32 L hL)) (by omega) (by omega)
                · skip
                  have dc27 : ((f20 0 (z4_32).toInt.toNat)).toInt = (z3_23 : Int32).toInt := congrArg Int32.toInt c27
                  have so9 := so_lt (c := f 0) (x := z3_23.toInt) (l := x1.toInt.toNat) (k := (z4_32.toInt - x1.toInt).toNat) (n := (x2.toInt - x1.toInt + 1).toNat) (by omega) (by rw [show x1.toInt.toNat + (z4_32.toInt - x1.toInt).toNat = z4_32.toInt.toNat by omega, ← hr20_0]; assumption)
                  have hc49 : f 0 z4_32.toInt.toNat = z3_23 := by rw [← hr20_0]; assumption
                  refine Exists.intro _ (And.intro md_o ?_)
                  refine Exists.intro _ (Exists.intro _ (And.intro (Or.inl (md_a_names D)) (And.intro (by omega) ?_)))
                  have hp_58 : ∀ L, rp (v 0) (f 0) (f 1) L → rp (v20 0) (f20 0) (f20 1) L := fun L h => rp_fr h (by omega) hr20_0 hr20_1
                  refine And.intro (Exists.intro _ md_o) (Exists.intro _ (Exists.intro _ (Exists.intro _ (Exists.intro _ (And.intro (Y_X11_lays D v20 f20 hv20 hf20 z3_23 (f20 1 (z4_32).toInt.toNat) (by omega) (by omega)) (And.intro rfl (fun r9 A9 h9 => ?_)))))))
                  obtain ⟨v30, f30, rfl, rfl, hv30, hf30, hx30, hg30_0, hg30_1, hg30_12, hg30_13, hg30_14, hg30_15, by29⟩ := h9
                  have hw30 : f30 2 = f 2 := hx30.trans hw20
                  have hr30_0 : f30 0 = f 0 := hg30_0.trans hr20_0
                  have hr30_1 : f30 1 = f 1 := hg30_1.trans hr20_1
                  have hr30_12 : f30 12 = f 12 := hg30_12.trans hr20_12
                  have hr30_13 : f30 13 = f 13 := hg30_13.trans hr20_13
                  have hr30_14 : f30 14 = f 14 := hg30_14.trans hr20_14
                  have hr30_15 : f30 15 = f 15 := hg30_15.trans hr20_15
                  have hu31 := hv30
                  unfold md_V at hu31
                  clear hu23
                  have hb_58 := by29.2
                  have sq30 : (v30 0).toInt = (v20 0).toInt ∧ (v30 1).toInt = (v20 1).toInt ∧ (v30 3).toInt = (v20 3).toInt ∧ (v30 4).toInt = (v20 4).toInt ∧ (v30 6).toInt = (v20 6).toInt := by omega
                  have sp30 := by29.1.2.2.2.2.2
                  have hb9 := by29.2
                  clear by29
                  refine hC.1 4 61 _ _ rfl _ _ _ _ _ ?_
                  intro m32 em_61
                  try have e32 : m32.toInt = (z4_32).toInt + (1) := by rw [em_61]; exact pm_addc _ _ (1) rfl (by omega) (by omega)
                  exact ih22 m32 v30 f30 hv30 hf30 hw30 hr30_0 hr30_1 hr30_12 hr30_13 hr30_14 hr30_15 (by omega) (by omega) (by first | (rw [show (m32.toInt - x1.toInt).toNat = (z4_32.toInt - x1.toInt).toNat + 1 by omega, so9.2]; omega) | (rw [show (m32.toInt - x1.toInt).toNat = (z4_32.toInt - x1.toInt).toNat + 1 by omega, so_n (by rw [show x1.toInt.toNat + (z4_32.toInt - x1.toInt).toNat = z4_32.toInt.toNat by omega, ← hr30_0]; assumption)]; exact j2_32)) (by first | (intro L hL; have hl := hL.1; rw [show m32.toInt = z4_32.toInt + 1 by omega, si_s hL (a := x1.toInt) (z := z4_32.toInt) (by omega) (by omega) (by omega), fl_y (by rw [hc49]), ← List.append_assoc, ← List.append_assoc]; have h4 := hb9 _ (j3_32 L hL); rw [lr1, ← List.append_assoc] at h4; rw [hc49]; exact h4) | (intro L hL; have hl := hL.1; rw [show m32.toInt = z4_32.toInt + 1 by omega, si_s hL (a := x1.toInt) (z := z4_32.toInt) (by omega) (by omega) (by omega), fl_n (by rw [← lr0]; assumption)]; exact j3_32 L hL)) (by omega) (by omega)
          exact lp21 (200 - x1.toInt).toNat.succ x1 v8 f8 hv8 hf8 hw8 hr8_0 hr8_1 hr8_12 hr8_13 hr8_14 hr8_15 (by omega) (by omega) (by rw [j2_23, show (x1.toInt - x1.toInt).toNat = 0 by omega, so_0]) (by intro L hL; have hl := hL.1; rw [si_n (L := L) (a := x1.toInt) (b := x1.toInt) (Int.le_refl _)]; show rp _ _ _ (_ ++ (_ ++ [])); rw [List.append_nil]; exact j3_23 L hL) (by omega) (by omega)
    exact lp9 (200 - (0 : Int32).toInt).toNat.succ (0 : Int32) v6 f6 hv6 hf6 hw6 hr6_0 hr6_1 hr6_12 hr6_13 hr6_14 hr6_15 (by omega) (by omega) (by have h9 : ctLt (f 0) (0 : Int32).toInt x1.toInt.toNat (x2.toInt - x1.toInt + 1).toNat = 0 := ctLt_0 _ _ (fun j => (hf 0 j).1) _; rw [h9]; omega) (by intro L hL; have hl := hL.1; have t1 := hb_18 L [] 0 x1.toInt (hp_18 L hL) rfl rfl (by omega) (by omega) (rp_0 (by omega)); rw [List.nil_append] at t1; show rp _ _ _ (si L 0 x1.toInt ++ []); rw [List.append_nil]; exact t1) (by omega) (by omega)
  · skip
    have k0 : (0 : Int32).toInt = 0 := rfl
    refine And.intro (fun c9 => absurd c9 (by decide)) (fun _ => ?_)
    have km1 : (-1 : Int32).toInt = -1 := rfl
    exact ⟨rfl, fun e9 => absurd e9 (by decide), rfl, (-1 : Int32), v, f, rfl, rfl, hv, hf, rfl, by first | omega | (dsimp only; omega) | trivial, by refine ⟨?_, ?_⟩; (intro L hL; have hl := hL.1; rw [ed_sort, if_neg (by omega)]; exact ⟨hL, by show _ = _ + (0 : Int); omega, by show _ = _ + (0 : Int) * _; omega⟩); (first | (exact Or.inr ⟨by omega, hm_9⟩) | (exact Or.inl ⟨by omega, rfl, rfl, rfl, rfl⟩))⟩

end
end
section
section
variable {l : Launch} {g : pm_G} {A0 : pm_H} {h : Nat} {q : Nat → Nat}
set_option maxRecDepth 100000 in
set_option maxHeartbeats 2000000 in
theorem Y_X11_recolours (D : md_D h q) (v : Nat → Int32) (f : Nat → Nat → Int32) (hv : md_V v) (hf : md_F f) (x1 : Int32) (x2 : Int32) (x3 : Int32) (x4 : Int32) (x5 : Int32) (p0 : (v 4).toInt < 100000) (p1 : -1 ≤ x3.toInt ∧ x3.toInt ≤ 23) (p2 : 0 ≤ x4.toInt ∧ x4.toInt ≤ 23) : pm_Mt l g 171 4 0 0 [.ref h, .int x1, .int x2, .int x3, .int x4, .int x5] (md A0 g h q v f) (md_Qw A0 g h q f (fun r v2 f2 => ((v2 3).toInt = (v 3).toInt ∧ (v2 6).toInt = (v 6).toInt ∧ (v2 4).toInt = (v 4).toInt + 1) ∧ ((∀ (L : List pl_P) (h9 : Int32 → Int32), rp (v 0) (f 0) (f 1) L → (∀ c9, h9 c9 = if x3 = -1 ∨ c9 = x3 then x4 else if ¬ x5 = 0 ∧ c9 = x4 then x3 else c9) → 0 ≤ x1.toInt → x1.toInt ≤ x2.toInt + 1 → x2.toInt < (L.length : Int) → rp (v2 0) (f2 0) (f2 1) (rc_l L x1.toInt x2.toInt h9)) ∧ HM f v2 f2 r.toInt))) := by
  refine mt_X11_recolours rfl (fun J hC => ?_)
  have hv9 := hv
  unfold md_V at hv9
  have rg_x1 := pm_rng x1
  have rg_x2 := pm_rng x2
  have rg_x3 := pm_rng x3
  have rg_x4 := pm_rng x4
  have rg_x5 := pm_rng x5
  refine hC.1 0 0 _ _ rfl _ _ _ _ _ ?_
  have hp_1 : ∀ L, rp (v 0) (f 0) (f 1) L → rp (v 0) (f 0) (f 1) L := fun L h => rp_fr h (by omega) rfl rfl
  refine And.intro (Exists.intro _ md_o) (Exists.intro _ (Exists.intro _ (Exists.intro _ (Exists.intro _ (And.intro (Y_X11_begins D v f hv hf  ) (And.intro rfl (fun r9 A9 h9 => ?_)))))))
  obtain ⟨v2, f2, rfl, rfl, hv2, hf2, hx2, hg2_0, hg2_1, hg2_12, hg2_13, hg2_14, hg2_15, by1⟩ := h9
  have hw2 : f2 2 = f 2 := hx2.trans rfl
  have hr2_0 : f2 0 = f 0 := hg2_0.trans rfl
  have hr2_1 : f2 1 = f 1 := hg2_1.trans rfl
  have hr2_12 : f2 12 = f 12 := hg2_12.trans rfl
  have hr2_13 : f2 13 = f 13 := hg2_13.trans rfl
  have hr2_14 : f2 14 = f 14 := hg2_14.trans rfl
  have hr2_15 : f2 15 = f 15 := hg2_15.trans rfl
  have hu3 := hv2
  unfold md_V at hu3
  have sq2 : (v2 0).toInt = (v 0).toInt ∧ (v2 3).toInt = (v 3).toInt ∧ (v2 4).toInt = (v 4).toInt ∧ (v2 6).toInt = (v 6).toInt := by omega
  have sp2 := by1.2.2.2.2
  clear by1
  have k0 : (0 : Int32).toInt = 0 := rfl
  have lp5 : ∀ (n : Nat) (z6_7 : Int32) (v4 : Nat → Int32) (f4 : Nat → Nat → Int32), md_V v4 → md_F f4 → f4 2 = f 2 → f4 0 = f 0 → f4 1 = f 1 → f4 12 = f 12 → f4 13 = f 13 → f4 14 = f 14 → f4 15 = f 15 → (0 ≤ z6_7.toInt ∧ z6_7.toInt ≤ (v 0).toInt) → ((v4 0).toInt = (v 0).toInt ∧ (v4 4).toInt = (v 4).toInt ∧ (v4 2).toInt = z6_7.toInt) → (∀ (L : List pl_P) (h9 : Int32 → Int32), rp (v 0) (f 0) (f 1) L → (∀ c9, h9 c9 = if x3 = -1 ∨ c9 = x3 then x4 else if ¬ x5 = 0 ∧ c9 = x4 then x3 else c9) → 0 ≤ x1.toInt → x1.toInt ≤ x2.toInt + 1 → x2.toInt < (L.length : Int) → rp (v4 2) (f4 5) (f4 6) (rc_p L x1.toInt x2.toInt h9 z6_7.toInt)) → (v4 3).toInt = (v 3).toInt → (v4 6).toInt = (v 6).toInt → 200 - z6_7.toInt < (n : Int) → J 7 [some (.ref h), some (.int x1), some (.int x2), some (.int x3), some (.int x4), some (.int x5), some (.int z6_7), none, none, none] [] (md A0 g h q v4 f4) 0 0 := by
    intro n
    induction n with
    | zero =>
      intro z6_7 v4 f4 hv4 hf4 hw4 hr4_0 hr4_1 hr4_12 hr4_13 hr4_14 hr4_15 j0_7 j1_7 j2_7 j3_7 j4_7 j5_7
      omega
    | succ n ih6 =>
      intro z6_7 v4 f4 hv4 hf4 hw4 hr4_0 hr4_1 hr4_12 hr4_13 hr4_14 hr4_15 j0_7 j1_7 j2_7 j3_7 j4_7 j5_7
      have lr0 := hr4_0
      have lr1 := hr4_1
      refine hC.1 1 7 _ _ rfl _ _ _ _ _ ?_
      have hu7 := hv4
      unfold md_V at hu7
      refine Exists.intro _ (And.intro md_o ?_)
      refine And.intro (fun c8 => ?_) (fun c8 => ?_)
      · skip
        refine hC.1 7 99 _ _ rfl _ _ _ _ _ ?_
        have hp_100 : ∀ L, rp (v 0) (f 0) (f 1) L → rp (v4 0) (f4 0) (f4 1) L := fun L h => rp_fr h (by omega) hr4_0 hr4_1
        refine And.intro (Exists.intro _ md_o) (Exists.intro _ (Exists.intro _ (Exists.intro _ (Exists.intro _ (And.intro (Y_X11_ends D v4 f4 hv4 hf4  (by omega)) (And.intro rfl (fun r9 A9 h9 => ?_)))))))
        obtain ⟨y9, v10, f10, rfl, rfl, hv10, hf10, hx10, by9⟩ := h9
        have hw10 : f10 2 = f 2 := hx10.trans hw4
        have hu11 := hv10
        unfold md_V at hu11
        clear hu7
        have hb_100 := by9.2.1
        have sq10 : (v10 1).toInt = (v4 1).toInt ∧ (v10 2).toInt = (v4 2).toInt ∧ (v10 3).toInt = (v4 3).toInt ∧ (v10 6).toInt = (v4 6).toInt := by omega
        have sp10 := by9.1.2.2.2.2
        have hm_9 := HM_fr by9.2.2 hr4_12 hr4_13 hr4_14 hr4_15
        clear by9
        exact ⟨rfl, fun e9 => absurd e9 (by decide), rfl, y9, v10, f10, rfl, rfl, hv10, hf10, hw10, by first | omega | (dsimp only; omega) | trivial, by refine ⟨?_, ?_⟩; (intro L h9 hL hH h1 h2 h3; have hl := hL.1; have t2 := j2_7 L h9 hL hH h1 h2 h3; rw [show z6_7.toInt = (L.length : Int) by omega, rc_e h1 h2 h3] at t2; exact hb_100 _ t2); (exact hm_9)⟩
      · skip
        refine Exists.intro _ (And.intro md_o ?_)
        refine Exists.intro _ (Exists.intro _ (And.intro (Or.inl (md_a_colours D)) (And.intro (by omega) ?_)))
        have w12 : (0 : Int) ≤ (f4 0 (z6_7).toInt.toNat).toInt ∧ (f4 0 (z6_7).toInt.toNat).toInt ≤ (23 : Int) := hf4 0 _
        refine Exists.intro _ (Exists.intro _ (Exists.intro _ (Exists.intro _ (And.intro (c_X11_isIn (md A0 g h q v4 f4) z6_7 x1 x2 ) (And.intro rfl (fun r9 A9 h9 => ?_))))))
        rcases h9 with ⟨y13, rfl, rfl, ⟨rfl, by13⟩ | ⟨rfl, by13⟩⟩
        · skip
          have k1 : (1 : Int32).toInt = 1 := rfl
          refine And.intro (fun _ => ?_) (fun c9 => absurd c9 (by decide))
          refine hC.1 2 44 _ _ rfl _ _ _ _ _ ?_
          have km1 : (-1 : Int32).toInt = -1 := rfl
          refine And.intro (fun c14 => ?_) (fun c14 => ?_)
          · skip
            have dc14 : (x3).toInt = ((-1 : Int32) : Int32).toInt := congrArg Int32.toInt c14
            refine hC.1 3 55 _ _ rfl _ _ _ _ _ ?_
            refine hC.1 6 78 _ _ rfl _ _ _ _ _ ?_
            refine Exists.intro _ (And.intro md_o ?_)
            refine Exists.intro _ (Exists.intro _ (And.intro (Or.inl (md_a_names D)) (And.intro (by omega) ?_)))
            have hp_90 : ∀ L, rp (v 0) (f 0) (f 1) L → rp (v4 0) (f4 0) (f4 1) L := fun L h => rp_fr h (by omega) hr4_0 hr4_1
            refine And.intro (Exists.intro _ md_o) (Exists.intro _ (Exists.intro _ (Exists.intro _ (Exists.intro _ (And.intro (Y_X11_lays D v4 f4 hv4 hf4 x4 (f4 1 (z6_7).toInt.toNat) (by omega) (by omega)) (And.intro rfl (fun r9 A9 h9 => ?_)))))))
            obtain ⟨v16, f16, rfl, rfl, hv16, hf16, hx16, hg16_0, hg16_1, hg16_12, hg16_13, hg16_14, hg16_15, by15⟩ := h9
            have hw16 : f16 2 = f 2 := hx16.trans hw4
            have hr16_0 : f16 0 = f 0 := hg16_0.trans hr4_0
            have hr16_1 : f16 1 = f 1 := hg16_1.trans hr4_1
            have hr16_12 : f16 12 = f 12 := hg16_12.trans hr4_12
            have hr16_13 : f16 13 = f 13 := hg16_13.trans hr4_13
            have hr16_14 : f16 14 = f 14 := hg16_14.trans hr4_14
            have hr16_15 : f16 15 = f 15 := hg16_15.trans hr4_15
            have hu17 := hv16
            unfold md_V at hu17
            clear hu7
            have hb_90 := by15.2
            have sq16 : (v16 0).toInt = (v4 0).toInt ∧ (v16 1).toInt = (v4 1).toInt ∧ (v16 3).toInt = (v4 3).toInt ∧ (v16 4).toInt = (v4 4).toInt ∧ (v16 6).toInt = (v4 6).toInt := by omega
            have sp16 := by15.1.2.2.2.2.2
            have hb9 := by15.2
            clear by15
            intro m18 em_93
            try have e18 : m18.toInt = (z6_7).toInt + (1) := by rw [em_93]; exact pm_addc _ _ (1) rfl (by omega) (by omega)
            exact hC.2 [false, false, false, false, false, false, false, true, true, true] _ _ _ _ _ _ (ih6 m18 v16 f16 hv16 hf16 hw16 hr16_0 hr16_1 hr16_12 hr16_13 hr16_14 hr16_15 (by omega) (by omega) (by intro L h9 hL hH h1 h2 h3; have hl := hL.1; have hL2 := rp_fr hL (n2 := v16 0) (by omega) lr0 lr1; rw [show m18.toInt = z6_7.toInt + 1 by omega, rc_s hL2 h1 h2 h3 (by omega) (by omega)]; have h4 := hb9 _ (j2_7 L h9 hL hH h1 h2 h3); first | (rw [if_neg (by omega)]; exact h4) | (rw [if_pos (by omega), hH, if_pos (Or.inl (by assumption))]; exact h4) | (rw [if_pos (by omega), hH, if_pos (Or.inr (by assumption))]; exact h4) | (rw [if_pos (by omega), hH, if_neg (fun h8 => h8.elim (by assumption) (by assumption)), if_pos ⟨by assumption, by assumption⟩]; exact h4) | (rw [if_pos (by omega), hH, if_neg (fun h8 => h8.elim (by assumption) (by assumption)), if_neg (fun h8 => absurd h8.2 (by assumption))]; exact h4) | (rw [if_pos (by omega), hH, if_neg (fun h8 => h8.elim (by assumption) (by assumption)), if_neg (fun h8 => h8.1 (by assumption))]; exact h4)) (by omega) (by omega) (by omega))
          · skip
            have dc14 := pm_neI c14
            refine And.intro (fun c19 => ?_) (fun c19 => ?_)
            · skip
              have dc19 := pm_neI c19
              refine hC.1 4 60 _ _ rfl _ _ _ _ _ ?_
              refine And.intro (fun c20 => ?_) (fun c20 => ?_)
              · skip
                have dc20 : (x5).toInt = (0 : Int32).toInt := congrArg Int32.toInt c20
                refine hC.1 5 76 _ _ rfl _ _ _ _ _ ?_
                refine hC.1 6 78 _ _ rfl _ _ _ _ _ ?_
                refine Exists.intro _ (And.intro md_o ?_)
                refine Exists.intro _ (Exists.intro _ (And.intro (Or.inl (md_a_names D)) (And.intro (by omega) ?_)))
                have hp_90 : ∀ L, rp (v 0) (f 0) (f 1) L → rp (v4 0) (f4 0) (f4 1) L := fun L h => rp_fr h (by omega) hr4_0 hr4_1
                refine And.intro (Exists.intro _ md_o) (Exists.intro _ (Exists.intro _ (Exists.intro _ (Exists.intro _ (And.intro (Y_X11_lays D v4 f4 hv4 hf4 (f4 0 (z6_7).toInt.toNat) (f4 1 (z6_7).toInt.toNat) (by omega) (by omega)) (And.intro rfl (fun r9 A9 h9 => ?_)))))))
                obtain ⟨v22, f22, rfl, rfl, hv22, hf22, hx22, hg22_0, hg22_1, hg22_12, hg22_13, hg22_14, hg22_15, by21⟩ := h9
                have hw22 : f22 2 = f 2 := hx22.trans hw4
                have hr22_0 : f22 0 = f 0 := hg22_0.trans hr4_0
                have hr22_1 : f22 1 = f 1 := hg22_1.trans hr4_1
                have hr22_12 : f22 12 = f 12 := hg22_12.trans hr4_12
                have hr22_13 : f22 13 = f 13 := hg22_13.trans hr4_13
                have hr22_14 : f22 14 = f 14 := hg22_14.trans hr4_14
                have hr22_15 : f22 15 = f 15 := hg22_15.trans hr4_15
                have hu23 := hv22
                unfold md_V at hu23
                clear hu7
                have hb_90 := by21.2
                have sq22 : (v22 0).toInt = (v4 0).toInt ∧ (v22 1).toInt = (v4 1).toInt ∧ (v22 3).toInt = (v4 3).toInt ∧ (v22 4).toInt = (v4 4).toInt ∧ (v22 6).toInt = (v4 6).toInt := by omega
                have sp22 := by21.1.2.2.2.2.2
                have hb9 := by21.2
                clear by21
                intro m24 em_93
                try have e24 : m24.toInt = (z6_7).toInt + (1) := by rw [em_93]; exact pm_addc _ _ (1) rfl (by omega) (by omega)
                exact hC.2 [false, false, false, false, false, false, false, true, true, true] _ _ _ _ _ _ (ih6 m24 v22 f22 hv22 hf22 hw22 hr22_0 hr22_1 hr22_12 hr22_13 hr22_14 hr22_15 (by omega) (by omega) (by intro L h9 hL hH h1 h2 h3; have hl := hL.1; have hL2 := rp_fr hL (n2 := v22 0) (by omega) lr0 lr1; rw [show m24.toInt = z6_7.toInt + 1 by omega, rc_s hL2 h1 h2 h3 (by omega) (by omega)]; have h4 := hb9 _ (j2_7 L h9 hL hH h1 h2 h3); first | (rw [if_neg (by omega)]; exact h4) | (rw [if_pos (by omega), hH, if_pos (Or.inl (by assumption))]; exact h4) | (rw [if_pos (by omega), hH, if_pos (Or.inr (by assumption))]; exact h4) | (rw [if_pos (by omega), hH, if_neg (fun h8 => h8.elim (by assumption) (by assumption)), if_pos ⟨by assumption, by assumption⟩]; exact h4) | (rw [if_pos (by omega), hH, if_neg (fun h8 => h8.elim (by assumption) (by assumption)), if_neg (fun h8 => absurd h8.2 (by assumption))]; exact h4) | (rw [if_pos (by omega), hH, if_neg (fun h8 => h8.elim (by assumption) (by assumption)), if_neg (fun h8 => h8.1 (by assumption))]; exact h4)) (by omega) (by omega) (by omega))
              · skip
                have dc20 := pm_neI c20
                refine And.intro (fun c25 => ?_) (fun c25 => ?_)
                · skip
                  have dc25 := pm_neI c25
                  refine hC.1 5 76 _ _ rfl _ _ _ _ _ ?_
                  refine hC.1 6 78 _ _ rfl _ _ _ _ _ ?_
                  refine Exists.intro _ (And.intro md_o ?_)
                  refine Exists.intro _ (Exists.intro _ (And.intro (Or.inl (md_a_names D)) (And.intro (by omega) ?_)))
                  have hp_90 : ∀ L, rp (v 0) (f 0) (f 1) L → rp (v4 0) (f4 0) (f4 1) L := fun L h => rp_fr h (by omega) hr4_0 hr4_1
                  refine And.intro (Exists.intro _ md_o) (Exists.intro _ (Exists.intro _ (Exists.intro _ (Exists.intro _ (And.intro (Y_X11_lays D v4 f4 hv4 hf4 (f4 0 (z6_7).toInt.toNat) (f4 1 (z6_7).toInt.toNat) (by omega) (by omega)) (And.intro rfl (fun r9 A9 h9 => ?_)))))))
                  obtain ⟨v27, f27, rfl, rfl, hv27, hf27, hx27, hg27_0, hg27_1, hg27_12, hg27_13, hg27_14, hg27_15, by26⟩ := h9
                  have hw27 : f27 2 = f 2 := hx27.trans hw4
                  have hr27_0 : f27 0 = f 0 := hg27_0.trans hr4_0
                  have hr27_1 : f27 1 = f 1 := hg27_1.trans hr4_1
                  have hr27_12 : f27 12 = f 12 := hg27_12.trans hr4_12
                  have hr27_13 : f27 13 = f 13 := hg27_13.trans hr4_13
                  have hr27_14 : f27 14 = f 14 := hg27_14.trans hr4_14
                  have hr27_15 : f27 15 = f 15 := hg27_15.trans hr4_15
                  have hu28 := hv27
                  unfold md_V at hu28
                  clear hu7
                  have hb_90 := by26.2
                  have sq27 : (v27 0).toInt = (v4 0).toInt ∧ (v27 1).toInt = (v4 1).toInt ∧ (v27 3).toInt = (v4 3).toInt ∧ (v27 4).toInt = (v4 4).toInt ∧ (v27 6).toInt = (v4 6).toInt := by omega
                  have sp27 := by26.1.2.2.2.2.2
                  have hb9 := by26.2
                  clear by26
                  intro m29 em_93
                  try have e29 : m29.toInt = (z6_7).toInt + (1) := by rw [em_93]; exact pm_addc _ _ (1) rfl (by omega) (by omega)
                  exact hC.2 [false, false, false, false, false, false, false, true, true, true] _ _ _ _ _ _ (ih6 m29 v27 f27 hv27 hf27 hw27 hr27_0 hr27_1 hr27_12 hr27_13 hr27_14 hr27_15 (by omega) (by omega) (by intro L h9 hL hH h1 h2 h3; have hl := hL.1; have hL2 := rp_fr hL (n2 := v27 0) (by omega) lr0 lr1; rw [show m29.toInt = z6_7.toInt + 1 by omega, rc_s hL2 h1 h2 h3 (by omega) (by omega)]; have h4 := hb9 _ (j2_7 L h9 hL hH h1 h2 h3); first | (rw [if_neg (by omega)]; exact h4) | (rw [if_pos (by omega), hH, if_pos (Or.inl (by assumption))]; exact h4) | (rw [if_pos (by omega), hH, if_pos (Or.inr (by assumption))]; exact h4) | (rw [if_pos (by omega), hH, if_neg (fun h8 => h8.elim (by assumption) (by assumption)), if_pos ⟨by assumption, by assumption⟩]; exact h4) | (rw [if_pos (by omega), hH, if_neg (fun h8 => h8.elim (by assumption) (by assumption)), if_neg (fun h8 => absurd h8.2 (by assumption))]; exact h4) | (rw [if_pos (by omega), hH, if_neg (fun h8 => h8.elim (by assumption) (by assumption)), if_neg (fun h8 => h8.1 (by assumption))]; exact h4)) (by omega) (by omega) (by omega))
                · skip
                  have dc25 : ((f4 0 (z6_7).toInt.toNat)).toInt = (x4 : Int32).toInt := congrArg Int32.toInt c25
                  refine hC.1 6 78 _ _ rfl _ _ _ _ _ ?_
                  refine Exists.intro _ (And.intro md_o ?_)
                  refine Exists.intro _ (Exists.intro _ (And.intro (Or.inl (md_a_names D)) (And.intro (by omega) ?_)))
                  have hp_90 : ∀ L, rp (v 0) (f 0) (f 1) L → rp (v4 0) (f4 0) (f4 1) L := fun L h => rp_fr h (by omega) hr4_0 hr4_1
                  refine And.intro (Exists.intro _ md_o) (Exists.intro _ (Exists.intro _ (Exists.intro _ (Exists.intro _ (And.intro (Y_X11_lays D v4 f4 hv4 hf4 x3 (f4 1 (z6_7).toInt.toNat) (by omega) (by omega)) (And.intro rfl (fun r9 A9 h9 => ?_)))))))
                  obtain ⟨v31, f31, rfl, rfl, hv31, hf31, hx31, hg31_0, hg31_1, hg31_12, hg31_13, hg31_14, hg31_15, by30⟩ := h9
                  have hw31 : f31 2 = f 2 := hx31.trans hw4
                  have hr31_0 : f31 0 = f 0 := hg31_0.trans hr4_0
                  have hr31_1 : f31 1 = f 1 := hg31_1.trans hr4_1
                  have hr31_12 : f31 12 = f 12 := hg31_12.trans hr4_12
                  have hr31_13 : f31 13 = f 13 := hg31_13.trans hr4_13
                  have hr31_14 : f31 14 = f 14 := hg31_14.trans hr4_14
                  have hr31_15 : f31 15 = f 15 := hg31_15.trans hr4_15
                  have hu32 := hv31
                  unfold md_V at hu32
                  clear hu7
                  have hb_90 := by30.2
                  have sq31 : (v31 0).toInt = (v4 0).toInt ∧ (v31 1).toInt = (v4 1).toInt ∧ (v31 3).toInt = (v4 3).toInt ∧ (v31 4).toInt = (v4 4).toInt ∧ (v31 6).toInt = (v4 6).toInt := by omega
                  have sp31 := by30.1.2.2.2.2.2
                  have hb9 := by30.2
                  clear by30
                  intro m33 em_93
                  try have e33 : m33.toInt = (z6_7).toInt + (1) := by rw [em_93]; exact pm_addc _ _ (1) rfl (by omega) (by omega)
                  exact hC.2 [false, false, false, false, false, false, false, true, true, true] _ _ _ _ _ _ (ih6 m33 v31 f31 hv31 hf31 hw31 hr31_0 hr31_1 hr31_12 hr31_13 hr31_14 hr31_15 (by omega) (by omega) (by intro L h9 hL hH h1 h2 h3; have hl := hL.1; have hL2 := rp_fr hL (n2 := v31 0) (by omega) lr0 lr1; rw [show m33.toInt = z6_7.toInt + 1 by omega, rc_s hL2 h1 h2 h3 (by omega) (by omega)]; have h4 := hb9 _ (j2_7 L h9 hL hH h1 h2 h3); first | (rw [if_neg (by omega)]; exact h4) | (rw [if_pos (by omega), hH, if_pos (Or.inl (by assumption))]; exact h4) | (rw [if_pos (by omega), hH, if_pos (Or.inr (by assumption))]; exact h4) | (rw [if_pos (by omega), hH, if_neg (fun h8 => h8.elim (by assumption) (by assumption)), if_pos ⟨by assumption, by assumption⟩]; exact h4) | (rw [if_pos (by omega), hH, if_neg (fun h8 => h8.elim (by assumption) (by assumption)), if_neg (fun h8 => absurd h8.2 (by assumption))]; exact h4) | (rw [if_pos (by omega), hH, if_neg (fun h8 => h8.elim (by assumption) (by assumption)), if_neg (fun h8 => h8.1 (by assumption))]; exact h4)) (by omega) (by omega) (by omega))
            · skip
              have dc19 : ((f4 0 (z6_7).toInt.toNat)).toInt = (x3 : Int32).toInt := congrArg Int32.toInt c19
              refine hC.1 3 55 _ _ rfl _ _ _ _ _ ?_
              refine hC.1 6 78 _ _ rfl _ _ _ _ _ ?_
              refine Exists.intro _ (And.intro md_o ?_)
              refine Exists.intro _ (Exists.intro _ (And.intro (Or.inl (md_a_names D)) (And.intro (by omega) ?_)))
              have hp_90 : ∀ L, rp (v 0) (f 0) (f 1) L → rp (v4 0) (f4 0) (f4 1) L := fun L h => rp_fr h (by omega) hr4_0 hr4_1
              refine And.intro (Exists.intro _ md_o) (Exists.intro _ (Exists.intro _ (Exists.intro _ (Exists.intro _ (And.intro (Y_X11_lays D v4 f4 hv4 hf4 x4 (f4 1 (z6_7).toInt.toNat) (by omega) (by omega)) (And.intro rfl (fun r9 A9 h9 => ?_)))))))
              obtain ⟨v35, f35, rfl, rfl, hv35, hf35, hx35, hg35_0, hg35_1, hg35_12, hg35_13, hg35_14, hg35_15, by34⟩ := h9
              have hw35 : f35 2 = f 2 := hx35.trans hw4
              have hr35_0 : f35 0 = f 0 := hg35_0.trans hr4_0
              have hr35_1 : f35 1 = f 1 := hg35_1.trans hr4_1
              have hr35_12 : f35 12 = f 12 := hg35_12.trans hr4_12
              have hr35_13 : f35 13 = f 13 := hg35_13.trans hr4_13
              have hr35_14 : f35 14 = f 14 := hg35_14.trans hr4_14
              have hr35_15 : f35 15 = f 15 := hg35_15.trans hr4_15
              have hu36 := hv35
              unfold md_V at hu36
              clear hu7
              have hb_90 := by34.2
              have sq35 : (v35 0).toInt = (v4 0).toInt ∧ (v35 1).toInt = (v4 1).toInt ∧ (v35 3).toInt = (v4 3).toInt ∧ (v35 4).toInt = (v4 4).toInt ∧ (v35 6).toInt = (v4 6).toInt := by omega
              have sp35 := by34.1.2.2.2.2.2
              have hb9 := by34.2
              clear by34
              intro m37 em_93
              try have e37 : m37.toInt = (z6_7).toInt + (1) := by rw [em_93]; exact pm_addc _ _ (1) rfl (by omega) (by omega)
              exact hC.2 [false, false, false, false, false, false, false, true, true, true] _ _ _ _ _ _ (ih6 m37 v35 f35 hv35 hf35 hw35 hr35_0 hr35_1 hr35_12 hr35_13 hr35_14 hr35_15 (by omega) (by omega) (by intro L h9 hL hH h1 h2 h3; have hl := hL.1; have hL2 := rp_fr hL (n2 := v35 0) (by omega) lr0 lr1; rw [show m37.toInt = z6_7.toInt + 1 by omega, rc_s hL2 h1 h2 h3 (by omega) (by omega)]; have h4 := hb9 _ (j2_7 L h9 hL hH h1 h2 h3); first | (rw [if_neg (by omega)]; exact h4) | (rw [if_pos (by omega), hH, if_pos (Or.inl (by assumption))]; exact h4) | (rw [if_pos (by omega), hH, if_pos (Or.inr (by assumption))]; exact h4) | (rw [if_pos (by omega), hH, if_neg (fun h8 => h8.elim (by assumption) (by assumption)), if_pos ⟨by assumption, by assumption⟩]; exact h4) | (rw [if_pos (by omega), hH, if_neg (fun h8 => h8.elim (by assumption) (by assumption)), if_neg (fun h8 => absurd h8.2 (by assumption))]; exact h4) | (rw [if_pos (by omega), hH, if_neg (fun h8 => h8.elim (by assumption) (by assumption)), if_neg (fun h8 => h8.1 (by assumption))]; exact h4)) (by omega) (by omega) (by omega))
        · skip
          refine And.intro (fun c9 => absurd c9 (by decide)) (fun _ => ?_)
          refine hC.1 6 78 _ _ rfl _ _ _ _ _ ?_
          refine Exists.intro _ (And.intro md_o ?_)
          refine Exists.intro _ (Exists.intro _ (And.intro (Or.inl (md_a_names D)) (And.intro (by omega) ?_)))
          have hp_90 : ∀ L, rp (v 0) (f 0) (f 1) L → rp (v4 0) (f4 0) (f4 1) L := fun L h => rp_fr h (by omega) hr4_0 hr4_1
          refine And.intro (Exists.intro _ md_o) (Exists.intro _ (Exists.intro _ (Exists.intro _ (Exists.intro _ (And.intro (Y_X11_lays D v4 f4 hv4 hf4 (f4 0 (z6_7).toInt.toNat) (f4 1 (z6_7).toInt.toNat) (by omega) (by omega)) (And.intro rfl (fun r9 A9 h9 => ?_)))))))
          obtain ⟨v39, f39, rfl, rfl, hv39, hf39, hx39, hg39_0, hg39_1, hg39_12, hg39_13, hg39_14, hg39_15, by38⟩ := h9
          have hw39 : f39 2 = f 2 := hx39.trans hw4
          have hr39_0 : f39 0 = f 0 := hg39_0.trans hr4_0
          have hr39_1 : f39 1 = f 1 := hg39_1.trans hr4_1
          have hr39_12 : f39 12 = f 12 := hg39_12.trans hr4_12
          have hr39_13 : f39 13 = f 13 := hg39_13.trans hr4_13
          have hr39_14 : f39 14 = f 14 := hg39_14.trans hr4_14
          have hr39_15 : f39 15 = f 15 := hg39_15.trans hr4_15
          have hu40 := hv39
          unfold md_V at hu40
          clear hu7
          have hb_90 := by38.2
          have sq39 : (v39 0).toInt = (v4 0).toInt ∧ (v39 1).toInt = (v4 1).toInt ∧ (v39 3).toInt = (v4 3).toInt ∧ (v39 4).toInt = (v4 4).toInt ∧ (v39 6).toInt = (v4 6).toInt := by omega
          have sp39 := by38.1.2.2.2.2.2
          have hb9 := by38.2
          clear by38
          have k1 : (1 : Int32).toInt = 1 := rfl
          intro m41 em_93
          try have e41 : m41.toInt = (z6_7).toInt + (1) := by rw [em_93]; exact pm_addc _ _ (1) rfl (by omega) (by omega)
          exact hC.2 [false, false, false, false, false, false, false, true, true, true] _ _ _ _ _ _ (ih6 m41 v39 f39 hv39 hf39 hw39 hr39_0 hr39_1 hr39_12 hr39_13 hr39_14 hr39_15 (by omega) (by omega) (by intro L h9 hL hH h1 h2 h3; have hl := hL.1; have hL2 := rp_fr hL (n2 := v39 0) (by omega) lr0 lr1; rw [show m41.toInt = z6_7.toInt + 1 by omega, rc_s hL2 h1 h2 h3 (by omega) (by omega)]; have h4 := hb9 _ (j2_7 L h9 hL hH h1 h2 h3); first | (rw [if_neg (by omega)]; exact h4) | (rw [if_pos (by omega), hH, if_pos (Or.inl (by assumption))]; exact h4) | (rw [if_pos (by omega), hH, if_pos (Or.inr (by assumption))]; exact h4) | (rw [if_pos (by omega), hH, if_neg (fun h8 => h8.elim (by assumption) (by assumption)), if_pos ⟨by assumption, by assumption⟩]; exact h4) | (rw [if_pos (by omega), hH, if_neg (fun h8 => h8.elim (by assumption) (by assumption)), if_neg (fun h8 => absurd h8.2 (by assumption))]; exact h4) | (rw [if_pos (by omega), hH, if_neg (fun h8 => h8.elim (by assumption) (by assumption)), if_neg (fun h8 => h8.1 (by assumption))]; exact h4)) (by omega) (by omega) (by omega))
  exact lp5 (200 - (0 : Int32).toInt).toNat.succ (0 : Int32) v2 f2 hv2 hf2 hw2 hr2_0 hr2_1 hr2_12 hr2_13 hr2_14 hr2_15 (by omega) (by omega) (by intro L h9 hL hH h1 h2 h3; rw [rc_0 h1 h2]; exact rp_0 (by omega)) (by omega) (by omega) (by omega)

set_option maxRecDepth 100000 in
set_option maxHeartbeats 2000000 in
theorem Y_X11_put (D : md_D h q) (v : Nat → Int32) (f : Nat → Nat → Int32) (hv : md_V v) (hf : md_F f) (x1 : Int32) (x2 : Int32) (p0 : (v 4).toInt < 100000) : pm_Mt l g 167 5 0 0 [.ref h, .int x1, .int x2] (md A0 g h q v f) (md_Qw A0 g h q f (fun r v2 f2 => ((v2 6).toInt = (v 6).toInt ∧ (v2 4).toInt ≤ (v 4).toInt + 1 ∧ (v 4).toInt ≤ (v2 4).toInt) ∧ ((∀ L, rp (v 0) (f 0) (f 1) L → rp (v2 0) (f2 0) (f2 1) ((ed_paint L x1 x1 x2).getD L) ∧ (v2 4).toInt = (v 4).toInt + edn (ed_paint L x1 x1 x2) ∧ (v2 3).toInt = (v 3).toInt + edn (ed_paint L x1 x1 x2) * (0)) ∧ HMe (v 4).toInt f v2 f2 r.toInt))) := by
  refine mt_X11_put rfl (fun J hC => ?_)
  have hv9 := hv
  unfold md_V at hv9
  have rg_x1 := pm_rng x1
  have rg_x2 := pm_rng x2
  refine hC.1 0 0 _ _ rfl _ _ _ _ _ ?_
  have hp_2 : ∀ L, rp (v 0) (f 0) (f 1) L → rp (v 0) (f 0) (f 1) L := fun L h => rp_fr h (by omega) rfl rfl
  refine And.intro (Exists.intro _ md_o) (Exists.intro _ (Exists.intro _ (Exists.intro _ (Exists.intro _ (And.intro (c_X11_isPlace D v f hv hf x1 ) (And.intro rfl (fun r9 A9 h9 => ?_)))))))
  rcases h9 with ⟨y1, rfl, rfl, ⟨rfl, by1⟩ | ⟨rfl, by1⟩⟩
  · skip
    have k1 : (1 : Int32).toInt = 1 := rfl
    refine And.intro (fun c9 => absurd c9 (by decide)) (fun _ => ?_)
    refine Exists.intro _ (Exists.intro _ (Exists.intro _ (Exists.intro _ (And.intro (c_X11_isColour (md A0 g h q v f) x2 ) (And.intro rfl (fun r9 A9 h9 => ?_))))))
    rcases h9 with ⟨y2, rfl, rfl, ⟨rfl, by2⟩ | ⟨rfl, by2⟩⟩
    · skip
      refine And.intro (fun c9 => absurd c9 (by decide)) (fun _ => ?_)
      have km1 : (-1 : Int32).toInt = -1 := rfl
      have k0 : (0 : Int32).toInt = 0 := rfl
      have hp_21 : ∀ L, rp (v 0) (f 0) (f 1) L → rp (v 0) (f 0) (f 1) L := fun L h => rp_fr h (by omega) rfl rfl
      refine And.intro (Exists.intro _ md_o) (Exists.intro _ (Exists.intro _ (Exists.intro _ (Exists.intro _ (And.intro (Y_X11_recolours D v f hv hf x1 x1 (-1 : Int32) x2 (0 : Int32) (by omega) (by omega) (by omega)) (And.intro rfl (fun r9 A9 h9 => ?_)))))))
      obtain ⟨y3, v4, f4, rfl, rfl, hv4, hf4, hx4, by3⟩ := h9
      have hw4 : f4 2 = f 2 := hx4.trans rfl
      have hu5 := hv4
      unfold md_V at hu5
      have hb_21 := by3.2.1
      have sq4 : (v4 3).toInt = (v 3).toInt ∧ (v4 6).toInt = (v 6).toInt := by omega
      have sp4 := by3.1.2.2
      have hm_9 := HM_fr by3.2.2 rfl rfl rfl rfl
      clear by3
      refine hC.1 2 28 _ _ rfl _ _ _ _ _ ?_
      exact ⟨rfl, fun e9 => absurd e9 (by decide), rfl, y3, v4, f4, rfl, rfl, hv4, hf4, hw4, by first | omega | (dsimp only; omega) | trivial, by refine ⟨?_, ?_⟩; (first | (intro L hL; have hl := hL.1; rw [ed_paint, if_pos (by omega)]; have t9 := hb_21 L (fun _ => x2) (hp_21 L hL) (fun c9 => (if_pos (Or.inl rfl)).symm) (by omega) (by omega) (by omega); exact ⟨t9, by show _ = _ + (1 : Int); omega, by show _ = _ + (1 : Int) * _; omega⟩) | (intro L hL; have hl := hL.1; rw [ed_paint, if_neg (by omega)]; exact ⟨hL, by show _ = _ + (0 : Int); omega, by show _ = _ + (0 : Int) * _; omega⟩)); (first | (exact Or.inr ⟨by omega, hm_9⟩) | (exact Or.inl ⟨by omega, hr_missing, hr_missing, hr_missing, hr_missing⟩))⟩
    · skip
      have k0 : (0 : Int32).toInt = 0 := rfl
      refine And.intro (fun _ => ?_) (fun c9 => absurd c9 (by decide))
      refine hC.1 1 27 _ _ rfl _ _ _ _ _ ?_
      have km1 : (-1 : Int32).toInt = -1 := rfl
      refine hC.1 2 28 _ _ rfl _ _ _ _ _ ?_
      exact ⟨rfl, fun e9 => absurd e9 (by decide), rfl, (-1 : Int32), v, f, rfl, rfl, hv, hf, rfl, by first | omega | (dsimp only; omega) | trivial, by refine ⟨?_, ?_⟩; (first | (intro L hL; have hl := hL.1; rw [ed_paint, if_pos (by omega)]; have t9 := hb_21 L (fun _ => x2) (hp_21 L hL) (fun c9 => (if_pos (Or.inl rfl)).symm) (by omega) (by omega) (by omega); exact ⟨t9, by show _ = _ + (1 : Int); omega, by show _ = _ + (1 : Int) * _; omega⟩) | (intro L hL; have hl := hL.1; rw [ed_paint, if_neg (by omega)]; exact ⟨hL, by show _ = _ + (0 : Int); omega, by show _ = _ + (0 : Int) * _; omega⟩)); (first | (exact Or.inr ⟨by omega, hm_9⟩) | (exact Or.inl ⟨by omega, rfl, rfl, rfl, rfl⟩))⟩
  · skip
    have k0 : (0 : Int32).toInt = 0 := rfl
    refine And.intro (fun _ => ?_) (fun c9 => absurd c9 (by decide))
    refine hC.1 1 27 _ _ rfl _ _ _ _ _ ?_
    have km1 : (-1 : Int32).toInt = -1 := rfl
    refine hC.1 2 28 _ _ rfl _ _ _ _ _ ?_
    exact ⟨rfl, fun e9 => absurd e9 (by decide), rfl, (-1 : Int32), v, f, rfl, rfl, hv, hf, rfl, by first | omega | (dsimp only; omega) | trivial, by refine ⟨?_, ?_⟩; (first | (intro L hL; have hl := hL.1; rw [ed_paint, if_pos (by omega)]; have t9 := hb_21 L (fun _ => x2) (hp_21 L hL) (fun c9 => (if_pos (Or.inl rfl)).symm) (by omega) (by omega) (by omega); exact ⟨t9, by show _ = _ + (1 : Int); omega, by show _ = _ + (1 : Int) * _; omega⟩) | (intro L hL; have hl := hL.1; rw [ed_paint, if_neg (by omega)]; exact ⟨hL, by show _ = _ + (0 : Int); omega, by show _ = _ + (0 : Int) * _; omega⟩)); (first | (exact Or.inr ⟨by omega, hm_9⟩) | (exact Or.inl ⟨by omega, rfl, rfl, rfl, rfl⟩))⟩

set_option maxRecDepth 100000 in
set_option maxHeartbeats 2000000 in
theorem Y_X11_paint (D : md_D h q) (v : Nat → Int32) (f : Nat → Nat → Int32) (hv : md_V v) (hf : md_F f) (x1 : Int32) (x2 : Int32) (x3 : Int32) (p0 : (v 4).toInt < 100000) : pm_Mt l g 179 5 0 0 [.ref h, .int x1, .int x2, .int x3] (md A0 g h q v f) (md_Qw A0 g h q f (fun r v2 f2 => ((v2 6).toInt = (v 6).toInt ∧ (v2 4).toInt ≤ (v 4).toInt + 1 ∧ (v 4).toInt ≤ (v2 4).toInt) ∧ ((∀ L, rp (v 0) (f 0) (f 1) L → rp (v2 0) (f2 0) (f2 1) ((ed_paint L x1 x2 x3).getD L) ∧ (v2 4).toInt = (v 4).toInt + edn (ed_paint L x1 x2 x3) ∧ (v2 3).toInt = (v 3).toInt + edn (ed_paint L x1 x2 x3) * (0)) ∧ HMe (v 4).toInt f v2 f2 r.toInt))) := by
  refine mt_X11_paint rfl (fun J hC => ?_)
  have hv9 := hv
  unfold md_V at hv9
  have rg_x1 := pm_rng x1
  have rg_x2 := pm_rng x2
  have rg_x3 := pm_rng x3
  refine hC.1 0 0 _ _ rfl _ _ _ _ _ ?_
  have hp_3 : ∀ L, rp (v 0) (f 0) (f 1) L → rp (v 0) (f 0) (f 1) L := fun L h => rp_fr h (by omega) rfl rfl
  refine And.intro (Exists.intro _ md_o) (Exists.intro _ (Exists.intro _ (Exists.intro _ (Exists.intro _ (And.intro (c_X11_isSpan D v f hv hf x1 x2 ) (And.intro rfl (fun r9 A9 h9 => ?_)))))))
  rcases h9 with ⟨y1, rfl, rfl, ⟨rfl, by1⟩ | ⟨rfl, by1⟩⟩
  · skip
    have k1 : (1 : Int32).toInt = 1 := rfl
    refine And.intro (fun c9 => absurd c9 (by decide)) (fun _ => ?_)
    refine Exists.intro _ (Exists.intro _ (Exists.intro _ (Exists.intro _ (And.intro (c_X11_isColour (md A0 g h q v f) x3 ) (And.intro rfl (fun r9 A9 h9 => ?_))))))
    rcases h9 with ⟨y2, rfl, rfl, ⟨rfl, by2⟩ | ⟨rfl, by2⟩⟩
    · skip
      refine And.intro (fun c9 => absurd c9 (by decide)) (fun _ => ?_)
      have km1 : (-1 : Int32).toInt = -1 := rfl
      have k0 : (0 : Int32).toInt = 0 := rfl
      have hp_22 : ∀ L, rp (v 0) (f 0) (f 1) L → rp (v 0) (f 0) (f 1) L := fun L h => rp_fr h (by omega) rfl rfl
      refine And.intro (Exists.intro _ md_o) (Exists.intro _ (Exists.intro _ (Exists.intro _ (Exists.intro _ (And.intro (Y_X11_recolours D v f hv hf x1 x2 (-1 : Int32) x3 (0 : Int32) (by omega) (by omega) (by omega)) (And.intro rfl (fun r9 A9 h9 => ?_)))))))
      obtain ⟨y3, v4, f4, rfl, rfl, hv4, hf4, hx4, by3⟩ := h9
      have hw4 : f4 2 = f 2 := hx4.trans rfl
      have hu5 := hv4
      unfold md_V at hu5
      have hb_22 := by3.2.1
      have sq4 : (v4 3).toInt = (v 3).toInt ∧ (v4 6).toInt = (v 6).toInt := by omega
      have sp4 := by3.1.2.2
      have hm_9 := HM_fr by3.2.2 rfl rfl rfl rfl
      clear by3
      refine hC.1 2 29 _ _ rfl _ _ _ _ _ ?_
      exact ⟨rfl, fun e9 => absurd e9 (by decide), rfl, y3, v4, f4, rfl, rfl, hv4, hf4, hw4, by first | omega | (dsimp only; omega) | trivial, by refine ⟨?_, ?_⟩; (first | (intro L hL; have hl := hL.1; rw [ed_paint, if_pos (by omega)]; have t9 := hb_22 L (fun _ => x3) (hp_22 L hL) (fun c9 => (if_pos (Or.inl rfl)).symm) (by omega) (by omega) (by omega); exact ⟨t9, by show _ = _ + (1 : Int); omega, by show _ = _ + (1 : Int) * _; omega⟩) | (intro L hL; have hl := hL.1; rw [ed_paint, if_neg (by omega)]; exact ⟨hL, by show _ = _ + (0 : Int); omega, by show _ = _ + (0 : Int) * _; omega⟩)); (first | (exact Or.inr ⟨by omega, hm_9⟩) | (exact Or.inl ⟨by omega, hr_missing, hr_missing, hr_missing, hr_missing⟩))⟩
    · skip
      have k0 : (0 : Int32).toInt = 0 := rfl
      refine And.intro (fun _ => ?_) (fun c9 => absurd c9 (by decide))
      refine hC.1 1 28 _ _ rfl _ _ _ _ _ ?_
      have km1 : (-1 : Int32).toInt = -1 := rfl
      refine hC.1 2 29 _ _ rfl _ _ _ _ _ ?_
      exact ⟨rfl, fun e9 => absurd e9 (by decide), rfl, (-1 : Int32), v, f, rfl, rfl, hv, hf, rfl, by first | omega | (dsimp only; omega) | trivial, by refine ⟨?_, ?_⟩; (first | (intro L hL; have hl := hL.1; rw [ed_paint, if_pos (by omega)]; have t9 := hb_22 L (fun _ => x3) (hp_22 L hL) (fun c9 => (if_pos (Or.inl rfl)).symm) (by omega) (by omega) (by omega); exact ⟨t9, by show _ = _ + (1 : Int); omega, by show _ = _ + (1 : Int) * _; omega⟩) | (intro L hL; have hl := hL.1; rw [ed_paint, if_neg (by omega)]; exact ⟨hL, by show _ = _ + (0 : Int); omega, by show _ = _ + (0 : Int) * _; omega⟩)); (first | (exact Or.inr ⟨by omega, hm_9⟩) | (exact Or.inl ⟨by omega, rfl, rfl, rfl, rfl⟩))⟩
  · skip
    have k0 : (0 : Int32).toInt = 0 := rfl
    refine And.intro (fun _ => ?_) (fun c9 => absurd c9 (by decide))
    refine hC.1 1 28 _ _ rfl _ _ _ _ _ ?_
    have km1 : (-1 : Int32).toInt = -1 := rfl
    refine hC.1 2 29 _ _ rfl _ _ _ _ _ ?_
    exact ⟨rfl, fun e9 => absurd e9 (by decide), rfl, (-1 : Int32), v, f, rfl, rfl, hv, hf, rfl, by first | omega | (dsimp only; omega) | trivial, by refine ⟨?_, ?_⟩; (first | (intro L hL; have hl := hL.1; rw [ed_paint, if_pos (by omega)]; have t9 := hb_22 L (fun _ => x3) (hp_22 L hL) (fun c9 => (if_pos (Or.inl rfl)).symm) (by omega) (by omega) (by omega); exact ⟨t9, by show _ = _ + (1 : Int); omega, by show _ = _ + (1 : Int) * _; omega⟩) | (intro L hL; have hl := hL.1; rw [ed_paint, if_neg (by omega)]; exact ⟨hL, by show _ = _ + (0 : Int); omega, by show _ = _ + (0 : Int) * _; omega⟩)); (first | (exact Or.inr ⟨by omega, hm_9⟩) | (exact Or.inl ⟨by omega, rfl, rfl, rfl, rfl⟩))⟩

set_option maxRecDepth 100000 in
set_option maxHeartbeats 2000000 in
theorem Y_X11_merge (D : md_D h q) (v : Nat → Int32) (f : Nat → Nat → Int32) (hv : md_V v) (hf : md_F f) (x1 : Int32) (x2 : Int32) (p0 : (v 4).toInt < 100000) : pm_Mt l g 181 5 0 0 [.ref h, .int x1, .int x2] (md A0 g h q v f) (md_Qw A0 g h q f (fun r v2 f2 => ((v2 6).toInt = (v 6).toInt ∧ (v2 4).toInt ≤ (v 4).toInt + 1 ∧ (v 4).toInt ≤ (v2 4).toInt) ∧ ((∀ L, rp (v 0) (f 0) (f 1) L → rp (v2 0) (f2 0) (f2 1) ((ed_merge L x1 x2).getD L) ∧ (v2 4).toInt = (v 4).toInt + edn (ed_merge L x1 x2) ∧ (v2 3).toInt = (v 3).toInt + edn (ed_merge L x1 x2) * (0)) ∧ HMe (v 4).toInt f v2 f2 r.toInt))) := by
  refine mt_X11_merge rfl (fun J hC => ?_)
  have hv9 := hv
  unfold md_V at hv9
  have rg_x1 := pm_rng x1
  have rg_x2 := pm_rng x2
  refine hC.1 0 0 _ _ rfl _ _ _ _ _ ?_
  refine Exists.intro _ (Exists.intro _ (Exists.intro _ (Exists.intro _ (And.intro (c_X11_isColour (md A0 g h q v f) x1 ) (And.intro rfl (fun r9 A9 h9 => ?_))))))
  rcases h9 with ⟨y1, rfl, rfl, ⟨rfl, by1⟩ | ⟨rfl, by1⟩⟩
  · skip
    have k1 : (1 : Int32).toInt = 1 := rfl
    refine And.intro (fun c9 => absurd c9 (by decide)) (fun _ => ?_)
    refine Exists.intro _ (Exists.intro _ (Exists.intro _ (Exists.intro _ (And.intro (c_X11_isColour (md A0 g h q v f) x2 ) (And.intro rfl (fun r9 A9 h9 => ?_))))))
    rcases h9 with ⟨y2, rfl, rfl, ⟨rfl, by2⟩ | ⟨rfl, by2⟩⟩
    · skip
      refine And.intro (fun c9 => absurd c9 (by decide)) (fun _ => ?_)
      refine And.intro (fun c3 => ?_) (fun c3 => ?_)
      · skip
        have dc3 : (x1).toInt = (x2 : Int32).toInt := congrArg Int32.toInt c3
        refine hC.1 1 36 _ _ rfl _ _ _ _ _ ?_
        have km1 : (-1 : Int32).toInt = -1 := rfl
        refine hC.1 2 37 _ _ rfl _ _ _ _ _ ?_
        exact ⟨rfl, fun e9 => absurd e9 (by decide), rfl, (-1 : Int32), v, f, rfl, rfl, hv, hf, rfl, by first | omega | (dsimp only; omega) | trivial, by refine ⟨?_, ?_⟩; (first | (intro L hL; have hl := hL.1; rw [ed_merge, if_pos (by omega)]; have nm9 : ¬ x1 = -1 := fun e9 => (by have e8 := congrArg Int32.toInt e9; have e7 : (-1 : Int32).toInt = -1 := rfl; omega); have t9 := hb_30 L (fun c => if c = x1 then x2 else c) (hp_30 L hL) (fun c9 => (by by_cases q9 : c9 = x1; (simp [q9]); (simp [q9, nm9, show ¬ (1 : Int32) = 0 by decide]))) (by omega) (by omega) (by omega); rw [show (0 : Int32).toInt = 0 from rfl, ← hmm9, show mm9.toInt = (L.length : Int) - 1 by (rw [hmm9]; omega), rc_all] at t9; exact ⟨t9, by show _ = _ + (1 : Int); omega, by show _ = _ + (1 : Int) * _; omega⟩) | (intro L hL; have hl := hL.1; rw [ed_merge, if_neg (by omega)]; exact ⟨hL, by show _ = _ + (0 : Int); omega, by show _ = _ + (0 : Int) * _; omega⟩)); (first | (exact Or.inr ⟨by omega, hm_9⟩) | (exact Or.inl ⟨by omega, rfl, rfl, rfl, rfl⟩))⟩
      · skip
        have dc3 := pm_neI c3
        have k0 : (0 : Int32).toInt = 0 := rfl
        refine Exists.intro _ (And.intro md_o ?_)
        intro m4 em_26
        try have e4 : m4.toInt = ((v 0)).toInt - (1) := by rw [em_26]; exact pm_subc _ _ (1) rfl (by omega) (by omega)
        obtain ⟨mm9, hmm9⟩ : ∃ z9, z9 = m4 := ⟨_, rfl⟩
        have hp_30 : ∀ L, rp (v 0) (f 0) (f 1) L → rp (v 0) (f 0) (f 1) L := fun L h => rp_fr h (by omega) rfl rfl
        refine And.intro (Exists.intro _ md_o) (Exists.intro _ (Exists.intro _ (Exists.intro _ (Exists.intro _ (And.intro (Y_X11_recolours D v f hv hf (0 : Int32) m4 x1 x2 (0 : Int32) (by omega) (by omega) (by omega)) (And.intro rfl (fun r9 A9 h9 => ?_)))))))
        obtain ⟨y5, v6, f6, rfl, rfl, hv6, hf6, hx6, by5⟩ := h9
        have hw6 : f6 2 = f 2 := hx6.trans rfl
        have hu7 := hv6
        unfold md_V at hu7
        have hb_30 := by5.2.1
        have sq6 : (v6 3).toInt = (v 3).toInt ∧ (v6 6).toInt = (v 6).toInt := by omega
        have sp6 := by5.1.2.2
        have hm_9 := HM_fr by5.2.2 rfl rfl rfl rfl
        clear by5
        refine hC.1 2 37 _ _ rfl _ _ _ _ _ ?_
        exact ⟨rfl, fun e9 => absurd e9 (by decide), rfl, y5, v6, f6, rfl, rfl, hv6, hf6, hw6, by first | omega | (dsimp only; omega) | trivial, by refine ⟨?_, ?_⟩; (first | (intro L hL; have hl := hL.1; rw [ed_merge, if_pos (by omega)]; have nm9 : ¬ x1 = -1 := fun e9 => (by have e8 := congrArg Int32.toInt e9; have e7 : (-1 : Int32).toInt = -1 := rfl; omega); have t9 := hb_30 L (fun c => if c = x1 then x2 else c) (hp_30 L hL) (fun c9 => (by by_cases q9 : c9 = x1; (simp [q9]); (simp [q9, nm9, show ¬ (1 : Int32) = 0 by decide]))) (by omega) (by omega) (by omega); rw [show (0 : Int32).toInt = 0 from rfl, ← hmm9, show mm9.toInt = (L.length : Int) - 1 by (rw [hmm9]; omega), rc_all] at t9; exact ⟨t9, by show _ = _ + (1 : Int); omega, by show _ = _ + (1 : Int) * _; omega⟩) | (intro L hL; have hl := hL.1; rw [ed_merge, if_neg (by omega)]; exact ⟨hL, by show _ = _ + (0 : Int); omega, by show _ = _ + (0 : Int) * _; omega⟩)); (first | (exact Or.inr ⟨by omega, hm_9⟩) | (exact Or.inl ⟨by omega, hr_missing, hr_missing, hr_missing, hr_missing⟩))⟩
    · skip
      have k0 : (0 : Int32).toInt = 0 := rfl
      refine And.intro (fun _ => ?_) (fun c9 => absurd c9 (by decide))
      refine hC.1 1 36 _ _ rfl _ _ _ _ _ ?_
      have km1 : (-1 : Int32).toInt = -1 := rfl
      refine hC.1 2 37 _ _ rfl _ _ _ _ _ ?_
      exact ⟨rfl, fun e9 => absurd e9 (by decide), rfl, (-1 : Int32), v, f, rfl, rfl, hv, hf, rfl, by first | omega | (dsimp only; omega) | trivial, by refine ⟨?_, ?_⟩; (first | (intro L hL; have hl := hL.1; rw [ed_merge, if_pos (by omega)]; have nm9 : ¬ x1 = -1 := fun e9 => (by have e8 := congrArg Int32.toInt e9; have e7 : (-1 : Int32).toInt = -1 := rfl; omega); have t9 := hb_30 L (fun c => if c = x1 then x2 else c) (hp_30 L hL) (fun c9 => (by by_cases q9 : c9 = x1; (simp [q9]); (simp [q9, nm9, show ¬ (1 : Int32) = 0 by decide]))) (by omega) (by omega) (by omega); rw [show (0 : Int32).toInt = 0 from rfl, ← hmm9, show mm9.toInt = (L.length : Int) - 1 by (rw [hmm9]; omega), rc_all] at t9; exact ⟨t9, by show _ = _ + (1 : Int); omega, by show _ = _ + (1 : Int) * _; omega⟩) | (intro L hL; have hl := hL.1; rw [ed_merge, if_neg (by omega)]; exact ⟨hL, by show _ = _ + (0 : Int); omega, by show _ = _ + (0 : Int) * _; omega⟩)); (first | (exact Or.inr ⟨by omega, hm_9⟩) | (exact Or.inl ⟨by omega, rfl, rfl, rfl, rfl⟩))⟩
  · skip
    have k0 : (0 : Int32).toInt = 0 := rfl
    refine And.intro (fun _ => ?_) (fun c9 => absurd c9 (by decide))
    refine hC.1 1 36 _ _ rfl _ _ _ _ _ ?_
    have km1 : (-1 : Int32).toInt = -1 := rfl
    refine hC.1 2 37 _ _ rfl _ _ _ _ _ ?_
    exact ⟨rfl, fun e9 => absurd e9 (by decide), rfl, (-1 : Int32), v, f, rfl, rfl, hv, hf, rfl, by first | omega | (dsimp only; omega) | trivial, by refine ⟨?_, ?_⟩; (first | (intro L hL; have hl := hL.1; rw [ed_merge, if_pos (by omega)]; have nm9 : ¬ x1 = -1 := fun e9 => (by have e8 := congrArg Int32.toInt e9; have e7 : (-1 : Int32).toInt = -1 := rfl; omega); have t9 := hb_30 L (fun c => if c = x1 then x2 else c) (hp_30 L hL) (fun c9 => (by by_cases q9 : c9 = x1; (simp [q9]); (simp [q9, nm9, show ¬ (1 : Int32) = 0 by decide]))) (by omega) (by omega) (by omega); rw [show (0 : Int32).toInt = 0 from rfl, ← hmm9, show mm9.toInt = (L.length : Int) - 1 by (rw [hmm9]; omega), rc_all] at t9; exact ⟨t9, by show _ = _ + (1 : Int); omega, by show _ = _ + (1 : Int) * _; omega⟩) | (intro L hL; have hl := hL.1; rw [ed_merge, if_neg (by omega)]; exact ⟨hL, by show _ = _ + (0 : Int); omega, by show _ = _ + (0 : Int) * _; omega⟩)); (first | (exact Or.inr ⟨by omega, hm_9⟩) | (exact Or.inl ⟨by omega, rfl, rfl, rfl, rfl⟩))⟩

end
end
section
section
variable {l : Launch} {g : pm_G} {A0 : pm_H} {h : Nat} {q : Nat → Nat}
set_option maxRecDepth 100000 in
set_option maxHeartbeats 2000000 in
theorem Y_X11_exchange (D : md_D h q) (v : Nat → Int32) (f : Nat → Nat → Int32) (hv : md_V v) (hf : md_F f) (x1 : Int32) (x2 : Int32) (p0 : (v 4).toInt < 100000) : pm_Mt l g 182 5 0 0 [.ref h, .int x1, .int x2] (md A0 g h q v f) (md_Qw A0 g h q f (fun r v2 f2 => ((v2 6).toInt = (v 6).toInt ∧ (v2 4).toInt ≤ (v 4).toInt + 1 ∧ (v 4).toInt ≤ (v2 4).toInt) ∧ ((∀ L, rp (v 0) (f 0) (f 1) L → rp (v2 0) (f2 0) (f2 1) ((ed_exch L x1 x2).getD L) ∧ (v2 4).toInt = (v 4).toInt + edn (ed_exch L x1 x2) ∧ (v2 3).toInt = (v 3).toInt + edn (ed_exch L x1 x2) * (0)) ∧ HMe (v 4).toInt f v2 f2 r.toInt))) := by
  refine mt_X11_exchange rfl (fun J hC => ?_)
  have hv9 := hv
  unfold md_V at hv9
  have rg_x1 := pm_rng x1
  have rg_x2 := pm_rng x2
  refine hC.1 0 0 _ _ rfl _ _ _ _ _ ?_
  refine Exists.intro _ (Exists.intro _ (Exists.intro _ (Exists.intro _ (And.intro (c_X11_isColour (md A0 g h q v f) x1 ) (And.intro rfl (fun r9 A9 h9 => ?_))))))
  rcases h9 with ⟨y1, rfl, rfl, ⟨rfl, by1⟩ | ⟨rfl, by1⟩⟩
  · skip
    have k1 : (1 : Int32).toInt = 1 := rfl
    refine And.intro (fun c9 => absurd c9 (by decide)) (fun _ => ?_)
    refine Exists.intro _ (Exists.intro _ (Exists.intro _ (Exists.intro _ (And.intro (c_X11_isColour (md A0 g h q v f) x2 ) (And.intro rfl (fun r9 A9 h9 => ?_))))))
    rcases h9 with ⟨y2, rfl, rfl, ⟨rfl, by2⟩ | ⟨rfl, by2⟩⟩
    · skip
      refine And.intro (fun c9 => absurd c9 (by decide)) (fun _ => ?_)
      refine And.intro (fun c3 => ?_) (fun c3 => ?_)
      · skip
        have dc3 : (x1).toInt = (x2 : Int32).toInt := congrArg Int32.toInt c3
        refine hC.1 1 36 _ _ rfl _ _ _ _ _ ?_
        have km1 : (-1 : Int32).toInt = -1 := rfl
        refine hC.1 2 37 _ _ rfl _ _ _ _ _ ?_
        exact ⟨rfl, fun e9 => absurd e9 (by decide), rfl, (-1 : Int32), v, f, rfl, rfl, hv, hf, rfl, by first | omega | (dsimp only; omega) | trivial, by refine ⟨?_, ?_⟩; (first | (intro L hL; have hl := hL.1; rw [ed_exch, if_pos (by omega)]; have nm9 : ¬ x1 = -1 := fun e9 => (by have e8 := congrArg Int32.toInt e9; have e7 : (-1 : Int32).toInt = -1 := rfl; omega); have t9 := hb_30 L (fun c => if c = x1 then x2 else if c = x2 then x1 else c) (hp_30 L hL) (fun c9 => (by by_cases q9 : c9 = x1; (simp [q9]); (simp [q9, nm9, show ¬ (1 : Int32) = 0 by decide]))) (by omega) (by omega) (by omega); rw [show (0 : Int32).toInt = 0 from rfl, ← hmm9, show mm9.toInt = (L.length : Int) - 1 by (rw [hmm9]; omega), rc_all] at t9; exact ⟨t9, by show _ = _ + (1 : Int); omega, by show _ = _ + (1 : Int) * _; omega⟩) | (intro L hL; have hl := hL.1; rw [ed_exch, if_neg (by omega)]; exact ⟨hL, by show _ = _ + (0 : Int); omega, by show _ = _ + (0 : Int) * _; omega⟩)); (first | (exact Or.inr ⟨by omega, hm_9⟩) | (exact Or.inl ⟨by omega, rfl, rfl, rfl, rfl⟩))⟩
      · skip
        have dc3 := pm_neI c3
        have k0 : (0 : Int32).toInt = 0 := rfl
        refine Exists.intro _ (And.intro md_o ?_)
        intro m4 em_26
        try have e4 : m4.toInt = ((v 0)).toInt - (1) := by rw [em_26]; exact pm_subc _ _ (1) rfl (by omega) (by omega)
        obtain ⟨mm9, hmm9⟩ : ∃ z9, z9 = m4 := ⟨_, rfl⟩
        have hp_30 : ∀ L, rp (v 0) (f 0) (f 1) L → rp (v 0) (f 0) (f 1) L := fun L h => rp_fr h (by omega) rfl rfl
        refine And.intro (Exists.intro _ md_o) (Exists.intro _ (Exists.intro _ (Exists.intro _ (Exists.intro _ (And.intro (Y_X11_recolours D v f hv hf (0 : Int32) m4 x1 x2 (1 : Int32) (by omega) (by omega) (by omega)) (And.intro rfl (fun r9 A9 h9 => ?_)))))))
        obtain ⟨y5, v6, f6, rfl, rfl, hv6, hf6, hx6, by5⟩ := h9
        have hw6 : f6 2 = f 2 := hx6.trans rfl
        have hu7 := hv6
        unfold md_V at hu7
        have hb_30 := by5.2.1
        have sq6 : (v6 3).toInt = (v 3).toInt ∧ (v6 6).toInt = (v 6).toInt := by omega
        have sp6 := by5.1.2.2
        have hm_9 := HM_fr by5.2.2 rfl rfl rfl rfl
        clear by5
        refine hC.1 2 37 _ _ rfl _ _ _ _ _ ?_
        exact ⟨rfl, fun e9 => absurd e9 (by decide), rfl, y5, v6, f6, rfl, rfl, hv6, hf6, hw6, by first | omega | (dsimp only; omega) | trivial, by refine ⟨?_, ?_⟩; (first | (intro L hL; have hl := hL.1; rw [ed_exch, if_pos (by omega)]; have nm9 : ¬ x1 = -1 := fun e9 => (by have e8 := congrArg Int32.toInt e9; have e7 : (-1 : Int32).toInt = -1 := rfl; omega); have t9 := hb_30 L (fun c => if c = x1 then x2 else if c = x2 then x1 else c) (hp_30 L hL) (fun c9 => (by by_cases q9 : c9 = x1; (simp [q9]); (simp [q9, nm9, show ¬ (1 : Int32) = 0 by decide]))) (by omega) (by omega) (by omega); rw [show (0 : Int32).toInt = 0 from rfl, ← hmm9, show mm9.toInt = (L.length : Int) - 1 by (rw [hmm9]; omega), rc_all] at t9; exact ⟨t9, by show _ = _ + (1 : Int); omega, by show _ = _ + (1 : Int) * _; omega⟩) | (intro L hL; have hl := hL.1; rw [ed_exch, if_neg (by omega)]; exact ⟨hL, by show _ = _ + (0 : Int); omega, by show _ = _ + (0 : Int) * _; omega⟩)); (first | (exact Or.inr ⟨by omega, hm_9⟩) | (exact Or.inl ⟨by omega, hr_missing, hr_missing, hr_missing, hr_missing⟩))⟩
    · skip
      have k0 : (0 : Int32).toInt = 0 := rfl
      refine And.intro (fun _ => ?_) (fun c9 => absurd c9 (by decide))
      refine hC.1 1 36 _ _ rfl _ _ _ _ _ ?_
      have km1 : (-1 : Int32).toInt = -1 := rfl
      refine hC.1 2 37 _ _ rfl _ _ _ _ _ ?_
      exact ⟨rfl, fun e9 => absurd e9 (by decide), rfl, (-1 : Int32), v, f, rfl, rfl, hv, hf, rfl, by first | omega | (dsimp only; omega) | trivial, by refine ⟨?_, ?_⟩; (first | (intro L hL; have hl := hL.1; rw [ed_exch, if_pos (by omega)]; have nm9 : ¬ x1 = -1 := fun e9 => (by have e8 := congrArg Int32.toInt e9; have e7 : (-1 : Int32).toInt = -1 := rfl; omega); have t9 := hb_30 L (fun c => if c = x1 then x2 else if c = x2 then x1 else c) (hp_30 L hL) (fun c9 => (by by_cases q9 : c9 = x1; (simp [q9]); (simp [q9, nm9, show ¬ (1 : Int32) = 0 by decide]))) (by omega) (by omega) (by omega); rw [show (0 : Int32).toInt = 0 from rfl, ← hmm9, show mm9.toInt = (L.length : Int) - 1 by (rw [hmm9]; omega), rc_all] at t9; exact ⟨t9, by show _ = _ + (1 : Int); omega, by show _ = _ + (1 : Int) * _; omega⟩) | (intro L hL; have hl := hL.1; rw [ed_exch, if_neg (by omega)]; exact ⟨hL, by show _ = _ + (0 : Int); omega, by show _ = _ + (0 : Int) * _; omega⟩)); (first | (exact Or.inr ⟨by omega, hm_9⟩) | (exact Or.inl ⟨by omega, rfl, rfl, rfl, rfl⟩))⟩
  · skip
    have k0 : (0 : Int32).toInt = 0 := rfl
    refine And.intro (fun _ => ?_) (fun c9 => absurd c9 (by decide))
    refine hC.1 1 36 _ _ rfl _ _ _ _ _ ?_
    have km1 : (-1 : Int32).toInt = -1 := rfl
    refine hC.1 2 37 _ _ rfl _ _ _ _ _ ?_
    exact ⟨rfl, fun e9 => absurd e9 (by decide), rfl, (-1 : Int32), v, f, rfl, rfl, hv, hf, rfl, by first | omega | (dsimp only; omega) | trivial, by refine ⟨?_, ?_⟩; (first | (intro L hL; have hl := hL.1; rw [ed_exch, if_pos (by omega)]; have nm9 : ¬ x1 = -1 := fun e9 => (by have e8 := congrArg Int32.toInt e9; have e7 : (-1 : Int32).toInt = -1 := rfl; omega); have t9 := hb_30 L (fun c => if c = x1 then x2 else if c = x2 then x1 else c) (hp_30 L hL) (fun c9 => (by by_cases q9 : c9 = x1; (simp [q9]); (simp [q9, nm9, show ¬ (1 : Int32) = 0 by decide]))) (by omega) (by omega) (by omega); rw [show (0 : Int32).toInt = 0 from rfl, ← hmm9, show mm9.toInt = (L.length : Int) - 1 by (rw [hmm9]; omega), rc_all] at t9; exact ⟨t9, by show _ = _ + (1 : Int); omega, by show _ = _ + (1 : Int) * _; omega⟩) | (intro L hL; have hl := hL.1; rw [ed_exch, if_neg (by omega)]; exact ⟨hL, by show _ = _ + (0 : Int); omega, by show _ = _ + (0 : Int) * _; omega⟩)); (first | (exact Or.inr ⟨by omega, hm_9⟩) | (exact Or.inl ⟨by omega, rfl, rfl, rfl, rfl⟩))⟩

end
end
section
/-! since: from which edit on a name has the bond that it has now -/
theorem FST_n {m : Nat → Int32} {n r : Int} {x : Int32} (hn : 0 ≤ n) (h : FST m n x r) : r = nextEq m x 0 n.toNat := by
  rcases h with ⟨a, b⟩ | ⟨a, b, c, d⟩
  · rw [a, nextEq_m n.toNat 0 (fun i _ hi => b i (by omega))]
  · rw [nextEq_0 n.toNat 0 r.toNat (by omega) (by omega) c (fun i _ hi => d i (by omega))]; omega
def HBn (c m : Nat → Int32) (n : Int) (x b : Int32) : Prop := 0 ≤ nextEq m x 0 n.toNat ∧ bo c m (nextEq m x 0 n.toNat) = b
theorem HBn_eq {n n2 : Int32} {c m d k : Nat → Int32} {L : List pl_P} {x b : Int32} (h1 : rp n c m L) (h2 : rp n2 d k L) (h : HBn c m n.toInt x b) : HBn d k n2.toInt x b := by
  have e0 : n.toInt = n2.toInt := h1.1.trans h2.1.symm
  have hl := h1.1
  have hc : ∀ j : Nat, (j : Int) < n.toInt → c j = d j := fun j hj => by rw [(h1.2 j (by omega)).1, (h2.2 j (by omega)).1]
  have hm : ∀ j : Nat, (j : Int) < n.toInt → m j = k j := fun j hj => by rw [(h1.2 j (by omega)).2, (h2.2 j (by omega)).2]
  have e1 : nextEq m x 0 n.toInt.toNat = nextEq k x 0 n2.toInt.toNat := by
    rw [← e0]
    exact nextEq_eq _ _ (fun j hj => hm j (by omega))
  unfold HBn at h ⊢
  rw [← e1]
  have q := nextEq_lt m x 0 n.toInt.toNat
  refine ⟨h.1, ?_⟩
  rw [← bo_eq (c := c) (m := m) (fun j hj => hc j (by have := h.1; omega)) (fun j hj => hm j (by have := h.1; omega)) h.1]
  exact h.2
def SNP (P : Int → Prop) (E r : Int) : Prop := (0 ≤ r ∧ r ≤ E) ∧ (∀ i : Int, r ≤ i → i < E → P i) ∧ (r = 0 ∨ ¬ P (r - 1))
theorem SNP_u {P Q : Int → Prop} {E r s : Int} (h : ∀ i, 0 ≤ i → i < E → (P i ↔ Q i)) (h1 : SNP P E r) (h2 : SNP Q E s) : r = s := by
  obtain ⟨a1, a2, a3⟩ := h1
  obtain ⟨b1, b2, b3⟩ := h2
  have e1 : ¬ r < s := fun q => by
    rcases b3 with u | u
    · omega
    · exact u ((h _ (by omega) (by omega)).mp (a2 (s - 1) (by omega) (by omega)))
  have e2 : ¬ s < r := fun q => by
    rcases a3 with u | u
    · omega
    · exact u ((h _ (by omega) (by omega)).mpr (b2 (r - 1) (by omega) (by omega)))
  omega
def PCn (w : Nat → Int32) (e : Nat → Nat → Int32) (x b : Int32) (i : Int) : Prop := kno (w 0).toInt i ∧ ∀ o9 : Nat, (o9 : Int) = 40 + 4 * (i % 41) → HBn (e (o9 + 1)) (e (o9 + 2)) (w o9).toInt x b
def PRn (f : Nat → Nat → Int32) (E : Int) (x b : Int32) (i : Int) : Prop := kno E i ∧ HBn (rC f i) (rM f i) (rN f i).toInt x b
def SNC (E : Int) (c m : Nat → Int32) (n : Int) (P : Int32 → Int → Prop) (x : Int32) (r : Int) : Prop := (¬ 0 ≤ nextEq m x 0 n.toNat ∧ r = -1) ∨ (0 ≤ nextEq m x 0 n.toNat ∧ SNP (P (bo c m (nextEq m x 0 n.toNat))) E r)
end
section
section
variable {l : Launch} {g : pm_G} {A0 : pm_H} {K nn dn : Nat} {q : Nat → Nat} {w : Nat → Int32} {e : Nat → Nat → Int32} {v : Nat → Int32} {f : Nat → Nat → Int32}
set_option maxRecDepth 100000 in
set_option maxHeartbeats 2000000 in
theorem F_X7_hasName (hI : cw_I K nn dn q w e) (hs : cw_S v f) {o0 : Nat} (ho0 : cw_ro K o0) (x1 : Int32)  : pm_Mt l g 154 1 0 0 [.ref (q o0), .int x1] (cw A0 g K nn dn q w e v f) (md_Qp (cw A0 g K nn dn q w e v f) (fun r => (r = 1 ∧ (0 ≤ nextEq (e (o0 + 2)) x1 0 (w o0).toInt.toNat)) ∨ (r = 0 ∧ (¬ (0 ≤ nextEq (e (o0 + 2)) x1 0 (w o0).toInt.toNat))))) := by
  refine mt_X7_hasName rfl (fun J hC => ?_)
  have ro_nn : cw_ro K nn := hI.2.1.2.1
  have ro_dn : cw_ro K dn := hI.2.1.2.2.1
  have hu1 := hI.2.1
  unfold cw_W at hu1
  have rg_x1 := pm_rng x1
  have zz0 := cw_sz hI ho0
  refine hC.1 0 0 _ _ rfl _ _ _ _ _ ?_
  refine And.intro (Exists.intro _ (cw_ro_o hI.1 ho0)) (Exists.intro _ (Exists.intro _ (Exists.intro _ (Exists.intro _ (And.intro (F_X7_placeOf hI hs ho0 x1 ) (And.intro rfl (fun r9 A9 h9 => ?_)))))))
  obtain ⟨y2, rfl, rfl, by2⟩ := h9
  have yf_9 := FST_n (by omega) by2.2
  have km1 : (-1 : Int32).toInt = -1 := rfl
  refine And.intro (fun c4 => ?_) (fun c4 => ?_)
  · skip
    have dc4 : (y2).toInt = ((-1 : Int32) : Int32).toInt := congrArg Int32.toInt c4
    refine hC.1 1 13 _ _ rfl _ _ _ _ _ ?_
    have k0 : (0 : Int32).toInt = 0 := rfl
    refine hC.1 2 14 _ _ rfl _ _ _ _ _ ?_
    exact ⟨rfl, fun _ => (by decide), rfl, (0 : Int32), rfl, rfl, Or.inr ⟨rfl, by first | omega | (dsimp only; omega) | trivial⟩⟩
  · skip
    have dc4 := pm_neI c4
    have k1 : (1 : Int32).toInt = 1 := rfl
    refine hC.1 2 14 _ _ rfl _ _ _ _ _ ?_
    exact ⟨rfl, fun _ => (by decide), rfl, (1 : Int32), rfl, rfl, Or.inl ⟨rfl, by first | omega | (dsimp only; omega) | trivial⟩⟩

set_option maxRecDepth 100000 in
set_option maxHeartbeats 2000000 in
theorem F_X9_steadySince (hI : cw_I K nn dn q w e) (hs : cw_S v f) (x1 : Int32) (p0 : ∀ (i9 : Int) (o9 : Nat), kno (w 0).toInt i9 → (o9 : Int) = 40 + 4 * (i9 % 41) → bd (w o9) (e (o9 + 1)) (e (o9 + 3))) (p1 : bd (w nn) (e (nn + 1)) (e (nn + 3))) : pm_Mt l g 153 3 0 0 [.ref (q 1), .int x1] (cw A0 g K nn dn q w e v f) (md_Qp (cw A0 g K nn dn q w e v f) (fun r => SNC (w 0).toInt (e (nn + 1)) (e (nn + 2)) (w nn).toInt (PCn w e x1) x1 r.toInt)) := by
  refine mt_X9_steadySince rfl (fun J hC => ?_)
  have ro_nn : cw_ro K nn := hI.2.1.2.1
  have ro_dn : cw_ro K dn := hI.2.1.2.2.1
  have hu1 := hI.2.1
  unfold cw_W at hu1
  have rg_x1 := pm_rng x1
  have zz0 := cw_sz hI ro_nn
  refine hC.1 0 0 _ _ rfl _ _ _ _ _ ?_
  refine Exists.intro _ (And.intro (cw_o1 hI.1) ?_)
  refine And.intro (Exists.intro _ (cw_ro_o hI.1 ro_nn)) (Exists.intro _ (Exists.intro _ (Exists.intro _ (Exists.intro _ (And.intro (F_X7_placeOf hI hs ro_nn x1 ) (And.intro rfl (fun r9 A9 h9 => ?_)))))))
  obtain ⟨y2, rfl, rfl, by2⟩ := h9
  have ya_9 := FST_n (by omega) by2.2
  have km1 : (-1 : Int32).toInt = -1 := rfl
  refine And.intro (fun c4 => ?_) (fun c4 => ?_)
  · skip
    have dc4 := pm_neI c4
    refine hC.1 1 16 _ _ rfl _ _ _ _ _ ?_
    refine Exists.intro _ (And.intro (cw_o1 hI.1) ?_)
    refine And.intro (Exists.intro _ (cw_ro_o hI.1 ro_nn)) (Exists.intro _ (Exists.intro _ (Exists.intro _ (Exists.intro _ (And.intro (F_X7_bondAt hI hs ro_nn y2 (by exact p1)) (And.intro rfl (fun r9 A9 h9 => ?_)))))))
    obtain ⟨y5, rfl, rfl, by5⟩ := h9
    have yc_9 : y5 = bo (e (nn + 1)) (e (nn + 2)) (nextEq (e (nn + 2)) x1 0 (w nn).toInt.toNat) := (by5.trans (BA_y (by omega))).trans (by rw [ya_9])
    refine Exists.intro _ (And.intro (cw_o1 hI.1) ?_)
    have k1 : (1 : Int32).toInt = 1 := rfl
    intro m7 em_30
    try have e7 : m7.toInt = ((w 0)).toInt - (1) := by rw [em_30]; exact pm_subc _ _ (1) rfl (by omega) (by omega)
    have lp9 : ∀ (n : Nat) (z4_33 : Int32), (-1 ≤ z4_33.toInt ∧ z4_33.toInt < (w 0).toInt) → (∀ i : Int, z4_33.toInt < i → i < (w 0).toInt → PCn w e x1 y5 i) → z4_33.toInt + 1 < (n : Int) → J 33 [some (.ref (q 1)), some (.int x1), some (.int y2), some (.int y5), some (.int z4_33), none] [] (cw A0 g K nn dn q w e v f) 0 0 := by
      intro n
      induction n with
      | zero =>
        intro z4_33 j0_33 j1_33 j2_33
        omega
      | succ n ih10 =>
        intro z4_33 j0_33 j1_33 j2_33
        refine hC.1 2 33 _ _ rfl _ _ _ _ _ ?_
        refine And.intro (fun c11 => ?_) (fun c11 => ?_)
        · skip
          refine hC.1 5 86 _ _ rfl _ _ _ _ _ ?_
          have k0 : (0 : Int32).toInt = 0 := rfl
          exact ⟨rfl, fun e9 => absurd e9 (by decide), rfl, (0 : Int32), rfl, rfl, by refine Or.inr ⟨by omega, ?_⟩; rw [← yc_9]; exact ⟨by omega, fun i9 h9 h8 => j1_33 i9 (by omega) h8, Or.inl rfl⟩⟩
        · skip
          refine And.intro (Exists.intro _ (cw_o1 hI.1)) (Exists.intro _ (Exists.intro _ (Exists.intro _ (Exists.intro _ (And.intro (F_X9_behind hI hs z4_33 ) (And.intro rfl (fun r9 A9 h9 => ?_)))))))
          rcases h9 with ⟨rfl, ⟨rfl, hn13⟩ | ⟨o13, rfl, ho13, hn13, he13⟩⟩
          · skip
            have kn_41 := hn13
            unfold kno at hn13
            refine hC.1 3 75 _ _ rfl _ _ _ _ _ ?_
            have yn_9 : ¬ PCn w e x1 y5 z4_33.toInt := (by first | (exact fun h9 => kn_41 h9.1) | (exact fun h9 => yh_9 (h9.2 _ ke_41).1) | (exact fun h9 => absurd (Eq.trans (c := y5) yq_9 ((BA_y (by omega)).trans (by rw [yp_9]; exact (h9.2 _ ke_41).2))) (by assumption)))
            intro m14 em_78
            try have e14 : m14.toInt = (z4_33).toInt + (1) := by rw [em_78]; exact pm_addc _ _ (1) rfl (by omega) (by omega)
            have yr_9 : (m14).toInt = z4_33.toInt + 1 := (by omega)
            exact ⟨rfl, fun e9 => absurd e9 (by decide), rfl, m14, rfl, rfl, by refine Or.inr ⟨by omega, ?_⟩; rw [← yc_9, yr_9]; refine ⟨by omega, fun i9 h9 h8 => j1_33 i9 (by omega) h8, Or.inr ?_⟩; rw [show z4_33.toInt + 1 - 1 = z4_33.toInt by omega]; exact yn_9⟩
          · skip
            have kn_41 := hn13
            have ke_41 := he13
            have ko_41 : ∀ z9 : Nat, (z9 : Int) = 40 + 4 * ((z4_33).toInt % 41) → z9 = o13 := fun z9 h9 => (by omega)
            unfold kno at hn13
            have zz5 := cw_sz hI ho13
            refine And.intro (Exists.intro _ (cw_ro_o hI.1 ho13)) (Exists.intro _ (Exists.intro _ (Exists.intro _ (Exists.intro _ (And.intro (F_X7_hasName hI hs ho13 x1 ) (And.intro rfl (fun r9 A9 h9 => ?_)))))))
            rcases h9 with ⟨y15, rfl, rfl, ⟨rfl, by15⟩ | ⟨rfl, by15⟩⟩
            · skip
              have yh_9 := by15
              refine And.intro (fun c9 => absurd c9 (by decide)) (fun _ => ?_)
              refine And.intro (Exists.intro _ (cw_ro_o hI.1 ho13)) (Exists.intro _ (Exists.intro _ (Exists.intro _ (Exists.intro _ (And.intro (F_X7_placeOf hI hs ho13 x1 ) (And.intro rfl (fun r9 A9 h9 => ?_)))))))
              obtain ⟨y17, rfl, rfl, by17⟩ := h9
              have yp_9 := FST_n (by omega) by17.2
              refine And.intro (Exists.intro _ (cw_ro_o hI.1 ho13)) (Exists.intro _ (Exists.intro _ (Exists.intro _ (Exists.intro _ (And.intro (F_X7_bondAt hI hs ho13 y17 (by exact p0 _ _ kn_41 ke_41)) (And.intro rfl (fun r9 A9 h9 => ?_)))))))
              obtain ⟨y19, rfl, rfl, by19⟩ := h9
              have yq_9 := by19
              refine And.intro (fun c21 => ?_) (fun c21 => ?_)
              · skip
                have dc21 : (y19).toInt = (y5 : Int32).toInt := congrArg Int32.toInt c21
                refine hC.1 4 80 _ _ rfl _ _ _ _ _ ?_
                have yz_9 : PCn w e x1 y5 z4_33.toInt := ⟨kn_41, fun o9 h9 => (by rw [ko_41 o9 h9]; exact ⟨yh_9, (by rw [← yp_9]; exact ((BA_y (by omega)).symm.trans yq_9.symm).trans (by assumption))⟩)⟩
                intro m22 em_80
                try have e22 : m22.toInt = (z4_33).toInt + (-1) := by rw [em_80]; exact pm_addc _ _ (-1) rfl (by omega) (by omega)
                exact hC.2 [false, false, false, false, false, true] _ _ _ _ _ _ (ih10 m22 (by omega) (by intro i9 h9 h8; by_cases h7 : i9 = z4_33.toInt; (rw [h7]; exact yz_9); (exact j1_33 i9 (by omega) h8)) (by omega))
              · skip
                have dc21 := pm_neI c21
                refine hC.1 3 75 _ _ rfl _ _ _ _ _ ?_
                have yn_9 : ¬ PCn w e x1 y5 z4_33.toInt := (by first | (exact fun h9 => kn_41 h9.1) | (exact fun h9 => yh_9 (h9.2 _ ke_41).1) | (exact fun h9 => absurd (Eq.trans (c := y5) yq_9 ((BA_y (by omega)).trans (by rw [yp_9]; exact (h9.2 _ ke_41).2))) (by assumption)))
                intro m23 em_78
                try have e23 : m23.toInt = (z4_33).toInt + (1) := by rw [em_78]; exact pm_addc _ _ (1) rfl (by omega) (by omega)
                have yr_9 : (m23).toInt = z4_33.toInt + 1 := (by omega)
                exact ⟨rfl, fun e9 => absurd e9 (by decide), rfl, m23, rfl, rfl, by refine Or.inr ⟨by omega, ?_⟩; rw [← yc_9, yr_9]; refine ⟨by omega, fun i9 h9 h8 => j1_33 i9 (by omega) h8, Or.inr ?_⟩; rw [show z4_33.toInt + 1 - 1 = z4_33.toInt by omega]; exact yn_9⟩
            · skip
              have k0 : (0 : Int32).toInt = 0 := rfl
              have yh_9 := by15
              refine And.intro (fun _ => ?_) (fun c9 => absurd c9 (by decide))
              refine hC.1 3 75 _ _ rfl _ _ _ _ _ ?_
              have yn_9 : ¬ PCn w e x1 y5 z4_33.toInt := (by first | (exact fun h9 => kn_41 h9.1) | (exact fun h9 => yh_9 (h9.2 _ ke_41).1) | (exact fun h9 => absurd (Eq.trans (c := y5) yq_9 ((BA_y (by omega)).trans (by rw [yp_9]; exact (h9.2 _ ke_41).2))) (by assumption)))
              intro m24 em_78
              try have e24 : m24.toInt = (z4_33).toInt + (1) := by rw [em_78]; exact pm_addc _ _ (1) rfl (by omega) (by omega)
              have yr_9 : (m24).toInt = z4_33.toInt + 1 := (by omega)
              exact ⟨rfl, fun e9 => absurd e9 (by decide), rfl, m24, rfl, rfl, by refine Or.inr ⟨by omega, ?_⟩; rw [← yc_9, yr_9]; refine ⟨by omega, fun i9 h9 h8 => j1_33 i9 (by omega) h8, Or.inr ?_⟩; rw [show z4_33.toInt + 1 - 1 = z4_33.toInt by omega]; exact yn_9⟩
    exact lp9 (m7.toInt + 1).toNat.succ m7 (by omega) (by intro i9 h9 h8; omega) (by omega)
  · skip
    have dc4 : (y2).toInt = ((-1 : Int32) : Int32).toInt := congrArg Int32.toInt c4
    exact ⟨rfl, fun e9 => absurd e9 (by decide), rfl, (-1 : Int32), rfl, rfl, by exact Or.inl ⟨by omega, rfl⟩⟩

set_option maxRecDepth 100000 in
set_option maxHeartbeats 2000000 in
theorem F_X10_since (hI : cw_I K nn dn q w e) (hs : cw_S v f) (x1 : Int32) (p0 : ∀ (i9 : Int) (o9 : Nat), kno (w 0).toInt i9 → (o9 : Int) = 40 + 4 * (i9 % 41) → bd (w o9) (e (o9 + 1)) (e (o9 + 3))) (p1 : bd (w nn) (e (nn + 1)) (e (nn + 3))) : pm_Mt l g 152 4 0 0 [.ref (q 0), .int x1] (cw A0 g K nn dn q w e v f) (md_Qp (cw A0 g K nn dn q w e v f) (fun r => SNC (w 0).toInt (e (nn + 1)) (e (nn + 2)) (w nn).toInt (PCn w e x1) x1 r.toInt)) := by
  refine mt_X10_since rfl (fun J hC => ?_)
  have ro_nn : cw_ro K nn := hI.2.1.2.1
  have ro_dn : cw_ro K dn := hI.2.1.2.2.1
  have hu1 := hI.2.1
  unfold cw_W at hu1
  have rg_x1 := pm_rng x1
  refine hC.1 0 0 _ _ rfl _ _ _ _ _ ?_
  refine Exists.intro _ (And.intro (cw_o0 hI.1) ?_)
  refine And.intro (Exists.intro _ (cw_o1 hI.1)) (Exists.intro _ (Exists.intro _ (Exists.intro _ (Exists.intro _ (And.intro (F_X9_steadySince hI hs x1 (by exact p0) (by exact p1)) (And.intro rfl (fun r9 A9 h9 => ?_)))))))
  obtain ⟨y2, rfl, rfl, by2⟩ := h9
  have yf_9 := by2
  exact ⟨rfl, fun e9 => absurd e9 (by decide), rfl, y2, rfl, rfl, by exact yf_9⟩

end
end
section
section
variable {l : Launch} {g : pm_G} {A0 : pm_H} {h : Nat} {q : Nat → Nat}
set_option maxRecDepth 100000 in
set_option maxHeartbeats 2000000 in
theorem F_X11_hadBond (D : md_D h q) (v : Nat → Int32) (f : Nat → Nat → Int32) (hv : md_V v) (hf : md_F f) (x1 : Int32) (x2 : Int32) (x3 : Int32) (p0 : 0 ≤ x1.toInt) : pm_Mt l g 235 2 0 0 [.ref h, .int x1, .int x2, .int x3] (md A0 g h q v f) (md_Qp (md A0 g h q v f) (fun r => (r = 1 ∧ (HBn (rC f x1.toInt) (rM f x1.toInt) (rN f x1.toInt).toInt x2 x3)) ∨ (r = 0 ∧ (¬ (HBn (rC f x1.toInt) (rM f x1.toInt) (rN f x1.toInt).toInt x2 x3))))) := by
  refine mt_X11_hadBond rfl (fun J hC => ?_)
  have hv9 := hv
  unfold md_V at hv9
  have rg_x1 := pm_rng x1
  have rg_x2 := pm_rng x2
  have rg_x3 := pm_rng x3
  refine hC.1 0 0 _ _ rfl _ _ _ _ _ ?_
  refine And.intro (Exists.intro _ md_o) (Exists.intro _ (Exists.intro _ (Exists.intro _ (Exists.intro _ (And.intro (F_X11_wasPlace D v f hv hf x1 x2 (by omega)) (And.intro rfl (fun r9 A9 h9 => ?_)))))))
  obtain ⟨y1, rfl, rfl, by1⟩ := h9
  have ya_9 := by1.2
  refine And.intro (fun c2 => ?_) (fun c2 => ?_)
  · skip
    refine hC.1 1 28 _ _ rfl _ _ _ _ _ ?_
    have k0 : (0 : Int32).toInt = 0 := rfl
    refine hC.1 2 29 _ _ rfl _ _ _ _ _ ?_
    exact ⟨rfl, fun _ => (by decide), rfl, (0 : Int32), rfl, rfl, Or.inr ⟨rfl, by first | (exact ⟨by omega, by rw [← ya_9, ← yb_9]; assumption⟩) | (exact fun h9 => absurd h9.1 (by omega)) | (exact fun h9 => absurd (Eq.trans (c := x3) yb_9 (by rw [ya_9]; exact h9.2)) (by assumption))⟩⟩
  · skip
    refine And.intro (Exists.intro _ md_o) (Exists.intro _ (Exists.intro _ (Exists.intro _ (Exists.intro _ (And.intro (F_X11_wasBond D v f hv hf x1 y1 (by omega) (by omega)) (And.intro rfl (fun r9 A9 h9 => ?_)))))))
    obtain ⟨y3, rfl, rfl, by3⟩ := h9
    have yb_9 := by3
    refine And.intro (fun c4 => ?_) (fun c4 => ?_)
    · skip
      have dc4 := pm_neI c4
      refine hC.1 1 28 _ _ rfl _ _ _ _ _ ?_
      have k0 : (0 : Int32).toInt = 0 := rfl
      refine hC.1 2 29 _ _ rfl _ _ _ _ _ ?_
      exact ⟨rfl, fun _ => (by decide), rfl, (0 : Int32), rfl, rfl, Or.inr ⟨rfl, by first | (exact ⟨by omega, by rw [← ya_9, ← yb_9]; assumption⟩) | (exact fun h9 => absurd h9.1 (by omega)) | (exact fun h9 => absurd (Eq.trans (c := x3) yb_9 (by rw [ya_9]; exact h9.2)) (by assumption))⟩⟩
    · skip
      have dc4 : (y3).toInt = (x3 : Int32).toInt := congrArg Int32.toInt c4
      have k1 : (1 : Int32).toInt = 1 := rfl
      refine hC.1 2 29 _ _ rfl _ _ _ _ _ ?_
      exact ⟨rfl, fun _ => (by decide), rfl, (1 : Int32), rfl, rfl, Or.inl ⟨rfl, by first | (exact ⟨by omega, by rw [← ya_9, ← yb_9]; assumption⟩) | (exact fun h9 => absurd h9.1 (by omega)) | (exact fun h9 => absurd (Eq.trans (c := x3) yb_9 (by rw [ya_9]; exact h9.2)) (by assumption))⟩⟩

set_option maxRecDepth 100000 in
set_option maxHeartbeats 2000000 in
theorem F_X11_since (D : md_D h q) (v : Nat → Int32) (f : Nat → Nat → Int32) (hv : md_V v) (hf : md_F f) (x1 : Int32)  : pm_Mt l g 234 3 0 0 [.ref h, .int x1] (md A0 g h q v f) (md_Qp (md A0 g h q v f) (fun r => (x1.toInt < 0 ∧ r.toInt = -1) ∨ (0 ≤ x1.toInt ∧ SNC (v 4).toInt (f 0) (f 1) (v 0).toInt (PRn f (v 4).toInt x1) x1 r.toInt))) := by
  refine mt_X11_since rfl (fun J hC => ?_)
  have hv9 := hv
  unfold md_V at hv9
  have rg_x1 := pm_rng x1
  refine hC.1 0 0 _ _ rfl _ _ _ _ _ ?_
  refine And.intro (Exists.intro _ md_o) (Exists.intro _ (Exists.intro _ (Exists.intro _ (Exists.intro _ (And.intro (F_X11_place D v f hv hf x1 ) (And.intro rfl (fun r9 A9 h9 => ?_)))))))
  obtain ⟨y1, rfl, rfl, by1⟩ := h9
  have ya_9 := by1.2
  have yp_9 : (x1.toInt < 0 ∧ y1.toInt = -1) ∨ (0 ≤ x1.toInt ∧ y1.toInt = nextEq (f 1) x1 0 (v 0).toInt.toNat) := (by rcases ya_9 with h9 | h9; (exact Or.inl h9); (exact Or.inr ⟨h9.1, FST_n (by omega) h9.2⟩))
  refine And.intro (fun c2 => ?_) (fun c2 => ?_)
  · skip
    refine hC.1 1 12 _ _ rfl _ _ _ _ _ ?_
    refine And.intro (Exists.intro _ md_o) (Exists.intro _ (Exists.intro _ (Exists.intro _ (Exists.intro _ (And.intro (F_X11_bondOf D v f hv hf y1 (by omega)) (And.intro rfl (fun r9 A9 h9 => ?_)))))))
    obtain ⟨y3, rfl, rfl, by3⟩ := h9
    have yc_9 : y3 = bo (f 0) (f 1) (nextEq (f 1) x1 0 (v 0).toInt.toNat) := (by rw [by3, show y1.toInt = nextEq (f 1) x1 0 (v 0).toInt.toNat by omega])
    refine Exists.intro _ (And.intro md_o ?_)
    have lp4 : ∀ (n : Nat) (z4_24 : Int32), (0 ≤ z4_24.toInt ∧ z4_24.toInt ≤ (v 4).toInt) → (∀ i : Int, z4_24.toInt ≤ i → i < (v 4).toInt → PRn f (v 4).toInt x1 y3 i) → z4_24.toInt < (n : Int) → J 24 [some (.ref h), some (.int x1), some (.int y1), some (.int y3), some (.int z4_24)] [] (md A0 g h q v f) 0 0 := by
      intro n
      induction n with
      | zero =>
        intro z4_24 j0_24 j1_24 j2_24
        omega
      | succ n ih5 =>
        intro z4_24 j0_24 j1_24 j2_24
        refine hC.1 2 24 _ _ rfl _ _ _ _ _ ?_
        have k1 : (1 : Int32).toInt = 1 := rfl
        intro m6 em_28
        try have e6 : m6.toInt = (z4_24).toInt - (1) := by rw [em_28]; exact pm_subc _ _ (1) rfl (by omega) (by omega)
        refine And.intro (Exists.intro _ md_o) (Exists.intro _ (Exists.intro _ (Exists.intro _ (Exists.intro _ (And.intro (c_X11_isKnown D v f hv hf m6 ) (And.intro rfl (fun r9 A9 h9 => ?_)))))))
        rcases h9 with ⟨y7, rfl, rfl, ⟨rfl, by7⟩ | ⟨rfl, by7⟩⟩
        · skip
          refine And.intro (fun c9 => absurd c9 (by decide)) (fun _ => ?_)
          intro m8 em_39
          try have e8 : m8.toInt = (z4_24).toInt - (1) := by rw [em_39]; exact pm_subc _ _ (1) rfl (by omega) (by omega)
          have yi_9 : (m8).toInt = z4_24.toInt - 1 := (by omega)
          refine And.intro (Exists.intro _ md_o) (Exists.intro _ (Exists.intro _ (Exists.intro _ (Exists.intro _ (And.intro (F_X11_hadBond D v f hv hf m8 x1 y3 (by omega)) (And.intro rfl (fun r9 A9 h9 => ?_)))))))
          rcases h9 with ⟨y9, rfl, rfl, ⟨rfl, by9⟩ | ⟨rfl, by9⟩⟩
          · skip
            have yh_9 := by9
            rw [yi_9] at yh_9
            refine And.intro (fun c9 => absurd c9 (by decide)) (fun _ => ?_)
            have km1 : (-1 : Int32).toInt = -1 := rfl
            intro m10 em_48
            try have e10 : m10.toInt = (z4_24).toInt + (-1) := by rw [em_48]; exact pm_addc _ _ (-1) rfl (by omega) (by omega)
            exact ih5 m10 (by omega) (by intro i9 h9 h8; by_cases h7 : i9 = z4_24.toInt - 1; (rw [h7]; exact ⟨by unfold kno; omega, yh_9⟩); (exact j1_24 i9 (by omega) h8)) (by omega)
          · skip
            have k0 : (0 : Int32).toInt = 0 := rfl
            have yh_9 := by9
            rw [yi_9] at yh_9
            refine And.intro (fun _ => ?_) (fun c9 => absurd c9 (by decide))
            refine hC.1 3 54 _ _ rfl _ _ _ _ _ ?_
            exact ⟨rfl, fun e9 => absurd e9 (by decide), rfl, z4_24, rfl, rfl, by refine Or.inr ⟨by omega, Or.inr ⟨by omega, ?_⟩⟩; rw [← yc_9]; exact ⟨by omega, j1_24, Or.inr (by first | (exact fun h9 => (by have h7 := h9.1; unfold kno at h7; omega)) | (exact fun h9 => yh_9 h9.2))⟩⟩
        · skip
          have k0 : (0 : Int32).toInt = 0 := rfl
          refine And.intro (fun _ => ?_) (fun c9 => absurd c9 (by decide))
          refine hC.1 3 54 _ _ rfl _ _ _ _ _ ?_
          exact ⟨rfl, fun e9 => absurd e9 (by decide), rfl, z4_24, rfl, rfl, by refine Or.inr ⟨by omega, Or.inr ⟨by omega, ?_⟩⟩; rw [← yc_9]; exact ⟨by omega, j1_24, Or.inr (by first | (exact fun h9 => (by have h7 := h9.1; unfold kno at h7; omega)) | (exact fun h9 => yh_9 h9.2))⟩⟩
    exact lp4 ((v 4).toInt).toNat.succ (v 4) (by omega) (by intro i9 h9 h8; omega) (by omega)
  · skip
    have km1 : (-1 : Int32).toInt = -1 := rfl
    exact ⟨rfl, fun e9 => absurd e9 (by decide), rfl, (-1 : Int32), rfl, rfl, by rcases yp_9 with h9 | h9; (exact Or.inl ⟨h9.1, rfl⟩); (exact Or.inr ⟨h9.1, Or.inl ⟨by omega, rfl⟩⟩)⟩

end
end
section
/-! changed: how many names are otherwise now than behind an edit -/
def qn (k : Nat → Int32) (n : Int) (x : Int32) : Int := nextEq k x 0 n.toNat
end
section
/-! report: the k-th by its bond, those without ahead of all -/
def la (c : Nat → Int32) (i : Nat) : Int := lastEq c (c i) i
def kR (c : Nat → Int32) (i : Nat) : Int := if la c i < 0 then (i : Int) - 160 else la c i
end
section
/-! the law's world with the two rows held together -/
def HX (w : Nat → Int32) (e : Nat → Nat → Int32) (mf : Nat → Nat → Int32) (E : Int) : Prop := ∀ (i : Int) (o : Nat), kno E i → (o : Int) = 40 + 4 * (i % 41) → ∃ L, rp (w o) (e (o + 1)) (e (o + 2)) L ∧ bd (w o) (e (o + 1)) (e (o + 3)) ∧ rp (rN mf i) (rC mf i) (rM mf i) L
def LX (g : pm_G) (xo h E : Nat) (A : pm_H) : Prop := ∃ (A00 : pm_H) (K nn dn : Nat) (q : Nat → Nat) (w : Nat → Int32) (e : Nat → Nat → Int32) (v : Nat → Int32) (f : Nat → Nat → Int32) (mq : Nat → Nat) (mv : Nat → Int32) (mf : Nat → Nat → Int32) (M : List pl_P), A = cw (md A00 g h mq mv mf) g K nn dn q w e v f ∧ q 0 = xo ∧ cw_I K nn dn q w e ∧ cw_S v f ∧ md_D h mq ∧ md_V mv ∧ md_F mf ∧ (∀ i, i < 40 + 4 * K → q i ≠ h ∧ ∀ j, j < 20 → q i ≠ mq j) ∧ (∀ j, j < 24 → e 15 j = mf 2 j) ∧ (w 0).toInt ≤ E ∧ (mv 4).toInt ≤ E ∧ rp (w nn) (e (nn + 1)) (e (nn + 2)) M ∧ rp (mv 0) (mf 0) (mf 1) M ∧ w 1 = mv 3 ∧ (w 0).toInt = (mv 4).toInt ∧ (nn : Int) = 40 + 4 * ((w 0).toInt % 41) ∧ nm0 M ∧ bd (w nn) (e (nn + 1)) (e (nn + 3)) ∧ HX w e mf (w 0).toInt
theorem LX_mono {g : pm_G} {xo h E E' : Nat} {A : pm_H} (hE : E ≤ E') (hA : LX g xo h E A) : LX g xo h E' A := by
  obtain ⟨A00, K, nn, dn, q, w, e, v, f, mq, mv, mf, M, rfl, rfl, hI, hS, D, hv, hf, dj, hw, hE1, hE2, r⟩ := hA
  exact ⟨A00, K, nn, dn, q, w, e, v, f, mq, mv, mf, M, rfl, rfl, hI, hS, D, hv, hf, dj, hw, by omega, by omega, r⟩
theorem lx_c {n n2 : Int32} {c m c2 m2 : Nat → Int32} {M : List pl_P} (h1 : rp n c m M) (h2 : rp n2 c2 m2 M) : ∀ j : Nat, (j : Int) < n.toInt → c j = c2 j := fun j hj => by
  have hl := h1.1
  rw [(h1.2 j (by omega)).1, (h2.2 j (by omega)).1]
theorem lx_m {n n2 : Int32} {c m c2 m2 : Nat → Int32} {M : List pl_P} (h1 : rp n c m M) (h2 : rp n2 c2 m2 M) : ∀ j : Nat, (j : Int) < n.toInt → m j = m2 j := fun j hj => by
  have hl := h1.1
  rw [(h1.2 j (by omega)).2, (h2.2 j (by omega)).2]
noncomputable def wq (x1 x2 : Int32) (c : Nat → Int32) : Nat → Int32 := if 0 ≤ x1.toInt ∧ x1.toInt ≤ 23 ∧ 0 ≤ x2.toInt ∧ x2.toInt ≤ 999 then upd c x1.toInt.toNat x2 else c
theorem lx_wc {A0 : pm_H} {g : pm_G} {K nn dn : Nat} {q : Nat → Nat} {w : Nat → Int32} {e : Nat → Nat → Int32} {v : Nat → Int32} {f : Nat → Nat → Int32} (hI : cw_I K nn dn q w e) {x1 x2 : Int32} {r : Option Value} {A9 : pm_H} (h : ((0 ≤ x1.toInt ∧ x1.toInt ≤ 23 ∧ 0 ≤ x2.toInt ∧ x2.toInt ≤ 999) ∧ r = some (.int (e 15 x1.toInt.toNat)) ∧ A9 = cw A0 g K nn dn q w (va_up e 15 (upd (e 15) x1.toInt.toNat x2)) v f) ∨ (¬ (0 ≤ x1.toInt ∧ x1.toInt ≤ 23 ∧ 0 ≤ x2.toInt ∧ x2.toInt ≤ 999) ∧ r = some (.int (-1)) ∧ A9 = cw A0 g K nn dn q w e v f)) : ∃ (e2 : Nat → Nat → Int32) (y : Int32), r = some (.int y) ∧ A9 = cw A0 g K nn dn q w e2 v f ∧ cw_I K nn dn q w e2 ∧ (∀ i, 40 ≤ i → e2 i = e i) ∧ e2 15 = wq x1 x2 (e 15) := by
  rcases h with ⟨hr, h1, h2⟩ | ⟨hr, h1, h2⟩
  · exact ⟨_, _, h1, h2, ⟨hI.1, hI.2.1, hI.2.2.1, cw_E_up hI.2.2.2 _ _ (fun h9 _ => absurd h9 (by decide)) (fun h9 _ => absurd h9 (by decide))⟩, fun i hi => va_un (by omega), by rw [va_us, wq, if_pos hr]⟩
  · exact ⟨e, _, h1, h2, hI, fun _ _ => rfl, by rw [wq, if_neg hr]⟩
theorem lx_ww {e e2 mf mf2 : Nat → Nat → Int32} {x1 x2 : Int32} (hw : ∀ j, j < 24 → e 15 j = mf 2 j) (hc : e2 15 = wq x1 x2 (e 15)) (hm : mf2 2 = wq x1 x2 (mf 2)) : ∀ j, j < 24 → e2 15 j = mf2 2 j := fun j hj => by
  rw [hc, hm]
  unfold wq
  split
  · by_cases e1 : j = x1.toInt.toNat
    · rw [e1, pk_us, pk_us]
    · rw [pk_un e1, pk_un e1]; exact hw j hj
  · exact hw j hj
end
section
theorem HX_0 {w : Nat → Int32} {e : Nat → Nat → Int32} {mf : Nat → Nat → Int32} (hw : (w 40).toInt = 0) (hm : (mf 14 0).toInt = 0) : HX w e mf 0 := fun i o h1 h2 => by
  unfold kno at h1
  have e1 : i = 0 := by omega
  subst e1
  have e2 : o = 40 := by omega
  subst e2
  exact ⟨[], rp_0 hw, fun j hj => by omega, rp_0 hm⟩
theorem HX_c {w w2 : Nat → Int32} {e e2 : Nat → Nat → Int32} {mf : Nat → Nat → Int32} {E E2 : Int} (h : HX w e mf E) (hE : E2 = E) (hc : ∀ i9, 40 ≤ i9 → w2 i9 = w i9 ∧ e2 i9 = e i9) : HX w2 e2 mf E2 := fun i o h1 h2 => by
  subst hE
  obtain ⟨L, a, b, c⟩ := h i o h1 h2
  rw [(hc o (by omega)).1, (hc (o + 1) (by omega)).2, (hc (o + 2) (by omega)).2, (hc (o + 3) (by omega)).2]
  exact ⟨L, a, b, c⟩
theorem HX_m {w : Nat → Int32} {e : Nat → Nat → Int32} {mf mf2 : Nat → Nat → Int32} {E : Int} (h : HX w e mf E) (e12 : mf2 12 = mf 12) (e13 : mf2 13 = mf 13) (e14 : mf2 14 = mf 14) : HX w e mf2 E := fun i o h1 h2 => by
  obtain ⟨L, a, b, c⟩ := h i o h1 h2
  refine ⟨L, a, b, ?_⟩
  unfold rN rC rM at c ⊢
  rw [e12, e13, e14]
  exact c
theorem HX_b {w : Nat → Int32} {e : Nat → Nat → Int32} {mf : Nat → Nat → Int32} {E i : Int} {o : Nat} (h : HX w e mf E) (h1 : kno E i) (h2 : (o : Int) = 40 + 4 * (i % 41)) : bd (w o) (e (o + 1)) (e (o + 3)) := by
  obtain ⟨L, a, b, c⟩ := h i o h1 h2
  exact b
theorem HX_ed {K nn nn2 : Nat} {w w2 : Nat → Int32} {e e2 : Nat → Nat → Int32} {mf mf2 : Nat → Nat → Int32} {mv mv2 : Nat → Int32} {x : Int32} {t : Int} {M : List pl_P} (hf : md_F mf) (h : HX w e mf (w 0).toInt) (h0 : 0 ≤ (w 0).toInt) (hK : (w 0).toInt + 1 ≤ K ∨ K = 41) (hc : HCe K nn w e w2 e2 nn2 x) (hm : HMe (mv 4).toInt mf mv2 mf2 t) (he : (w 0).toInt = (mv 4).toInt) (h2 : (w2 0).toInt = (mv2 4).toInt) (hN : (nn2 : Int) = 40 + 4 * ((w2 0).toInt % 41)) (hR1 : rp (w2 nn2) (e2 (nn2 + 1)) (e2 (nn2 + 2)) M) (hR2 : rp (mv2 0) (mf2 0) (mf2 1) M) (hB : bd (w2 nn2) (e2 (nn2 + 1)) (e2 (nn2 + 3))) : HX w2 e2 mf2 (w2 0).toInt := by
  rcases hc with ⟨a1, a2, a3⟩ | ⟨a1, a2, _⟩
  · rcases hm with ⟨b1, b2, b3, b4, _⟩ | ⟨b1, _⟩
    · exact HX_m (HX_c h a1 a3) b2 b3 b4
    · omega
  · rcases hm with ⟨b1, _⟩ | ⟨b1, b2, b3, _, b4⟩
    · omega
    · intro i o k1 k2
      by_cases q : i = (w2 0).toInt
      · have e1 : o = nn2 := by rw [q] at k2; omega
        subst e1
        refine ⟨M, hR1, hB, ?_⟩
        rw [q, h2]
        exact rp_cp hR2 b3 (fun j hj => b4 j hj)
      · unfold kno at k1
        obtain ⟨L, c1, c2, c3⟩ := h i o (by unfold kno; omega) k2
        have fr : ∀ z, z < 4 → w2 (o + z) = w (o + z) ∧ e2 (o + z) = e (o + z) := fun z hz => a2 (o + z) (by omega) (by omega) (by omega)
        have fo := (fr 0 (by omega)).1
        rw [Nat.add_zero] at fo
        refine ⟨L, ?_, ?_, ?_⟩
        · rw [fo, (fr 1 (by omega)).2, (fr 2 (by omega)).2]; exact c1
        · rw [fo, (fr 1 (by omega)).2, (fr 3 (by omega)).2]; exact c2
        · have g := b2 i (by omega) (by omega)
          have hl : 0 ≤ (rN mf i).toInt ∧ (rN mf i).toInt ≤ 160 := hf 14 _
          refine rp_cp c3 (by rw [g.1]) (fun j hj => g.2.2 j (by omega))
theorem lx_wmh {B : pm_H} {g : pm_G} {h : Nat} {mq : Nat → Nat} {mv : Nat → Int32} {mf : Nat → Nat → Int32} (_ : md_D h mq) (hf : md_F mf) {x1 x2 : Int32} {r : Option Value} {A9 : pm_H} (h9 : ((0 ≤ x1.toInt ∧ x1.toInt ≤ 23 ∧ 0 ≤ x2.toInt ∧ x2.toInt ≤ 999) ∧ r = some (.int (mf 2 x1.toInt.toNat)) ∧ A9 = md B g h mq mv (va_up mf 2 (upd (mf 2) x1.toInt.toNat x2))) ∨ (¬ (0 ≤ x1.toInt ∧ x1.toInt ≤ 23 ∧ 0 ≤ x2.toInt ∧ x2.toInt ≤ 999) ∧ r = some (.int (-1)) ∧ A9 = md B g h mq mv mf)) : ∃ (mf2 : Nat → Nat → Int32) (y : Int32), r = some (.int y) ∧ A9 = md B g h mq mv mf2 ∧ md_F mf2 ∧ (mf2 0 = mf 0 ∧ mf2 1 = mf 1 ∧ mf2 12 = mf 12 ∧ mf2 13 = mf 13 ∧ mf2 14 = mf 14) ∧ mf2 2 = wq x1 x2 (mf 2) := by
  rcases h9 with ⟨hr, h1, h2⟩ | ⟨hr, h1, h2⟩
  · exact ⟨_, _, h1, h2, md_F_st hf 2 _ _ (md_rng _ _ (by decide)), ⟨va_un (by decide), va_un (by decide), va_un (by decide), va_un (by decide), va_un (by decide)⟩, by rw [va_us, wq, if_pos hr]⟩
  · exact ⟨mf, _, h1, h2, hf, ⟨rfl, rfl, rfl, rfl, rfl⟩, by rw [wq, if_neg hr]⟩
end
section
theorem SNC_h {w : Nat → Int32} {e : Nat → Nat → Int32} {mf : Nat → Nat → Int32} {E2 r s : Int} {x : Int32} {n n2 : Int32} {c m d k : Nat → Int32} {M : List pl_P} (hM : nm0 M) (h1 : rp n c m M) (h2 : rp n2 d k M) (hH : HX w e mf (w 0).toInt) (hE : (w 0).toInt = E2) (a : SNC (w 0).toInt c m n.toInt (PCn w e x) x r) (b : (x.toInt < 0 ∧ s = -1) ∨ (0 ≤ x.toInt ∧ SNC E2 d k n2.toInt (PRn mf E2 x) x s)) : r = s := by
  have e0 : n.toInt = n2.toInt := h1.1.trans h2.1.symm
  have hl := h1.1
  have hc : ∀ j : Nat, (j : Int) < n.toInt → c j = d j := lx_c h1 h2
  have hm : ∀ j : Nat, (j : Int) < n.toInt → m j = k j := lx_m h1 h2
  have e1 : nextEq m x 0 n.toInt.toNat = nextEq k x 0 n2.toInt.toNat := by
    rw [← e0]
    exact nextEq_eq _ _ (fun j hj => hm j (by omega))
  have q := nextEq_lt m x 0 n.toInt.toNat
  subst hE
  rcases b with ⟨b1, b2⟩ | ⟨b1, b2⟩
  · rcases a with ⟨a1, a2⟩ | ⟨a1, _⟩
    · omega
    · exfalso
      have a3 := nextEq_is (c := m) (x := x) n.toInt.toNat 0 a1
      have hj : (nextEq m x 0 n.toInt.toNat).toNat < M.length := by omega
      have h4 := hM _ (List.getElem_mem hj)
      rw [← (h1.2 _ hj).2, a3] at h4
      omega
  · rcases a with ⟨a1, a2⟩ | ⟨a1, a2⟩
    · rcases b2 with ⟨c1, c2⟩ | ⟨c1, _⟩
      · omega
      · omega
    · rcases b2 with ⟨c1, _⟩ | ⟨c1, c2⟩
      · omega
      · have e2 : bo c m (nextEq m x 0 n.toInt.toNat) = bo d k (nextEq k x 0 n2.toInt.toNat) := by
          rw [← e1]
          exact bo_eq (fun j hj => hc j (by omega)) (fun j hj => hm j (by omega)) a1
        rw [e2] at a2
        refine SNP_u (fun i i1 i2 => ?_) a2 c2
        constructor
        · rintro ⟨k1, k2⟩
          obtain ⟨L, l1, _, l3⟩ := hH i (40 + 4 * (i % 41)).toNat k1 (by omega)
          exact ⟨k1, HBn_eq l1 l3 (k2 _ (by omega))⟩
        · rintro ⟨k1, k2⟩
          refine ⟨k1, fun o9 h9 => ?_⟩
          obtain ⟨L, l1, _, l3⟩ := hH i o9 k1 h9
          exact HBn_eq l3 l1 k2
end
section
section
variable {l : Launch} {g : pm_G} {b L : Nat} {xs : Nat → Int32} {J : pm_J} {xo h : Nat}
set_option maxRecDepth 100000 in
set_option maxHeartbeats 2000000 in
theorem lx_b2 (hC : pm_Cl l g (lw_ro b L xs) 7 600000 7302250 lw_Rt bk_L_law J) {i : Int32} (hi : 0 ≤ i.toInt ∧ i.toInt + 6 ≤ L) (hL : L ≤ 3072) {E : Nat} (hE : E < 1000) {A : pm_H} {c s : Nat} (hA : LX g xo h E A) (hc : c + 4 ≤ 600000) (hs0 : s + 485 ≤ 7302250) (cont : ∀ (A' : pm_H) (c' s' : Nat), LX g xo h (E + 1) A' → c' ≤ c + 4 → s' ≤ s + 485 → J 2563 [some (.ref b), some (.ref xo), some (.ref h), some (.int i)] [] A' c' s') : J 308 [some (.ref b), some (.ref xo), some (.ref h), some (.int i)] [] A c s := by
  obtain ⟨A00, K, nn, dn, q, w, e, v, f, mq, mv, mf, M, rfl, rfl, hI, hS, D, hv, hf, dj, hw, hE1, hE2, hR1, hR2, hg, he0, hN, hM, hB, hH⟩ := hA
  have hu9 := hI.2.1
  unfold cw_W at hu9
  have hro : lw_ro b L xs b = some (L, xs) := if_pos rfl
  refine hC.1 2 308 _ _ rfl _ _ _ _ _ ?_
  refine pq_aload_n1 (pq_aload_n0 (pq_iload_n3 (pq_iconst (pq_iadd ?_))))
  intro m1 em1
  have e1 : m1.toInt = i.toInt + 1 := by rw [em1]; exact pm_addc _ _ 1 rfl (by omega) (by omega)
  refine pq_iaload ?_
  refine Exists.intro _ (Exists.intro _ (And.intro (Or.inr hro) (And.intro (by omega) ?_)))
  obtain ⟨a1, ha1⟩ : ∃ z9, z9 = xs m1.toInt.toNat := ⟨_, rfl⟩
  have m_a1 := em1
  rw [← ha1]
  refine pq_aload_n0 (pq_iload_n3 (pq_iconst (pq_iadd ?_)))
  intro m2 em2
  have e2 : m2.toInt = i.toInt + 2 := by rw [em2]; exact pm_addc _ _ 2 rfl (by omega) (by omega)
  refine pq_iaload ?_
  refine Exists.intro _ (Exists.intro _ (And.intro (Or.inr hro) (And.intro (by omega) ?_)))
  obtain ⟨a2, ha2⟩ : ∃ z9, z9 = xs m2.toInt.toNat := ⟨_, rfl⟩
  have m_a2 := em2
  rw [← ha2]
  refine pq_iv2_10 ?_
  refine And.intro (Exists.intro _ (cw_o0 hI.1)) (Exists.intro _ (Exists.intro _ (Exists.intro _ (Exists.intro _ (And.intro (Z_X10_put hI hS a1 a2 (by omega)) (And.intro (lw_bnd rfl (by omega) (by omega) rfl) (fun r9 A9 h9 => ?_)))))))
  obtain ⟨K319, nn319, dn319, q319, w319, e319, v319, f319, rfl, hI319, hS319, hX319, hy319, y319, rfl, by319⟩ := h9
  have dj319 := lw_dj D dj hX319
  have fc9 := by319.2.1 M hR1 hN
  refine pq_id1 (pq_pop (pq_aload_n2 (pq_aload_n0 (pq_iload_n3 (pq_iconst (pq_iadd ?_))))))
  intro m3 em3
  have e3 : m3.toInt = i.toInt + 1 := by rw [em3]; exact pm_addc _ _ 1 rfl (by omega) (by omega)
  refine pq_iaload ?_
  refine Exists.intro _ (Exists.intro _ (And.intro (Or.inr hro) (And.intro (by omega) ?_)))
  have ha1_3 : a1 = xs m3.toInt.toNat := by rw [ha1, em3, ← m_a1]
  rw [← ha1_3]
  refine pq_aload_n0 (pq_iload_n3 (pq_iconst (pq_iadd ?_)))
  intro m4 em4
  have e4 : m4.toInt = i.toInt + 2 := by rw [em4]; exact pm_addc _ _ 2 rfl (by omega) (by omega)
  refine pq_iaload ?_
  refine Exists.intro _ (Exists.intro _ (And.intro (Or.inr hro) (And.intro (by omega) ?_)))
  have ha2_4 : a2 = xs m4.toInt.toNat := by rw [ha2, em4, ← m_a2]
  rw [← ha2_4]
  refine pq_iv2_11 ?_
  rw [cw_md D dj319]
  refine And.intro (Exists.intro _ (md_o)) (Exists.intro _ (Exists.intro _ (Exists.intro _ (Exists.intro _ (And.intro (Y_X11_put D mv mf hv hf a1 a2 (by omega)) (And.intro (lw_bnd rfl (by omega) (by omega) rfl) (fun r9 A9 h9 => ?_)))))))
  obtain ⟨y334, mv334, mf334, rfl, rfl, hv334, hf334, hx334, by334⟩ := h9
  have fm9 := by334.2.1 M hR2
  refine pq_id1 (pq_pop (pq_goto ?_))
  exact cont _ _ _ ⟨A00, K319, nn319, dn319, q319, w319, e319, v319, f319, mq, mv334, mf334, _, (cw_md D dj319).symm, (hX319.2.1 0 (by omega)), hI319, hS319, D, hv334, hf334, dj319, fun j hj => by rw [hy319, hx334]; exact hw j hj, by omega, by omega, fc9.1, fm9.1, (pm_eqI (by rw [fc9.2.2.1, fm9.2.2, hg])), (by rw [fc9.2.1, fm9.2.1, he0]), fc9.2.2.2.1, (nm_paint hM), (fc9.2.2.2.2 hB), (HX_ed hf hH hu9.2.2.2.1.1 hu9.2.2.2.2.1 by319.2.2 by334.2.2 he0 (by rw [fc9.2.1, fm9.2.1, he0]) fc9.2.2.2.1 fc9.1 fm9.1 (fc9.2.2.2.2 hB))⟩ (by omega) (by omega)

set_option maxRecDepth 100000 in
set_option maxHeartbeats 2000000 in
theorem lx_b3 (hC : pm_Cl l g (lw_ro b L xs) 7 600000 7302250 lw_Rt bk_L_law J) {i : Int32} (hi : 0 ≤ i.toInt ∧ i.toInt + 6 ≤ L) (hL : L ≤ 3072) {E : Nat} (hE : E < 1000) {A : pm_H} {c s : Nat} (hA : LX g xo h E A) (hc : c + 4 ≤ 600000) (hs0 : s + 485 ≤ 7302250) (cont : ∀ (A' : pm_H) (c' s' : Nat), LX g xo h (E + 1) A' → c' ≤ c + 4 → s' ≤ s + 485 → J 2563 [some (.ref b), some (.ref xo), some (.ref h), some (.int i)] [] A' c' s') : J 341 [some (.ref b), some (.ref xo), some (.ref h), some (.int i)] [] A c s := by
  obtain ⟨A00, K, nn, dn, q, w, e, v, f, mq, mv, mf, M, rfl, rfl, hI, hS, D, hv, hf, dj, hw, hE1, hE2, hR1, hR2, hg, he0, hN, hM, hB, hH⟩ := hA
  have hu9 := hI.2.1
  unfold cw_W at hu9
  have hro : lw_ro b L xs b = some (L, xs) := if_pos rfl
  refine hC.1 3 341 _ _ rfl _ _ _ _ _ ?_
  refine pq_aload_n1 (pq_aload_n0 (pq_iload_n3 (pq_iconst (pq_iadd ?_))))
  intro m1 em1
  have e1 : m1.toInt = i.toInt + 1 := by rw [em1]; exact pm_addc _ _ 1 rfl (by omega) (by omega)
  refine pq_iaload ?_
  refine Exists.intro _ (Exists.intro _ (And.intro (Or.inr hro) (And.intro (by omega) ?_)))
  obtain ⟨a1, ha1⟩ : ∃ z9, z9 = xs m1.toInt.toNat := ⟨_, rfl⟩
  have m_a1 := em1
  rw [← ha1]
  refine pq_aload_n0 (pq_iload_n3 (pq_iconst (pq_iadd ?_)))
  intro m2 em2
  have e2 : m2.toInt = i.toInt + 2 := by rw [em2]; exact pm_addc _ _ 2 rfl (by omega) (by omega)
  refine pq_iaload ?_
  refine Exists.intro _ (Exists.intro _ (And.intro (Or.inr hro) (And.intro (by omega) ?_)))
  obtain ⟨a2, ha2⟩ : ∃ z9, z9 = xs m2.toInt.toNat := ⟨_, rfl⟩
  have m_a2 := em2
  rw [← ha2]
  refine pq_iv2_10 ?_
  refine And.intro (Exists.intro _ (cw_o0 hI.1)) (Exists.intro _ (Exists.intro _ (Exists.intro _ (Exists.intro _ (And.intro (Z_X10_insert hI hS a1 a2 (by omega)) (And.intro (lw_bnd rfl (by omega) (by omega) rfl) (fun r9 A9 h9 => ?_)))))))
  obtain ⟨K352, nn352, dn352, q352, w352, e352, v352, f352, rfl, hI352, hS352, hX352, hy352, y352, rfl, by352⟩ := h9
  have dj352 := lw_dj D dj hX352
  have fc9 := by352.2.1 M hR1 hN
  refine pq_id1 (pq_pop (pq_aload_n2 (pq_aload_n0 (pq_iload_n3 (pq_iconst (pq_iadd ?_))))))
  intro m3 em3
  have e3 : m3.toInt = i.toInt + 1 := by rw [em3]; exact pm_addc _ _ 1 rfl (by omega) (by omega)
  refine pq_iaload ?_
  refine Exists.intro _ (Exists.intro _ (And.intro (Or.inr hro) (And.intro (by omega) ?_)))
  have ha1_3 : a1 = xs m3.toInt.toNat := by rw [ha1, em3, ← m_a1]
  rw [← ha1_3]
  refine pq_aload_n0 (pq_iload_n3 (pq_iconst (pq_iadd ?_)))
  intro m4 em4
  have e4 : m4.toInt = i.toInt + 2 := by rw [em4]; exact pm_addc _ _ 2 rfl (by omega) (by omega)
  refine pq_iaload ?_
  refine Exists.intro _ (Exists.intro _ (And.intro (Or.inr hro) (And.intro (by omega) ?_)))
  have ha2_4 : a2 = xs m4.toInt.toNat := by rw [ha2, em4, ← m_a2]
  rw [← ha2_4]
  refine pq_iv2_11 ?_
  rw [cw_md D dj352]
  refine And.intro (Exists.intro _ (md_o)) (Exists.intro _ (Exists.intro _ (Exists.intro _ (Exists.intro _ (And.intro (Y_X11_insert D mv mf hv hf a1 a2 (by omega)) (And.intro (lw_bnd rfl (by omega) (by omega) rfl) (fun r9 A9 h9 => ?_)))))))
  obtain ⟨y367, mv367, mf367, rfl, rfl, hv367, hf367, hx367, by367⟩ := h9
  have fm9 := by367.2.1 M hR2
  rw [← hg] at fm9
  refine pq_id1 (pq_pop (pq_goto ?_))
  exact cont _ _ _ ⟨A00, K352, nn352, dn352, q352, w352, e352, v352, f352, mq, mv367, mf367, _, (cw_md D dj352).symm, (hX352.2.1 0 (by omega)), hI352, hS352, D, hv367, hf367, dj352, fun j hj => by rw [hy352, hx367]; exact hw j hj, by omega, by omega, fc9.1, fm9.1, (pm_eqI (by rw [fc9.2.2.1, fm9.2.2, hg])), (by rw [fc9.2.1, fm9.2.1, he0]), fc9.2.2.2.1, (nm_insert hM (by omega)), (fc9.2.2.2.2 hB), (HX_ed hf hH hu9.2.2.2.1.1 hu9.2.2.2.2.1 by352.2.2 by367.2.2 he0 (by rw [fc9.2.1, fm9.2.1, he0]) fc9.2.2.2.1 fc9.1 fm9.1 (fc9.2.2.2.2 hB))⟩ (by omega) (by omega)

set_option maxRecDepth 100000 in
set_option maxHeartbeats 2000000 in
theorem lx_b4 (hC : pm_Cl l g (lw_ro b L xs) 7 600000 7302250 lw_Rt bk_L_law J) {i : Int32} (hi : 0 ≤ i.toInt ∧ i.toInt + 6 ≤ L) (hL : L ≤ 3072) {E : Nat} (hE : E < 1000) {A : pm_H} {c s : Nat} (hA : LX g xo h E A) (hc : c + 4 ≤ 600000) (hs0 : s + 485 ≤ 7302250) (cont : ∀ (A' : pm_H) (c' s' : Nat), LX g xo h (E + 1) A' → c' ≤ c + 4 → s' ≤ s + 485 → J 2563 [some (.ref b), some (.ref xo), some (.ref h), some (.int i)] [] A' c' s') : J 374 [some (.ref b), some (.ref xo), some (.ref h), some (.int i)] [] A c s := by
  obtain ⟨A00, K, nn, dn, q, w, e, v, f, mq, mv, mf, M, rfl, rfl, hI, hS, D, hv, hf, dj, hw, hE1, hE2, hR1, hR2, hg, he0, hN, hM, hB, hH⟩ := hA
  have hu9 := hI.2.1
  unfold cw_W at hu9
  have hro : lw_ro b L xs b = some (L, xs) := if_pos rfl
  refine hC.1 4 374 _ _ rfl _ _ _ _ _ ?_
  refine pq_aload_n1 (pq_aload_n0 (pq_iload_n3 (pq_iconst (pq_iadd ?_))))
  intro m1 em1
  have e1 : m1.toInt = i.toInt + 1 := by rw [em1]; exact pm_addc _ _ 1 rfl (by omega) (by omega)
  refine pq_iaload ?_
  refine Exists.intro _ (Exists.intro _ (And.intro (Or.inr hro) (And.intro (by omega) ?_)))
  obtain ⟨a1, ha1⟩ : ∃ z9, z9 = xs m1.toInt.toNat := ⟨_, rfl⟩
  have m_a1 := em1
  rw [← ha1]
  refine pq_aload_n0 (pq_iload_n3 (pq_iconst (pq_iadd ?_)))
  intro m2 em2
  have e2 : m2.toInt = i.toInt + 2 := by rw [em2]; exact pm_addc _ _ 2 rfl (by omega) (by omega)
  refine pq_iaload ?_
  refine Exists.intro _ (Exists.intro _ (And.intro (Or.inr hro) (And.intro (by omega) ?_)))
  obtain ⟨a2, ha2⟩ : ∃ z9, z9 = xs m2.toInt.toNat := ⟨_, rfl⟩
  have m_a2 := em2
  rw [← ha2]
  refine pq_iv2_10 ?_
  refine And.intro (Exists.intro _ (cw_o0 hI.1)) (Exists.intro _ (Exists.intro _ (Exists.intro _ (Exists.intro _ (And.intro (Z_X10_cut hI hS a1 a2 (by omega)) (And.intro (lw_bnd rfl (by omega) (by omega) rfl) (fun r9 A9 h9 => ?_)))))))
  obtain ⟨K385, nn385, dn385, q385, w385, e385, v385, f385, rfl, hI385, hS385, hX385, hy385, y385, rfl, by385⟩ := h9
  have dj385 := lw_dj D dj hX385
  have fc9 := by385.2.1 M hR1 hN
  refine pq_id1 (pq_pop (pq_aload_n2 (pq_aload_n0 (pq_iload_n3 (pq_iconst (pq_iadd ?_))))))
  intro m3 em3
  have e3 : m3.toInt = i.toInt + 1 := by rw [em3]; exact pm_addc _ _ 1 rfl (by omega) (by omega)
  refine pq_iaload ?_
  refine Exists.intro _ (Exists.intro _ (And.intro (Or.inr hro) (And.intro (by omega) ?_)))
  have ha1_3 : a1 = xs m3.toInt.toNat := by rw [ha1, em3, ← m_a1]
  rw [← ha1_3]
  refine pq_aload_n0 (pq_iload_n3 (pq_iconst (pq_iadd ?_)))
  intro m4 em4
  have e4 : m4.toInt = i.toInt + 2 := by rw [em4]; exact pm_addc _ _ 2 rfl (by omega) (by omega)
  refine pq_iaload ?_
  refine Exists.intro _ (Exists.intro _ (And.intro (Or.inr hro) (And.intro (by omega) ?_)))
  have ha2_4 : a2 = xs m4.toInt.toNat := by rw [ha2, em4, ← m_a2]
  rw [← ha2_4]
  refine pq_iv2_11 ?_
  rw [cw_md D dj385]
  refine And.intro (Exists.intro _ (md_o)) (Exists.intro _ (Exists.intro _ (Exists.intro _ (Exists.intro _ (And.intro (Y_X11_cut D mv mf hv hf a1 a2 (by omega)) (And.intro (lw_bnd rfl (by omega) (by omega) rfl) (fun r9 A9 h9 => ?_)))))))
  obtain ⟨y400, mv400, mf400, rfl, rfl, hv400, hf400, hx400, by400⟩ := h9
  have fm9 := by400.2.1 M hR2
  refine pq_id1 (pq_pop (pq_goto ?_))
  exact cont _ _ _ ⟨A00, K385, nn385, dn385, q385, w385, e385, v385, f385, mq, mv400, mf400, _, (cw_md D dj385).symm, (hX385.2.1 0 (by omega)), hI385, hS385, D, hv400, hf400, dj385, fun j hj => by rw [hy385, hx400]; exact hw j hj, by omega, by omega, fc9.1, fm9.1, (pm_eqI (by rw [fc9.2.2.1, fm9.2.2, hg])), (by rw [fc9.2.1, fm9.2.1, he0]), fc9.2.2.2.1, (nm_cut hM), (fc9.2.2.2.2 hB), (HX_ed hf hH hu9.2.2.2.1.1 hu9.2.2.2.2.1 by385.2.2 by400.2.2 he0 (by rw [fc9.2.1, fm9.2.1, he0]) fc9.2.2.2.1 fc9.1 fm9.1 (fc9.2.2.2.2 hB))⟩ (by omega) (by omega)

set_option maxRecDepth 100000 in
set_option maxHeartbeats 2000000 in
theorem lx_b5 (hC : pm_Cl l g (lw_ro b L xs) 7 600000 7302250 lw_Rt bk_L_law J) {i : Int32} (hi : 0 ≤ i.toInt ∧ i.toInt + 6 ≤ L) (hL : L ≤ 3072) {E : Nat} (hE : E < 1000) {A : pm_H} {c s : Nat} (hA : LX g xo h E A) (hc : c + 4 ≤ 600000) (hs0 : s + 485 ≤ 7302250) (cont : ∀ (A' : pm_H) (c' s' : Nat), LX g xo h (E + 1) A' → c' ≤ c + 4 → s' ≤ s + 485 → J 2563 [some (.ref b), some (.ref xo), some (.ref h), some (.int i)] [] A' c' s') : J 407 [some (.ref b), some (.ref xo), some (.ref h), some (.int i)] [] A c s := by
  obtain ⟨A00, K, nn, dn, q, w, e, v, f, mq, mv, mf, M, rfl, rfl, hI, hS, D, hv, hf, dj, hw, hE1, hE2, hR1, hR2, hg, he0, hN, hM, hB, hH⟩ := hA
  have hu9 := hI.2.1
  unfold cw_W at hu9
  have hro : lw_ro b L xs b = some (L, xs) := if_pos rfl
  refine hC.1 5 407 _ _ rfl _ _ _ _ _ ?_
  refine pq_aload_n1 (pq_aload_n0 (pq_iload_n3 (pq_iconst (pq_iadd ?_))))
  intro m1 em1
  have e1 : m1.toInt = i.toInt + 1 := by rw [em1]; exact pm_addc _ _ 1 rfl (by omega) (by omega)
  refine pq_iaload ?_
  refine Exists.intro _ (Exists.intro _ (And.intro (Or.inr hro) (And.intro (by omega) ?_)))
  obtain ⟨a1, ha1⟩ : ∃ z9, z9 = xs m1.toInt.toNat := ⟨_, rfl⟩
  have m_a1 := em1
  rw [← ha1]
  refine pq_aload_n0 (pq_iload_n3 (pq_iconst (pq_iadd ?_)))
  intro m2 em2
  have e2 : m2.toInt = i.toInt + 2 := by rw [em2]; exact pm_addc _ _ 2 rfl (by omega) (by omega)
  refine pq_iaload ?_
  refine Exists.intro _ (Exists.intro _ (And.intro (Or.inr hro) (And.intro (by omega) ?_)))
  obtain ⟨a2, ha2⟩ : ∃ z9, z9 = xs m2.toInt.toNat := ⟨_, rfl⟩
  have m_a2 := em2
  rw [← ha2]
  refine pq_aload_n0 (pq_iload_n3 (pq_iconst (pq_iadd ?_)))
  intro m3 em3
  have e3 : m3.toInt = i.toInt + 3 := by rw [em3]; exact pm_addc _ _ 3 rfl (by omega) (by omega)
  refine pq_iaload ?_
  refine Exists.intro _ (Exists.intro _ (And.intro (Or.inr hro) (And.intro (by omega) ?_)))
  obtain ⟨a3, ha3⟩ : ∃ z9, z9 = xs m3.toInt.toNat := ⟨_, rfl⟩
  have m_a3 := em3
  rw [← ha3]
  refine pq_iv3_10 ?_
  refine And.intro (Exists.intro _ (cw_o0 hI.1)) (Exists.intro _ (Exists.intro _ (Exists.intro _ (Exists.intro _ (And.intro (Z_X10_paint hI hS a1 a2 a3 (by omega)) (And.intro (lw_bnd rfl (by omega) (by omega) rfl) (fun r9 A9 h9 => ?_)))))))
  obtain ⟨K423, nn423, dn423, q423, w423, e423, v423, f423, rfl, hI423, hS423, hX423, hy423, y423, rfl, by423⟩ := h9
  have dj423 := lw_dj D dj hX423
  have fc9 := by423.2.1 M hR1 hN
  refine pq_id1 (pq_pop (pq_aload_n2 (pq_aload_n0 (pq_iload_n3 (pq_iconst (pq_iadd ?_))))))
  intro m4 em4
  have e4 : m4.toInt = i.toInt + 1 := by rw [em4]; exact pm_addc _ _ 1 rfl (by omega) (by omega)
  refine pq_iaload ?_
  refine Exists.intro _ (Exists.intro _ (And.intro (Or.inr hro) (And.intro (by omega) ?_)))
  have ha1_4 : a1 = xs m4.toInt.toNat := by rw [ha1, em4, ← m_a1]
  rw [← ha1_4]
  refine pq_aload_n0 (pq_iload_n3 (pq_iconst (pq_iadd ?_)))
  intro m5 em5
  have e5 : m5.toInt = i.toInt + 2 := by rw [em5]; exact pm_addc _ _ 2 rfl (by omega) (by omega)
  refine pq_iaload ?_
  refine Exists.intro _ (Exists.intro _ (And.intro (Or.inr hro) (And.intro (by omega) ?_)))
  have ha2_5 : a2 = xs m5.toInt.toNat := by rw [ha2, em5, ← m_a2]
  rw [← ha2_5]
  refine pq_aload_n0 (pq_iload_n3 (pq_iconst (pq_iadd ?_)))
  intro m6 em6
  have e6 : m6.toInt = i.toInt + 3 := by rw [em6]; exact pm_addc _ _ 3 rfl (by omega) (by omega)
  refine pq_iaload ?_
  refine Exists.intro _ (Exists.intro _ (And.intro (Or.inr hro) (And.intro (by omega) ?_)))
  have ha3_6 : a3 = xs m6.toInt.toNat := by rw [ha3, em6, ← m_a3]
  rw [← ha3_6]
  refine pq_iv3_11 ?_
  rw [cw_md D dj423]
  refine And.intro (Exists.intro _ (md_o)) (Exists.intro _ (Exists.intro _ (Exists.intro _ (Exists.intro _ (And.intro (Y_X11_paint D mv mf hv hf a1 a2 a3 (by omega)) (And.intro (lw_bnd rfl (by omega) (by omega) rfl) (fun r9 A9 h9 => ?_)))))))
  obtain ⟨y443, mv443, mf443, rfl, rfl, hv443, hf443, hx443, by443⟩ := h9
  have fm9 := by443.2.1 M hR2
  refine pq_id1 (pq_pop (pq_goto ?_))
  exact cont _ _ _ ⟨A00, K423, nn423, dn423, q423, w423, e423, v423, f423, mq, mv443, mf443, _, (cw_md D dj423).symm, (hX423.2.1 0 (by omega)), hI423, hS423, D, hv443, hf443, dj423, fun j hj => by rw [hy423, hx443]; exact hw j hj, by omega, by omega, fc9.1, fm9.1, (pm_eqI (by rw [fc9.2.2.1, fm9.2.2, hg])), (by rw [fc9.2.1, fm9.2.1, he0]), fc9.2.2.2.1, (nm_paint hM), (fc9.2.2.2.2 hB), (HX_ed hf hH hu9.2.2.2.1.1 hu9.2.2.2.2.1 by423.2.2 by443.2.2 he0 (by rw [fc9.2.1, fm9.2.1, he0]) fc9.2.2.2.1 fc9.1 fm9.1 (fc9.2.2.2.2 hB))⟩ (by omega) (by omega)

set_option maxRecDepth 100000 in
set_option maxHeartbeats 2000000 in
theorem lx_b6 (hC : pm_Cl l g (lw_ro b L xs) 7 600000 7302250 lw_Rt bk_L_law J) {i : Int32} (hi : 0 ≤ i.toInt ∧ i.toInt + 6 ≤ L) (hL : L ≤ 3072) {E : Nat} (hE : E < 1000) {A : pm_H} {c s : Nat} (hA : LX g xo h E A) (hc : c + 4 ≤ 600000) (hs0 : s + 485 ≤ 7302250) (cont : ∀ (A' : pm_H) (c' s' : Nat), LX g xo h (E + 1) A' → c' ≤ c + 4 → s' ≤ s + 485 → J 2563 [some (.ref b), some (.ref xo), some (.ref h), some (.int i)] [] A' c' s') : J 450 [some (.ref b), some (.ref xo), some (.ref h), some (.int i)] [] A c s := by
  obtain ⟨A00, K, nn, dn, q, w, e, v, f, mq, mv, mf, M, rfl, rfl, hI, hS, D, hv, hf, dj, hw, hE1, hE2, hR1, hR2, hg, he0, hN, hM, hB, hH⟩ := hA
  have hu9 := hI.2.1
  unfold cw_W at hu9
  have hro : lw_ro b L xs b = some (L, xs) := if_pos rfl
  refine hC.1 6 450 _ _ rfl _ _ _ _ _ ?_
  refine pq_aload_n1 (pq_aload_n0 (pq_iload_n3 (pq_iconst (pq_iadd ?_))))
  intro m1 em1
  have e1 : m1.toInt = i.toInt + 1 := by rw [em1]; exact pm_addc _ _ 1 rfl (by omega) (by omega)
  refine pq_iaload ?_
  refine Exists.intro _ (Exists.intro _ (And.intro (Or.inr hro) (And.intro (by omega) ?_)))
  obtain ⟨a1, ha1⟩ : ∃ z9, z9 = xs m1.toInt.toNat := ⟨_, rfl⟩
  have m_a1 := em1
  rw [← ha1]
  refine pq_aload_n0 (pq_iload_n3 (pq_iconst (pq_iadd ?_)))
  intro m2 em2
  have e2 : m2.toInt = i.toInt + 2 := by rw [em2]; exact pm_addc _ _ 2 rfl (by omega) (by omega)
  refine pq_iaload ?_
  refine Exists.intro _ (Exists.intro _ (And.intro (Or.inr hro) (And.intro (by omega) ?_)))
  obtain ⟨a2, ha2⟩ : ∃ z9, z9 = xs m2.toInt.toNat := ⟨_, rfl⟩
  have m_a2 := em2
  rw [← ha2]
  refine pq_iv2_10 ?_
  refine And.intro (Exists.intro _ (cw_o0 hI.1)) (Exists.intro _ (Exists.intro _ (Exists.intro _ (Exists.intro _ (And.intro (Z_X10_turn hI hS a1 a2 (by omega)) (And.intro (lw_bnd rfl (by omega) (by omega) rfl) (fun r9 A9 h9 => ?_)))))))
  obtain ⟨K461, nn461, dn461, q461, w461, e461, v461, f461, rfl, hI461, hS461, hX461, hy461, y461, rfl, by461⟩ := h9
  have dj461 := lw_dj D dj hX461
  have fc9 := by461.2.1 M hR1 hN
  refine pq_id1 (pq_pop (pq_aload_n2 (pq_aload_n0 (pq_iload_n3 (pq_iconst (pq_iadd ?_))))))
  intro m3 em3
  have e3 : m3.toInt = i.toInt + 1 := by rw [em3]; exact pm_addc _ _ 1 rfl (by omega) (by omega)
  refine pq_iaload ?_
  refine Exists.intro _ (Exists.intro _ (And.intro (Or.inr hro) (And.intro (by omega) ?_)))
  have ha1_3 : a1 = xs m3.toInt.toNat := by rw [ha1, em3, ← m_a1]
  rw [← ha1_3]
  refine pq_aload_n0 (pq_iload_n3 (pq_iconst (pq_iadd ?_)))
  intro m4 em4
  have e4 : m4.toInt = i.toInt + 2 := by rw [em4]; exact pm_addc _ _ 2 rfl (by omega) (by omega)
  refine pq_iaload ?_
  refine Exists.intro _ (Exists.intro _ (And.intro (Or.inr hro) (And.intro (by omega) ?_)))
  have ha2_4 : a2 = xs m4.toInt.toNat := by rw [ha2, em4, ← m_a2]
  rw [← ha2_4]
  refine pq_iv2_11 ?_
  rw [cw_md D dj461]
  refine And.intro (Exists.intro _ (md_o)) (Exists.intro _ (Exists.intro _ (Exists.intro _ (Exists.intro _ (And.intro (Y_X11_turn D mv mf hv hf a1 a2 (by omega)) (And.intro (lw_bnd rfl (by omega) (by omega) rfl) (fun r9 A9 h9 => ?_)))))))
  obtain ⟨y476, mv476, mf476, rfl, rfl, hv476, hf476, hx476, by476⟩ := h9
  have fm9 := by476.2.1 M hR2
  refine pq_id1 (pq_pop (pq_goto ?_))
  exact cont _ _ _ ⟨A00, K461, nn461, dn461, q461, w461, e461, v461, f461, mq, mv476, mf476, _, (cw_md D dj461).symm, (hX461.2.1 0 (by omega)), hI461, hS461, D, hv476, hf476, dj461, fun j hj => by rw [hy461, hx476]; exact hw j hj, by omega, by omega, fc9.1, fm9.1, (pm_eqI (by rw [fc9.2.2.1, fm9.2.2, hg])), (by rw [fc9.2.1, fm9.2.1, he0]), fc9.2.2.2.1, (nm_turn hM), (fc9.2.2.2.2 hB), (HX_ed hf hH hu9.2.2.2.1.1 hu9.2.2.2.2.1 by461.2.2 by476.2.2 he0 (by rw [fc9.2.1, fm9.2.1, he0]) fc9.2.2.2.1 fc9.1 fm9.1 (fc9.2.2.2.2 hB))⟩ (by omega) (by omega)

set_option maxRecDepth 100000 in
set_option maxHeartbeats 2000000 in
theorem lx_b7 (hC : pm_Cl l g (lw_ro b L xs) 7 600000 7302250 lw_Rt bk_L_law J) {i : Int32} (hi : 0 ≤ i.toInt ∧ i.toInt + 6 ≤ L) (hL : L ≤ 3072) {E : Nat} (hE : E < 1000) {A : pm_H} {c s : Nat} (hA : LX g xo h E A) (hc : c + 4 ≤ 600000) (hs0 : s + 485 ≤ 7302250) (cont : ∀ (A' : pm_H) (c' s' : Nat), LX g xo h (E + 1) A' → c' ≤ c + 4 → s' ≤ s + 485 → J 2563 [some (.ref b), some (.ref xo), some (.ref h), some (.int i)] [] A' c' s') : J 483 [some (.ref b), some (.ref xo), some (.ref h), some (.int i)] [] A c s := by
  obtain ⟨A00, K, nn, dn, q, w, e, v, f, mq, mv, mf, M, rfl, rfl, hI, hS, D, hv, hf, dj, hw, hE1, hE2, hR1, hR2, hg, he0, hN, hM, hB, hH⟩ := hA
  have hu9 := hI.2.1
  unfold cw_W at hu9
  have hro : lw_ro b L xs b = some (L, xs) := if_pos rfl
  refine hC.1 7 483 _ _ rfl _ _ _ _ _ ?_
  refine pq_aload_n1 (pq_aload_n0 (pq_iload_n3 (pq_iconst (pq_iadd ?_))))
  intro m1 em1
  have e1 : m1.toInt = i.toInt + 1 := by rw [em1]; exact pm_addc _ _ 1 rfl (by omega) (by omega)
  refine pq_iaload ?_
  refine Exists.intro _ (Exists.intro _ (And.intro (Or.inr hro) (And.intro (by omega) ?_)))
  obtain ⟨a1, ha1⟩ : ∃ z9, z9 = xs m1.toInt.toNat := ⟨_, rfl⟩
  have m_a1 := em1
  rw [← ha1]
  refine pq_aload_n0 (pq_iload_n3 (pq_iconst (pq_iadd ?_)))
  intro m2 em2
  have e2 : m2.toInt = i.toInt + 2 := by rw [em2]; exact pm_addc _ _ 2 rfl (by omega) (by omega)
  refine pq_iaload ?_
  refine Exists.intro _ (Exists.intro _ (And.intro (Or.inr hro) (And.intro (by omega) ?_)))
  obtain ⟨a2, ha2⟩ : ∃ z9, z9 = xs m2.toInt.toNat := ⟨_, rfl⟩
  have m_a2 := em2
  rw [← ha2]
  refine pq_aload_n0 (pq_iload_n3 (pq_iconst (pq_iadd ?_)))
  intro m3 em3
  have e3 : m3.toInt = i.toInt + 3 := by rw [em3]; exact pm_addc _ _ 3 rfl (by omega) (by omega)
  refine pq_iaload ?_
  refine Exists.intro _ (Exists.intro _ (And.intro (Or.inr hro) (And.intro (by omega) ?_)))
  obtain ⟨a3, ha3⟩ : ∃ z9, z9 = xs m3.toInt.toNat := ⟨_, rfl⟩
  have m_a3 := em3
  rw [← ha3]
  refine pq_iv3_10 ?_
  refine And.intro (Exists.intro _ (cw_o0 hI.1)) (Exists.intro _ (Exists.intro _ (Exists.intro _ (Exists.intro _ (And.intro (Z_X10_shift hI hS a1 a2 a3 (by omega)) (And.intro (lw_bnd rfl (by omega) (by omega) rfl) (fun r9 A9 h9 => ?_)))))))
  obtain ⟨K499, nn499, dn499, q499, w499, e499, v499, f499, rfl, hI499, hS499, hX499, hy499, y499, rfl, by499⟩ := h9
  have dj499 := lw_dj D dj hX499
  have fc9 := by499.2.1 M hR1 hN
  refine pq_id1 (pq_pop (pq_aload_n2 (pq_aload_n0 (pq_iload_n3 (pq_iconst (pq_iadd ?_))))))
  intro m4 em4
  have e4 : m4.toInt = i.toInt + 1 := by rw [em4]; exact pm_addc _ _ 1 rfl (by omega) (by omega)
  refine pq_iaload ?_
  refine Exists.intro _ (Exists.intro _ (And.intro (Or.inr hro) (And.intro (by omega) ?_)))
  have ha1_4 : a1 = xs m4.toInt.toNat := by rw [ha1, em4, ← m_a1]
  rw [← ha1_4]
  refine pq_aload_n0 (pq_iload_n3 (pq_iconst (pq_iadd ?_)))
  intro m5 em5
  have e5 : m5.toInt = i.toInt + 2 := by rw [em5]; exact pm_addc _ _ 2 rfl (by omega) (by omega)
  refine pq_iaload ?_
  refine Exists.intro _ (Exists.intro _ (And.intro (Or.inr hro) (And.intro (by omega) ?_)))
  have ha2_5 : a2 = xs m5.toInt.toNat := by rw [ha2, em5, ← m_a2]
  rw [← ha2_5]
  refine pq_aload_n0 (pq_iload_n3 (pq_iconst (pq_iadd ?_)))
  intro m6 em6
  have e6 : m6.toInt = i.toInt + 3 := by rw [em6]; exact pm_addc _ _ 3 rfl (by omega) (by omega)
  refine pq_iaload ?_
  refine Exists.intro _ (Exists.intro _ (And.intro (Or.inr hro) (And.intro (by omega) ?_)))
  have ha3_6 : a3 = xs m6.toInt.toNat := by rw [ha3, em6, ← m_a3]
  rw [← ha3_6]
  refine pq_iv3_11 ?_
  rw [cw_md D dj499]
  refine And.intro (Exists.intro _ (md_o)) (Exists.intro _ (Exists.intro _ (Exists.intro _ (Exists.intro _ (And.intro (Y_X11_shift D mv mf hv hf a1 a2 a3 (by omega)) (And.intro (lw_bnd rfl (by omega) (by omega) rfl) (fun r9 A9 h9 => ?_)))))))
  obtain ⟨y519, mv519, mf519, rfl, rfl, hv519, hf519, hx519, by519⟩ := h9
  have fm9 := by519.2.1 M hR2
  refine pq_id1 (pq_pop (pq_goto ?_))
  exact cont _ _ _ ⟨A00, K499, nn499, dn499, q499, w499, e499, v499, f499, mq, mv519, mf519, _, (cw_md D dj499).symm, (hX499.2.1 0 (by omega)), hI499, hS499, D, hv519, hf519, dj499, fun j hj => by rw [hy499, hx519]; exact hw j hj, by omega, by omega, fc9.1, fm9.1, (pm_eqI (by rw [fc9.2.2.1, fm9.2.2, hg])), (by rw [fc9.2.1, fm9.2.1, he0]), fc9.2.2.2.1, (nm_shift hM), (fc9.2.2.2.2 hB), (HX_ed hf hH hu9.2.2.2.1.1 hu9.2.2.2.2.1 by499.2.2 by519.2.2 he0 (by rw [fc9.2.1, fm9.2.1, he0]) fc9.2.2.2.1 fc9.1 fm9.1 (fc9.2.2.2.2 hB))⟩ (by omega) (by omega)

set_option maxRecDepth 100000 in
set_option maxHeartbeats 2000000 in
theorem lx_b8 (hC : pm_Cl l g (lw_ro b L xs) 7 600000 7302250 lw_Rt bk_L_law J) {i : Int32} (hi : 0 ≤ i.toInt ∧ i.toInt + 6 ≤ L) (hL : L ≤ 3072) {E : Nat} (hE : E < 1000) {A : pm_H} {c s : Nat} (hA : LX g xo h E A) (hc : c + 4 ≤ 600000) (hs0 : s + 485 ≤ 7302250) (cont : ∀ (A' : pm_H) (c' s' : Nat), LX g xo h (E + 1) A' → c' ≤ c + 4 → s' ≤ s + 485 → J 2563 [some (.ref b), some (.ref xo), some (.ref h), some (.int i)] [] A' c' s') : J 526 [some (.ref b), some (.ref xo), some (.ref h), some (.int i)] [] A c s := by
  obtain ⟨A00, K, nn, dn, q, w, e, v, f, mq, mv, mf, M, rfl, rfl, hI, hS, D, hv, hf, dj, hw, hE1, hE2, hR1, hR2, hg, he0, hN, hM, hB, hH⟩ := hA
  have hu9 := hI.2.1
  unfold cw_W at hu9
  have hro : lw_ro b L xs b = some (L, xs) := if_pos rfl
  refine hC.1 8 526 _ _ rfl _ _ _ _ _ ?_
  refine pq_aload_n1 (pq_aload_n0 (pq_iload_n3 (pq_iconst (pq_iadd ?_))))
  intro m1 em1
  have e1 : m1.toInt = i.toInt + 1 := by rw [em1]; exact pm_addc _ _ 1 rfl (by omega) (by omega)
  refine pq_iaload ?_
  refine Exists.intro _ (Exists.intro _ (And.intro (Or.inr hro) (And.intro (by omega) ?_)))
  obtain ⟨a1, ha1⟩ : ∃ z9, z9 = xs m1.toInt.toNat := ⟨_, rfl⟩
  have m_a1 := em1
  rw [← ha1]
  refine pq_aload_n0 (pq_iload_n3 (pq_iconst (pq_iadd ?_)))
  intro m2 em2
  have e2 : m2.toInt = i.toInt + 2 := by rw [em2]; exact pm_addc _ _ 2 rfl (by omega) (by omega)
  refine pq_iaload ?_
  refine Exists.intro _ (Exists.intro _ (And.intro (Or.inr hro) (And.intro (by omega) ?_)))
  obtain ⟨a2, ha2⟩ : ∃ z9, z9 = xs m2.toInt.toNat := ⟨_, rfl⟩
  have m_a2 := em2
  rw [← ha2]
  refine pq_iv2_10 ?_
  refine And.intro (Exists.intro _ (cw_o0 hI.1)) (Exists.intro _ (Exists.intro _ (Exists.intro _ (Exists.intro _ (And.intro (Z_X10_sort hI hS a1 a2 (by omega)) (And.intro (lw_bnd rfl (by omega) (by omega) rfl) (fun r9 A9 h9 => ?_)))))))
  obtain ⟨K537, nn537, dn537, q537, w537, e537, v537, f537, rfl, hI537, hS537, hX537, hy537, y537, rfl, by537⟩ := h9
  have dj537 := lw_dj D dj hX537
  have fc9 := by537.2.1 M hR1 hN
  refine pq_id1 (pq_pop (pq_aload_n2 (pq_aload_n0 (pq_iload_n3 (pq_iconst (pq_iadd ?_))))))
  intro m3 em3
  have e3 : m3.toInt = i.toInt + 1 := by rw [em3]; exact pm_addc _ _ 1 rfl (by omega) (by omega)
  refine pq_iaload ?_
  refine Exists.intro _ (Exists.intro _ (And.intro (Or.inr hro) (And.intro (by omega) ?_)))
  have ha1_3 : a1 = xs m3.toInt.toNat := by rw [ha1, em3, ← m_a1]
  rw [← ha1_3]
  refine pq_aload_n0 (pq_iload_n3 (pq_iconst (pq_iadd ?_)))
  intro m4 em4
  have e4 : m4.toInt = i.toInt + 2 := by rw [em4]; exact pm_addc _ _ 2 rfl (by omega) (by omega)
  refine pq_iaload ?_
  refine Exists.intro _ (Exists.intro _ (And.intro (Or.inr hro) (And.intro (by omega) ?_)))
  have ha2_4 : a2 = xs m4.toInt.toNat := by rw [ha2, em4, ← m_a2]
  rw [← ha2_4]
  refine pq_iv2_11 ?_
  rw [cw_md D dj537]
  refine And.intro (Exists.intro _ (md_o)) (Exists.intro _ (Exists.intro _ (Exists.intro _ (Exists.intro _ (And.intro (Y_X11_sort D mv mf hv hf a1 a2 (by omega)) (And.intro (lw_bnd rfl (by omega) (by omega) rfl) (fun r9 A9 h9 => ?_)))))))
  obtain ⟨y552, mv552, mf552, rfl, rfl, hv552, hf552, hx552, by552⟩ := h9
  have fm9 := by552.2.1 M hR2
  refine pq_id1 (pq_pop (pq_goto ?_))
  exact cont _ _ _ ⟨A00, K537, nn537, dn537, q537, w537, e537, v537, f537, mq, mv552, mf552, _, (cw_md D dj537).symm, (hX537.2.1 0 (by omega)), hI537, hS537, D, hv552, hf552, dj537, fun j hj => by rw [hy537, hx552]; exact hw j hj, by omega, by omega, fc9.1, fm9.1, (pm_eqI (by rw [fc9.2.2.1, fm9.2.2, hg])), (by rw [fc9.2.1, fm9.2.1, he0]), fc9.2.2.2.1, (nm_sort hM), (fc9.2.2.2.2 hB), (HX_ed hf hH hu9.2.2.2.1.1 hu9.2.2.2.2.1 by537.2.2 by552.2.2 he0 (by rw [fc9.2.1, fm9.2.1, he0]) fc9.2.2.2.1 fc9.1 fm9.1 (fc9.2.2.2.2 hB))⟩ (by omega) (by omega)

set_option maxRecDepth 100000 in
set_option maxHeartbeats 2000000 in
theorem lx_b9 (hC : pm_Cl l g (lw_ro b L xs) 7 600000 7302250 lw_Rt bk_L_law J) {i : Int32} (hi : 0 ≤ i.toInt ∧ i.toInt + 6 ≤ L) (hL : L ≤ 3072) {E : Nat} (hE : E < 1000) {A : pm_H} {c s : Nat} (hA : LX g xo h E A) (hc : c + 4 ≤ 600000) (hs0 : s + 485 ≤ 7302250) (cont : ∀ (A' : pm_H) (c' s' : Nat), LX g xo h (E + 1) A' → c' ≤ c + 4 → s' ≤ s + 485 → J 2563 [some (.ref b), some (.ref xo), some (.ref h), some (.int i)] [] A' c' s') : J 559 [some (.ref b), some (.ref xo), some (.ref h), some (.int i)] [] A c s := by
  obtain ⟨A00, K, nn, dn, q, w, e, v, f, mq, mv, mf, M, rfl, rfl, hI, hS, D, hv, hf, dj, hw, hE1, hE2, hR1, hR2, hg, he0, hN, hM, hB, hH⟩ := hA
  have hu9 := hI.2.1
  unfold cw_W at hu9
  have hro : lw_ro b L xs b = some (L, xs) := if_pos rfl
  refine hC.1 9 559 _ _ rfl _ _ _ _ _ ?_
  refine pq_aload_n1 (pq_aload_n0 (pq_iload_n3 (pq_iconst (pq_iadd ?_))))
  intro m1 em1
  have e1 : m1.toInt = i.toInt + 1 := by rw [em1]; exact pm_addc _ _ 1 rfl (by omega) (by omega)
  refine pq_iaload ?_
  refine Exists.intro _ (Exists.intro _ (And.intro (Or.inr hro) (And.intro (by omega) ?_)))
  obtain ⟨a1, ha1⟩ : ∃ z9, z9 = xs m1.toInt.toNat := ⟨_, rfl⟩
  have m_a1 := em1
  rw [← ha1]
  refine pq_aload_n0 (pq_iload_n3 (pq_iconst (pq_iadd ?_)))
  intro m2 em2
  have e2 : m2.toInt = i.toInt + 2 := by rw [em2]; exact pm_addc _ _ 2 rfl (by omega) (by omega)
  refine pq_iaload ?_
  refine Exists.intro _ (Exists.intro _ (And.intro (Or.inr hro) (And.intro (by omega) ?_)))
  obtain ⟨a2, ha2⟩ : ∃ z9, z9 = xs m2.toInt.toNat := ⟨_, rfl⟩
  have m_a2 := em2
  rw [← ha2]
  refine pq_aload_n0 (pq_iload_n3 (pq_iconst (pq_iadd ?_)))
  intro m3 em3
  have e3 : m3.toInt = i.toInt + 3 := by rw [em3]; exact pm_addc _ _ 3 rfl (by omega) (by omega)
  refine pq_iaload ?_
  refine Exists.intro _ (Exists.intro _ (And.intro (Or.inr hro) (And.intro (by omega) ?_)))
  obtain ⟨a3, ha3⟩ : ∃ z9, z9 = xs m3.toInt.toNat := ⟨_, rfl⟩
  have m_a3 := em3
  rw [← ha3]
  refine pq_aload_n0 (pq_iload_n3 (pq_iconst (pq_iadd ?_)))
  intro m4 em4
  have e4 : m4.toInt = i.toInt + 4 := by rw [em4]; exact pm_addc _ _ 4 rfl (by omega) (by omega)
  refine pq_iaload ?_
  refine Exists.intro _ (Exists.intro _ (And.intro (Or.inr hro) (And.intro (by omega) ?_)))
  obtain ⟨a4, ha4⟩ : ∃ z9, z9 = xs m4.toInt.toNat := ⟨_, rfl⟩
  have m_a4 := em4
  rw [← ha4]
  refine pq_iv4_10 ?_
  refine And.intro (Exists.intro _ (cw_o0 hI.1)) (Exists.intro _ (Exists.intro _ (Exists.intro _ (Exists.intro _ (And.intro (Z_X10_swap hI hS a1 a2 a3 a4 (by omega)) (And.intro (lw_bnd rfl (by omega) (by omega) rfl) (fun r9 A9 h9 => ?_)))))))
  obtain ⟨K580, nn580, dn580, q580, w580, e580, v580, f580, rfl, hI580, hS580, hX580, hy580, y580, rfl, by580⟩ := h9
  have dj580 := lw_dj D dj hX580
  have fc9 := by580.2.1 M hR1 hN
  refine pq_id1 (pq_pop (pq_aload_n2 (pq_aload_n0 (pq_iload_n3 (pq_iconst (pq_iadd ?_))))))
  intro m5 em5
  have e5 : m5.toInt = i.toInt + 1 := by rw [em5]; exact pm_addc _ _ 1 rfl (by omega) (by omega)
  refine pq_iaload ?_
  refine Exists.intro _ (Exists.intro _ (And.intro (Or.inr hro) (And.intro (by omega) ?_)))
  have ha1_5 : a1 = xs m5.toInt.toNat := by rw [ha1, em5, ← m_a1]
  rw [← ha1_5]
  refine pq_aload_n0 (pq_iload_n3 (pq_iconst (pq_iadd ?_)))
  intro m6 em6
  have e6 : m6.toInt = i.toInt + 2 := by rw [em6]; exact pm_addc _ _ 2 rfl (by omega) (by omega)
  refine pq_iaload ?_
  refine Exists.intro _ (Exists.intro _ (And.intro (Or.inr hro) (And.intro (by omega) ?_)))
  have ha2_6 : a2 = xs m6.toInt.toNat := by rw [ha2, em6, ← m_a2]
  rw [← ha2_6]
  refine pq_aload_n0 (pq_iload_n3 (pq_iconst (pq_iadd ?_)))
  intro m7 em7
  have e7 : m7.toInt = i.toInt + 3 := by rw [em7]; exact pm_addc _ _ 3 rfl (by omega) (by omega)
  refine pq_iaload ?_
  refine Exists.intro _ (Exists.intro _ (And.intro (Or.inr hro) (And.intro (by omega) ?_)))
  have ha3_7 : a3 = xs m7.toInt.toNat := by rw [ha3, em7, ← m_a3]
  rw [← ha3_7]
  refine pq_aload_n0 (pq_iload_n3 (pq_iconst (pq_iadd ?_)))
  intro m8 em8
  have e8 : m8.toInt = i.toInt + 4 := by rw [em8]; exact pm_addc _ _ 4 rfl (by omega) (by omega)
  refine pq_iaload ?_
  refine Exists.intro _ (Exists.intro _ (And.intro (Or.inr hro) (And.intro (by omega) ?_)))
  have ha4_8 : a4 = xs m8.toInt.toNat := by rw [ha4, em8, ← m_a4]
  rw [← ha4_8]
  refine pq_iv4_11 ?_
  rw [cw_md D dj580]
  refine And.intro (Exists.intro _ (md_o)) (Exists.intro _ (Exists.intro _ (Exists.intro _ (Exists.intro _ (And.intro (Y_X11_swap D mv mf hv hf a1 a2 a3 a4 (by omega)) (And.intro (lw_bnd rfl (by omega) (by omega) rfl) (fun r9 A9 h9 => ?_)))))))
  obtain ⟨y605, mv605, mf605, rfl, rfl, hv605, hf605, hx605, by605⟩ := h9
  have fm9 := by605.2.1 M hR2
  refine pq_id1 (pq_pop (pq_goto ?_))
  exact cont _ _ _ ⟨A00, K580, nn580, dn580, q580, w580, e580, v580, f580, mq, mv605, mf605, _, (cw_md D dj580).symm, (hX580.2.1 0 (by omega)), hI580, hS580, D, hv605, hf605, dj580, fun j hj => by rw [hy580, hx605]; exact hw j hj, by omega, by omega, fc9.1, fm9.1, (pm_eqI (by rw [fc9.2.2.1, fm9.2.2, hg])), (by rw [fc9.2.1, fm9.2.1, he0]), fc9.2.2.2.1, (nm_swap hM), (fc9.2.2.2.2 hB), (HX_ed hf hH hu9.2.2.2.1.1 hu9.2.2.2.2.1 by580.2.2 by605.2.2 he0 (by rw [fc9.2.1, fm9.2.1, he0]) fc9.2.2.2.1 fc9.1 fm9.1 (fc9.2.2.2.2 hB))⟩ (by omega) (by omega)

set_option maxRecDepth 100000 in
set_option maxHeartbeats 2000000 in
theorem lx_b10 (hC : pm_Cl l g (lw_ro b L xs) 7 600000 7302250 lw_Rt bk_L_law J) {i : Int32} (hi : 0 ≤ i.toInt ∧ i.toInt + 6 ≤ L) (hL : L ≤ 3072) {E : Nat} (hE : E < 1000) {A : pm_H} {c s : Nat} (hA : LX g xo h E A) (hc : c + 4 ≤ 600000) (hs0 : s + 485 ≤ 7302250) (cont : ∀ (A' : pm_H) (c' s' : Nat), LX g xo h (E + 1) A' → c' ≤ c + 4 → s' ≤ s + 485 → J 2563 [some (.ref b), some (.ref xo), some (.ref h), some (.int i)] [] A' c' s') : J 612 [some (.ref b), some (.ref xo), some (.ref h), some (.int i)] [] A c s := by
  obtain ⟨A00, K, nn, dn, q, w, e, v, f, mq, mv, mf, M, rfl, rfl, hI, hS, D, hv, hf, dj, hw, hE1, hE2, hR1, hR2, hg, he0, hN, hM, hB, hH⟩ := hA
  have hu9 := hI.2.1
  unfold cw_W at hu9
  have hro : lw_ro b L xs b = some (L, xs) := if_pos rfl
  refine hC.1 10 612 _ _ rfl _ _ _ _ _ ?_
  refine pq_aload_n1 (pq_aload_n0 (pq_iload_n3 (pq_iconst (pq_iadd ?_))))
  intro m1 em1
  have e1 : m1.toInt = i.toInt + 1 := by rw [em1]; exact pm_addc _ _ 1 rfl (by omega) (by omega)
  refine pq_iaload ?_
  refine Exists.intro _ (Exists.intro _ (And.intro (Or.inr hro) (And.intro (by omega) ?_)))
  obtain ⟨a1, ha1⟩ : ∃ z9, z9 = xs m1.toInt.toNat := ⟨_, rfl⟩
  have m_a1 := em1
  rw [← ha1]
  refine pq_aload_n0 (pq_iload_n3 (pq_iconst (pq_iadd ?_)))
  intro m2 em2
  have e2 : m2.toInt = i.toInt + 2 := by rw [em2]; exact pm_addc _ _ 2 rfl (by omega) (by omega)
  refine pq_iaload ?_
  refine Exists.intro _ (Exists.intro _ (And.intro (Or.inr hro) (And.intro (by omega) ?_)))
  obtain ⟨a2, ha2⟩ : ∃ z9, z9 = xs m2.toInt.toNat := ⟨_, rfl⟩
  have m_a2 := em2
  rw [← ha2]
  refine pq_aload_n0 (pq_iload_n3 (pq_iconst (pq_iadd ?_)))
  intro m3 em3
  have e3 : m3.toInt = i.toInt + 3 := by rw [em3]; exact pm_addc _ _ 3 rfl (by omega) (by omega)
  refine pq_iaload ?_
  refine Exists.intro _ (Exists.intro _ (And.intro (Or.inr hro) (And.intro (by omega) ?_)))
  obtain ⟨a3, ha3⟩ : ∃ z9, z9 = xs m3.toInt.toNat := ⟨_, rfl⟩
  have m_a3 := em3
  rw [← ha3]
  refine pq_iv3_10 ?_
  refine And.intro (Exists.intro _ (cw_o0 hI.1)) (Exists.intro _ (Exists.intro _ (Exists.intro _ (Exists.intro _ (And.intro (Z_X10_copy hI hS a1 a2 a3 (by omega)) (And.intro (lw_bnd rfl (by omega) (by omega) rfl) (fun r9 A9 h9 => ?_)))))))
  obtain ⟨K628, nn628, dn628, q628, w628, e628, v628, f628, rfl, hI628, hS628, hX628, hy628, y628, rfl, by628⟩ := h9
  have dj628 := lw_dj D dj hX628
  have fc9 := by628.2.1 M hR1 hN
  refine pq_id1 (pq_pop (pq_aload_n2 (pq_aload_n0 (pq_iload_n3 (pq_iconst (pq_iadd ?_))))))
  intro m4 em4
  have e4 : m4.toInt = i.toInt + 1 := by rw [em4]; exact pm_addc _ _ 1 rfl (by omega) (by omega)
  refine pq_iaload ?_
  refine Exists.intro _ (Exists.intro _ (And.intro (Or.inr hro) (And.intro (by omega) ?_)))
  have ha1_4 : a1 = xs m4.toInt.toNat := by rw [ha1, em4, ← m_a1]
  rw [← ha1_4]
  refine pq_aload_n0 (pq_iload_n3 (pq_iconst (pq_iadd ?_)))
  intro m5 em5
  have e5 : m5.toInt = i.toInt + 2 := by rw [em5]; exact pm_addc _ _ 2 rfl (by omega) (by omega)
  refine pq_iaload ?_
  refine Exists.intro _ (Exists.intro _ (And.intro (Or.inr hro) (And.intro (by omega) ?_)))
  have ha2_5 : a2 = xs m5.toInt.toNat := by rw [ha2, em5, ← m_a2]
  rw [← ha2_5]
  refine pq_aload_n0 (pq_iload_n3 (pq_iconst (pq_iadd ?_)))
  intro m6 em6
  have e6 : m6.toInt = i.toInt + 3 := by rw [em6]; exact pm_addc _ _ 3 rfl (by omega) (by omega)
  refine pq_iaload ?_
  refine Exists.intro _ (Exists.intro _ (And.intro (Or.inr hro) (And.intro (by omega) ?_)))
  have ha3_6 : a3 = xs m6.toInt.toNat := by rw [ha3, em6, ← m_a3]
  rw [← ha3_6]
  refine pq_iv3_11 ?_
  rw [cw_md D dj628]
  refine And.intro (Exists.intro _ (md_o)) (Exists.intro _ (Exists.intro _ (Exists.intro _ (Exists.intro _ (And.intro (Y_X11_copy D mv mf hv hf a1 a2 a3 (by omega)) (And.intro (lw_bnd rfl (by omega) (by omega) rfl) (fun r9 A9 h9 => ?_)))))))
  obtain ⟨y648, mv648, mf648, rfl, rfl, hv648, hf648, hx648, by648⟩ := h9
  have fm9 := by648.2.1 M hR2
  rw [← hg] at fm9
  refine pq_id1 (pq_pop (pq_goto ?_))
  exact cont _ _ _ ⟨A00, K628, nn628, dn628, q628, w628, e628, v628, f628, mq, mv648, mf648, _, (cw_md D dj628).symm, (hX628.2.1 0 (by omega)), hI628, hS628, D, hv648, hf648, dj628, fun j hj => by rw [hy628, hx648]; exact hw j hj, by omega, by omega, fc9.1, fm9.1, (pm_eqI (by rw [fc9.2.2.1, fm9.2.2, hg])), (by rw [fc9.2.1, fm9.2.1, he0]), fc9.2.2.2.1, (nm_copy hM (by omega)), (fc9.2.2.2.2 hB), (HX_ed hf hH hu9.2.2.2.1.1 hu9.2.2.2.2.1 by628.2.2 by648.2.2 he0 (by rw [fc9.2.1, fm9.2.1, he0]) fc9.2.2.2.1 fc9.1 fm9.1 (fc9.2.2.2.2 hB))⟩ (by omega) (by omega)

set_option maxRecDepth 100000 in
set_option maxHeartbeats 2000000 in
theorem lx_b11 (hC : pm_Cl l g (lw_ro b L xs) 7 600000 7302250 lw_Rt bk_L_law J) {i : Int32} (hi : 0 ≤ i.toInt ∧ i.toInt + 6 ≤ L) (hL : L ≤ 3072) {E : Nat} (hE : E < 1000) {A : pm_H} {c s : Nat} (hA : LX g xo h E A) (hc : c + 4 ≤ 600000) (hs0 : s + 485 ≤ 7302250) (cont : ∀ (A' : pm_H) (c' s' : Nat), LX g xo h (E + 1) A' → c' ≤ c + 4 → s' ≤ s + 485 → J 2563 [some (.ref b), some (.ref xo), some (.ref h), some (.int i)] [] A' c' s') : J 655 [some (.ref b), some (.ref xo), some (.ref h), some (.int i)] [] A c s := by
  obtain ⟨A00, K, nn, dn, q, w, e, v, f, mq, mv, mf, M, rfl, rfl, hI, hS, D, hv, hf, dj, hw, hE1, hE2, hR1, hR2, hg, he0, hN, hM, hB, hH⟩ := hA
  have hu9 := hI.2.1
  unfold cw_W at hu9
  have hro : lw_ro b L xs b = some (L, xs) := if_pos rfl
  refine hC.1 11 655 _ _ rfl _ _ _ _ _ ?_
  refine pq_aload_n1 (pq_aload_n0 (pq_iload_n3 (pq_iconst (pq_iadd ?_))))
  intro m1 em1
  have e1 : m1.toInt = i.toInt + 1 := by rw [em1]; exact pm_addc _ _ 1 rfl (by omega) (by omega)
  refine pq_iaload ?_
  refine Exists.intro _ (Exists.intro _ (And.intro (Or.inr hro) (And.intro (by omega) ?_)))
  obtain ⟨a1, ha1⟩ : ∃ z9, z9 = xs m1.toInt.toNat := ⟨_, rfl⟩
  have m_a1 := em1
  rw [← ha1]
  refine pq_aload_n0 (pq_iload_n3 (pq_iconst (pq_iadd ?_)))
  intro m2 em2
  have e2 : m2.toInt = i.toInt + 2 := by rw [em2]; exact pm_addc _ _ 2 rfl (by omega) (by omega)
  refine pq_iaload ?_
  refine Exists.intro _ (Exists.intro _ (And.intro (Or.inr hro) (And.intro (by omega) ?_)))
  obtain ⟨a2, ha2⟩ : ∃ z9, z9 = xs m2.toInt.toNat := ⟨_, rfl⟩
  have m_a2 := em2
  rw [← ha2]
  refine pq_iv2_10 ?_
  refine And.intro (Exists.intro _ (cw_o0 hI.1)) (Exists.intro _ (Exists.intro _ (Exists.intro _ (Exists.intro _ (And.intro (Z_X10_merge hI hS a1 a2 (by omega)) (And.intro (lw_bnd rfl (by omega) (by omega) rfl) (fun r9 A9 h9 => ?_)))))))
  obtain ⟨K666, nn666, dn666, q666, w666, e666, v666, f666, rfl, hI666, hS666, hX666, hy666, y666, rfl, by666⟩ := h9
  have dj666 := lw_dj D dj hX666
  have fc9 := by666.2.1 M hR1 hN
  refine pq_id1 (pq_pop (pq_aload_n2 (pq_aload_n0 (pq_iload_n3 (pq_iconst (pq_iadd ?_))))))
  intro m3 em3
  have e3 : m3.toInt = i.toInt + 1 := by rw [em3]; exact pm_addc _ _ 1 rfl (by omega) (by omega)
  refine pq_iaload ?_
  refine Exists.intro _ (Exists.intro _ (And.intro (Or.inr hro) (And.intro (by omega) ?_)))
  have ha1_3 : a1 = xs m3.toInt.toNat := by rw [ha1, em3, ← m_a1]
  rw [← ha1_3]
  refine pq_aload_n0 (pq_iload_n3 (pq_iconst (pq_iadd ?_)))
  intro m4 em4
  have e4 : m4.toInt = i.toInt + 2 := by rw [em4]; exact pm_addc _ _ 2 rfl (by omega) (by omega)
  refine pq_iaload ?_
  refine Exists.intro _ (Exists.intro _ (And.intro (Or.inr hro) (And.intro (by omega) ?_)))
  have ha2_4 : a2 = xs m4.toInt.toNat := by rw [ha2, em4, ← m_a2]
  rw [← ha2_4]
  refine pq_iv2_11 ?_
  rw [cw_md D dj666]
  refine And.intro (Exists.intro _ (md_o)) (Exists.intro _ (Exists.intro _ (Exists.intro _ (Exists.intro _ (And.intro (Y_X11_merge D mv mf hv hf a1 a2 (by omega)) (And.intro (lw_bnd rfl (by omega) (by omega) rfl) (fun r9 A9 h9 => ?_)))))))
  obtain ⟨y681, mv681, mf681, rfl, rfl, hv681, hf681, hx681, by681⟩ := h9
  have fm9 := by681.2.1 M hR2
  refine pq_id1 (pq_pop (pq_goto ?_))
  exact cont _ _ _ ⟨A00, K666, nn666, dn666, q666, w666, e666, v666, f666, mq, mv681, mf681, _, (cw_md D dj666).symm, (hX666.2.1 0 (by omega)), hI666, hS666, D, hv681, hf681, dj666, fun j hj => by rw [hy666, hx681]; exact hw j hj, by omega, by omega, fc9.1, fm9.1, (pm_eqI (by rw [fc9.2.2.1, fm9.2.2, hg])), (by rw [fc9.2.1, fm9.2.1, he0]), fc9.2.2.2.1, (nm_merge hM), (fc9.2.2.2.2 hB), (HX_ed hf hH hu9.2.2.2.1.1 hu9.2.2.2.2.1 by666.2.2 by681.2.2 he0 (by rw [fc9.2.1, fm9.2.1, he0]) fc9.2.2.2.1 fc9.1 fm9.1 (fc9.2.2.2.2 hB))⟩ (by omega) (by omega)

set_option maxRecDepth 100000 in
set_option maxHeartbeats 2000000 in
theorem lx_b12 (hC : pm_Cl l g (lw_ro b L xs) 7 600000 7302250 lw_Rt bk_L_law J) {i : Int32} (hi : 0 ≤ i.toInt ∧ i.toInt + 6 ≤ L) (hL : L ≤ 3072) {E : Nat} (hE : E < 1000) {A : pm_H} {c s : Nat} (hA : LX g xo h E A) (hc : c + 4 ≤ 600000) (hs0 : s + 485 ≤ 7302250) (cont : ∀ (A' : pm_H) (c' s' : Nat), LX g xo h (E + 1) A' → c' ≤ c + 4 → s' ≤ s + 485 → J 2563 [some (.ref b), some (.ref xo), some (.ref h), some (.int i)] [] A' c' s') : J 688 [some (.ref b), some (.ref xo), some (.ref h), some (.int i)] [] A c s := by
  obtain ⟨A00, K, nn, dn, q, w, e, v, f, mq, mv, mf, M, rfl, rfl, hI, hS, D, hv, hf, dj, hw, hE1, hE2, hR1, hR2, hg, he0, hN, hM, hB, hH⟩ := hA
  have hu9 := hI.2.1
  unfold cw_W at hu9
  have hro : lw_ro b L xs b = some (L, xs) := if_pos rfl
  refine hC.1 12 688 _ _ rfl _ _ _ _ _ ?_
  refine pq_aload_n1 (pq_aload_n0 (pq_iload_n3 (pq_iconst (pq_iadd ?_))))
  intro m1 em1
  have e1 : m1.toInt = i.toInt + 1 := by rw [em1]; exact pm_addc _ _ 1 rfl (by omega) (by omega)
  refine pq_iaload ?_
  refine Exists.intro _ (Exists.intro _ (And.intro (Or.inr hro) (And.intro (by omega) ?_)))
  obtain ⟨a1, ha1⟩ : ∃ z9, z9 = xs m1.toInt.toNat := ⟨_, rfl⟩
  have m_a1 := em1
  rw [← ha1]
  refine pq_aload_n0 (pq_iload_n3 (pq_iconst (pq_iadd ?_)))
  intro m2 em2
  have e2 : m2.toInt = i.toInt + 2 := by rw [em2]; exact pm_addc _ _ 2 rfl (by omega) (by omega)
  refine pq_iaload ?_
  refine Exists.intro _ (Exists.intro _ (And.intro (Or.inr hro) (And.intro (by omega) ?_)))
  obtain ⟨a2, ha2⟩ : ∃ z9, z9 = xs m2.toInt.toNat := ⟨_, rfl⟩
  have m_a2 := em2
  rw [← ha2]
  refine pq_iv2_10 ?_
  refine And.intro (Exists.intro _ (cw_o0 hI.1)) (Exists.intro _ (Exists.intro _ (Exists.intro _ (Exists.intro _ (And.intro (Z_X10_exchange hI hS a1 a2 (by omega)) (And.intro (lw_bnd rfl (by omega) (by omega) rfl) (fun r9 A9 h9 => ?_)))))))
  obtain ⟨K699, nn699, dn699, q699, w699, e699, v699, f699, rfl, hI699, hS699, hX699, hy699, y699, rfl, by699⟩ := h9
  have dj699 := lw_dj D dj hX699
  have fc9 := by699.2.1 M hR1 hN
  refine pq_id1 (pq_pop (pq_aload_n2 (pq_aload_n0 (pq_iload_n3 (pq_iconst (pq_iadd ?_))))))
  intro m3 em3
  have e3 : m3.toInt = i.toInt + 1 := by rw [em3]; exact pm_addc _ _ 1 rfl (by omega) (by omega)
  refine pq_iaload ?_
  refine Exists.intro _ (Exists.intro _ (And.intro (Or.inr hro) (And.intro (by omega) ?_)))
  have ha1_3 : a1 = xs m3.toInt.toNat := by rw [ha1, em3, ← m_a1]
  rw [← ha1_3]
  refine pq_aload_n0 (pq_iload_n3 (pq_iconst (pq_iadd ?_)))
  intro m4 em4
  have e4 : m4.toInt = i.toInt + 2 := by rw [em4]; exact pm_addc _ _ 2 rfl (by omega) (by omega)
  refine pq_iaload ?_
  refine Exists.intro _ (Exists.intro _ (And.intro (Or.inr hro) (And.intro (by omega) ?_)))
  have ha2_4 : a2 = xs m4.toInt.toNat := by rw [ha2, em4, ← m_a2]
  rw [← ha2_4]
  refine pq_iv2_11 ?_
  rw [cw_md D dj699]
  refine And.intro (Exists.intro _ (md_o)) (Exists.intro _ (Exists.intro _ (Exists.intro _ (Exists.intro _ (And.intro (Y_X11_exchange D mv mf hv hf a1 a2 (by omega)) (And.intro (lw_bnd rfl (by omega) (by omega) rfl) (fun r9 A9 h9 => ?_)))))))
  obtain ⟨y714, mv714, mf714, rfl, rfl, hv714, hf714, hx714, by714⟩ := h9
  have fm9 := by714.2.1 M hR2
  refine pq_id1 (pq_pop (pq_goto ?_))
  exact cont _ _ _ ⟨A00, K699, nn699, dn699, q699, w699, e699, v699, f699, mq, mv714, mf714, _, (cw_md D dj699).symm, (hX699.2.1 0 (by omega)), hI699, hS699, D, hv714, hf714, dj699, fun j hj => by rw [hy699, hx714]; exact hw j hj, by omega, by omega, fc9.1, fm9.1, (pm_eqI (by rw [fc9.2.2.1, fm9.2.2, hg])), (by rw [fc9.2.1, fm9.2.1, he0]), fc9.2.2.2.1, (nm_exch hM), (fc9.2.2.2.2 hB), (HX_ed hf hH hu9.2.2.2.1.1 hu9.2.2.2.2.1 by699.2.2 by714.2.2 he0 (by rw [fc9.2.1, fm9.2.1, he0]) fc9.2.2.2.1 fc9.1 fm9.1 (fc9.2.2.2.2 hB))⟩ (by omega) (by omega)

set_option maxRecDepth 100000 in
set_option maxHeartbeats 2000000 in
theorem lx_b13 (hC : pm_Cl l g (lw_ro b L xs) 7 600000 7302250 lw_Rt bk_L_law J) {i : Int32} (hi : 0 ≤ i.toInt ∧ i.toInt + 6 ≤ L) (hL : L ≤ 3072) {E : Nat} (hE : E < 1000) {A : pm_H} {c s : Nat} (hA : LX g xo h E A) (hc : c + 4 ≤ 600000) (hs0 : s + 485 ≤ 7302250) (cont : ∀ (A' : pm_H) (c' s' : Nat), LX g xo h (E + 1) A' → c' ≤ c + 4 → s' ≤ s + 485 → J 2563 [some (.ref b), some (.ref xo), some (.ref h), some (.int i)] [] A' c' s') : J 721 [some (.ref b), some (.ref xo), some (.ref h), some (.int i)] [] A c s := by
  obtain ⟨A00, K, nn, dn, q, w, e, v, f, mq, mv, mf, M, rfl, rfl, hI, hS, D, hv, hf, dj, hw, hE1, hE2, hR1, hR2, hg, he0, hN, hM, hB, hH⟩ := hA
  have hu9 := hI.2.1
  unfold cw_W at hu9
  have hro : lw_ro b L xs b = some (L, xs) := if_pos rfl
  refine hC.1 13 721 _ _ rfl _ _ _ _ _ ?_
  refine pq_aload_n1 (pq_aload_n0 (pq_iload_n3 (pq_iconst (pq_iadd ?_))))
  intro m1 em1
  have e1 : m1.toInt = i.toInt + 1 := by rw [em1]; exact pm_addc _ _ 1 rfl (by omega) (by omega)
  refine pq_iaload ?_
  refine Exists.intro _ (Exists.intro _ (And.intro (Or.inr hro) (And.intro (by omega) ?_)))
  obtain ⟨a1, ha1⟩ : ∃ z9, z9 = xs m1.toInt.toNat := ⟨_, rfl⟩
  have m_a1 := em1
  rw [← ha1]
  refine pq_aload_n0 (pq_iload_n3 (pq_iconst (pq_iadd ?_)))
  intro m2 em2
  have e2 : m2.toInt = i.toInt + 2 := by rw [em2]; exact pm_addc _ _ 2 rfl (by omega) (by omega)
  refine pq_iaload ?_
  refine Exists.intro _ (Exists.intro _ (And.intro (Or.inr hro) (And.intro (by omega) ?_)))
  obtain ⟨a2, ha2⟩ : ∃ z9, z9 = xs m2.toInt.toNat := ⟨_, rfl⟩
  have m_a2 := em2
  rw [← ha2]
  refine pq_aload_n0 (pq_iload_n3 (pq_iconst (pq_iadd ?_)))
  intro m3 em3
  have e3 : m3.toInt = i.toInt + 3 := by rw [em3]; exact pm_addc _ _ 3 rfl (by omega) (by omega)
  refine pq_iaload ?_
  refine Exists.intro _ (Exists.intro _ (And.intro (Or.inr hro) (And.intro (by omega) ?_)))
  obtain ⟨a3, ha3⟩ : ∃ z9, z9 = xs m3.toInt.toNat := ⟨_, rfl⟩
  have m_a3 := em3
  rw [← ha3]
  refine pq_iv3_10 ?_
  refine And.intro (Exists.intro _ (cw_o0 hI.1)) (Exists.intro _ (Exists.intro _ (Exists.intro _ (Exists.intro _ (And.intro (Z_X10_draw hI hS a1 a2 a3 (by omega)) (And.intro (lw_bnd rfl (by omega) (by omega) rfl) (fun r9 A9 h9 => ?_)))))))
  obtain ⟨K737, nn737, dn737, q737, w737, e737, v737, f737, rfl, hI737, hS737, hX737, hy737, y737, rfl, by737⟩ := h9
  have dj737 := lw_dj D dj hX737
  have fc9 := by737.2.1 M hR1 hN
  refine pq_id1 (pq_pop (pq_aload_n2 (pq_aload_n0 (pq_iload_n3 (pq_iconst (pq_iadd ?_))))))
  intro m4 em4
  have e4 : m4.toInt = i.toInt + 1 := by rw [em4]; exact pm_addc _ _ 1 rfl (by omega) (by omega)
  refine pq_iaload ?_
  refine Exists.intro _ (Exists.intro _ (And.intro (Or.inr hro) (And.intro (by omega) ?_)))
  have ha1_4 : a1 = xs m4.toInt.toNat := by rw [ha1, em4, ← m_a1]
  rw [← ha1_4]
  refine pq_aload_n0 (pq_iload_n3 (pq_iconst (pq_iadd ?_)))
  intro m5 em5
  have e5 : m5.toInt = i.toInt + 2 := by rw [em5]; exact pm_addc _ _ 2 rfl (by omega) (by omega)
  refine pq_iaload ?_
  refine Exists.intro _ (Exists.intro _ (And.intro (Or.inr hro) (And.intro (by omega) ?_)))
  have ha2_5 : a2 = xs m5.toInt.toNat := by rw [ha2, em5, ← m_a2]
  rw [← ha2_5]
  refine pq_aload_n0 (pq_iload_n3 (pq_iconst (pq_iadd ?_)))
  intro m6 em6
  have e6 : m6.toInt = i.toInt + 3 := by rw [em6]; exact pm_addc _ _ 3 rfl (by omega) (by omega)
  refine pq_iaload ?_
  refine Exists.intro _ (Exists.intro _ (And.intro (Or.inr hro) (And.intro (by omega) ?_)))
  have ha3_6 : a3 = xs m6.toInt.toNat := by rw [ha3, em6, ← m_a3]
  rw [← ha3_6]
  refine pq_iv3_11 ?_
  rw [cw_md D dj737]
  refine And.intro (Exists.intro _ (md_o)) (Exists.intro _ (Exists.intro _ (Exists.intro _ (Exists.intro _ (And.intro (Y_X11_draw D mv mf hv hf a1 a2 a3 (by omega)) (And.intro (lw_bnd rfl (by omega) (by omega) rfl) (fun r9 A9 h9 => ?_)))))))
  obtain ⟨y757, mv757, mf757, rfl, rfl, hv757, hf757, hx757, by757⟩ := h9
  have fm9 := by757.2.1 M hR2
  rw [← hg] at fm9
  refine pq_id1 (pq_pop (pq_goto ?_))
  exact cont _ _ _ ⟨A00, K737, nn737, dn737, q737, w737, e737, v737, f737, mq, mv757, mf757, _, (cw_md D dj737).symm, (hX737.2.1 0 (by omega)), hI737, hS737, D, hv757, hf757, dj737, fun j hj => by rw [hy737, hx757]; exact hw j hj, by omega, by omega, fc9.1, fm9.1, (pm_eqI (by rw [fc9.2.2.1, fm9.2.2, hg])), (by rw [fc9.2.1, fm9.2.1, he0]), fc9.2.2.2.1, (nm_draw hM (by omega)), (fc9.2.2.2.2 hB), (HX_ed hf hH hu9.2.2.2.1.1 hu9.2.2.2.2.1 by737.2.2 by757.2.2 he0 (by rw [fc9.2.1, fm9.2.1, he0]) fc9.2.2.2.1 fc9.1 fm9.1 (fc9.2.2.2.2 hB))⟩ (by omega) (by omega)

set_option maxRecDepth 100000 in
set_option maxHeartbeats 2000000 in
theorem lx_b14 (hC : pm_Cl l g (lw_ro b L xs) 7 600000 7302250 lw_Rt bk_L_law J) {i : Int32} (hi : 0 ≤ i.toInt ∧ i.toInt + 6 ≤ L) (hL : L ≤ 3072) {E : Nat} (hE : E < 1000) {A : pm_H} {c s : Nat} (hA : LX g xo h E A) (hc : c + 4 ≤ 600000) (hs0 : s + 485 ≤ 7302250) (cont : ∀ (A' : pm_H) (c' s' : Nat), LX g xo h (E + 1) A' → c' ≤ c + 4 → s' ≤ s + 485 → J 2563 [some (.ref b), some (.ref xo), some (.ref h), some (.int i)] [] A' c' s') : J 764 [some (.ref b), some (.ref xo), some (.ref h), some (.int i)] [] A c s := by
  obtain ⟨A00, K, nn, dn, q, w, e, v, f, mq, mv, mf, M, rfl, rfl, hI, hS, D, hv, hf, dj, hw, hE1, hE2, hR1, hR2, hg, he0, hN, hM, hB, hH⟩ := hA
  have hu9 := hI.2.1
  unfold cw_W at hu9
  have hro : lw_ro b L xs b = some (L, xs) := if_pos rfl
  refine hC.1 14 764 _ _ rfl _ _ _ _ _ ?_
  refine pq_aload_n1 (pq_aload_n0 (pq_iload_n3 (pq_iconst (pq_iadd ?_))))
  intro m1 em1
  have e1 : m1.toInt = i.toInt + 1 := by rw [em1]; exact pm_addc _ _ 1 rfl (by omega) (by omega)
  refine pq_iaload ?_
  refine Exists.intro _ (Exists.intro _ (And.intro (Or.inr hro) (And.intro (by omega) ?_)))
  obtain ⟨a1, ha1⟩ : ∃ z9, z9 = xs m1.toInt.toNat := ⟨_, rfl⟩
  have m_a1 := em1
  rw [← ha1]
  refine pq_aload_n0 (pq_iload_n3 (pq_iconst (pq_iadd ?_)))
  intro m2 em2
  have e2 : m2.toInt = i.toInt + 2 := by rw [em2]; exact pm_addc _ _ 2 rfl (by omega) (by omega)
  refine pq_iaload ?_
  refine Exists.intro _ (Exists.intro _ (And.intro (Or.inr hro) (And.intro (by omega) ?_)))
  obtain ⟨a2, ha2⟩ : ∃ z9, z9 = xs m2.toInt.toNat := ⟨_, rfl⟩
  have m_a2 := em2
  rw [← ha2]
  refine pq_iv2_10 ?_
  refine And.intro (Exists.intro _ (cw_o0 hI.1)) (Exists.intro _ (Exists.intro _ (Exists.intro _ (Exists.intro _ (And.intro (c_X10_weigh hI hS a1 a2 ) (And.intro (lw_bnd rfl (by omega) (by omega) rfl) (fun r9 A9 h9 => ?_)))))))
  obtain ⟨e775, y775, rfl, rfl, hI775, h40_775, hc775⟩ := lx_wc hI h9
  refine pq_id1 (pq_pop (pq_aload_n2 (pq_aload_n0 (pq_iload_n3 (pq_iconst (pq_iadd ?_))))))
  intro m3 em3
  have e3 : m3.toInt = i.toInt + 1 := by rw [em3]; exact pm_addc _ _ 1 rfl (by omega) (by omega)
  refine pq_iaload ?_
  refine Exists.intro _ (Exists.intro _ (And.intro (Or.inr hro) (And.intro (by omega) ?_)))
  have ha1_3 : a1 = xs m3.toInt.toNat := by rw [ha1, em3, ← m_a1]
  rw [← ha1_3]
  refine pq_aload_n0 (pq_iload_n3 (pq_iconst (pq_iadd ?_)))
  intro m4 em4
  have e4 : m4.toInt = i.toInt + 2 := by rw [em4]; exact pm_addc _ _ 2 rfl (by omega) (by omega)
  refine pq_iaload ?_
  refine Exists.intro _ (Exists.intro _ (And.intro (Or.inr hro) (And.intro (by omega) ?_)))
  have ha2_4 : a2 = xs m4.toInt.toNat := by rw [ha2, em4, ← m_a2]
  rw [← ha2_4]
  refine pq_iv2_11 ?_
  rw [cw_md D dj]
  refine And.intro (Exists.intro _ (md_o)) (Exists.intro _ (Exists.intro _ (Exists.intro _ (Exists.intro _ (And.intro (c_X11_weigh D mv mf hv hf a1 a2 ) (And.intro (lw_bnd rfl (by omega) (by omega) rfl) (fun r9 A9 h9 => ?_)))))))
  obtain ⟨mf790, y790, rfl, rfl, hf790, h01_790, hm790⟩ := lx_wmh D hf h9
  refine pq_id1 (pq_pop (pq_goto ?_))
  exact cont _ _ _ ⟨A00, K, nn, dn, q, w, e775, v, f, mq, mv, mf790, M, (cw_md D dj).symm, rfl, hI775, hS, D, hv, hf790, dj, lx_ww hw hc775 hm790, by omega, by omega, (rp_fr hR1 rfl (h40_775 (nn + 1) (by omega)) (h40_775 (nn + 2) (by omega))), (rp_fr hR2 rfl h01_790.1 h01_790.2.1), hg, (by omega), hN, hM, (bd_fr hB rfl (h40_775 (nn + 1) (by omega)) (h40_775 (nn + 3) (by omega))), (HX_m (HX_c hH rfl (fun i9 h9 => ⟨rfl, h40_775 i9 h9⟩)) h01_790.2.2.1 h01_790.2.2.2.1 h01_790.2.2.2.2)⟩ (by omega) (by omega)
end
end
section
section
variable {l : Launch} {g : pm_G} {b L : Nat} {xs : Nat → Int32} {J : pm_J} {xo h : Nat}
set_option maxRecDepth 100000 in
set_option maxHeartbeats 2000000 in
theorem lx_b15 (hC : pm_Cl l g (lw_ro b L xs) 7 600000 7302250 lw_Rt bk_L_law J) {i : Int32} (hi : 0 ≤ i.toInt ∧ i.toInt + 6 ≤ L) (hL : L ≤ 3072) {E : Nat} (hE : E < 1000) {A : pm_H} {c s : Nat} (hA : LX g xo h E A) (hc : c + 4 ≤ 600000) (hs0 : s + 485 ≤ 7302250) (cont : ∀ (A' : pm_H) (c' s' : Nat), LX g xo h (E + 1) A' → c' ≤ c + 4 → s' ≤ s + 485 → J 2563 [some (.ref b), some (.ref xo), some (.ref h), some (.int i)] [] A' c' s') : J 797 [some (.ref b), some (.ref xo), some (.ref h), some (.int i)] [] A c s := by
  obtain ⟨A00, K, nn, dn, q, w, e, v, f, mq, mv, mf, M, rfl, rfl, hI, hS, D, hv, hf, dj, hw, hE1, hE2, hR1, hR2, hg, he0, hN, hM, hB, hH⟩ := hA
  have hu9 := hI.2.1
  unfold cw_W at hu9
  have hro : lw_ro b L xs b = some (L, xs) := if_pos rfl
  refine hC.1 15 797 _ _ rfl _ _ _ _ _ ?_
  refine pq_aload_n1 (pq_aload_n0 (pq_iload_n3 (pq_iconst (pq_iadd ?_))))
  intro m1 em1
  have e1 : m1.toInt = i.toInt + 1 := by rw [em1]; exact pm_addc _ _ 1 rfl (by omega) (by omega)
  refine pq_iaload ?_
  refine Exists.intro _ (Exists.intro _ (And.intro (Or.inr hro) (And.intro (by omega) ?_)))
  obtain ⟨a1, ha1⟩ : ∃ z9, z9 = xs m1.toInt.toNat := ⟨_, rfl⟩
  have m_a1 := em1
  rw [← ha1]
  refine pq_aload_n0 (pq_iload_n3 (pq_iconst (pq_iadd ?_)))
  intro m2 em2
  have e2 : m2.toInt = i.toInt + 2 := by rw [em2]; exact pm_addc _ _ 2 rfl (by omega) (by omega)
  refine pq_iaload ?_
  refine Exists.intro _ (Exists.intro _ (And.intro (Or.inr hro) (And.intro (by omega) ?_)))
  obtain ⟨a2, ha2⟩ : ∃ z9, z9 = xs m2.toInt.toNat := ⟨_, rfl⟩
  have m_a2 := em2
  rw [← ha2]
  refine pq_iv2_10 ?_
  refine And.intro (Exists.intro _ (cw_o0 hI.1)) (Exists.intro _ (Exists.intro _ (Exists.intro _ (Exists.intro _ (And.intro (c_X10_at hI hS a1 a2 ) (And.intro (lw_bnd rfl (by omega) (by omega) rfl) (fun r9 A9 h9 => ?_)))))))
  obtain ⟨y808, rfl, rfl, by808⟩ := h9
  refine pq_id1 (pq_pop (pq_aload_n2 (pq_aload_n0 (pq_iload_n3 (pq_iconst (pq_iadd ?_))))))
  intro m3 em3
  have e3 : m3.toInt = i.toInt + 1 := by rw [em3]; exact pm_addc _ _ 1 rfl (by omega) (by omega)
  refine pq_iaload ?_
  refine Exists.intro _ (Exists.intro _ (And.intro (Or.inr hro) (And.intro (by omega) ?_)))
  have ha1_3 : a1 = xs m3.toInt.toNat := by rw [ha1, em3, ← m_a1]
  rw [← ha1_3]
  refine pq_aload_n0 (pq_iload_n3 (pq_iconst (pq_iadd ?_)))
  intro m4 em4
  have e4 : m4.toInt = i.toInt + 2 := by rw [em4]; exact pm_addc _ _ 2 rfl (by omega) (by omega)
  refine pq_iaload ?_
  refine Exists.intro _ (Exists.intro _ (And.intro (Or.inr hro) (And.intro (by omega) ?_)))
  have ha2_4 : a2 = xs m4.toInt.toNat := by rw [ha2, em4, ← m_a2]
  rw [← ha2_4]
  refine pq_iv2_11 ?_
  rw [cw_md D dj]
  refine And.intro (Exists.intro _ (md_o)) (Exists.intro _ (Exists.intro _ (Exists.intro _ (Exists.intro _ (And.intro (c_X11_at D mv mf hv hf a1 a2 ) (And.intro (lw_bnd rfl (by omega) (by omega) rfl) (fun r9 A9 h9 => ?_)))))))
  obtain ⟨y823, rfl, rfl, by823⟩ := h9
  refine pq_id1 (pq_pop (pq_goto ?_))
  exact cont _ _ _ ⟨A00, K, nn, dn, q, w, e, v, f, mq, mv, mf, M, (cw_md D dj).symm, rfl, hI, hS, D, hv, hf, dj, fun j hj => by exact hw j hj, by omega, by omega, hR1, hR2, hg, (by omega), hN, hM, hB, hH⟩ (by omega) (by omega)

set_option maxRecDepth 100000 in
set_option maxHeartbeats 2000000 in
theorem lx_b16 (hC : pm_Cl l g (lw_ro b L xs) 7 600000 7302250 lw_Rt bk_L_law J) {i : Int32} (hi : 0 ≤ i.toInt ∧ i.toInt + 6 ≤ L) (hL : L ≤ 3072) {E : Nat} (hE : E < 1000) {A : pm_H} {c s : Nat} (hA : LX g xo h E A) (hc : c + 4 ≤ 600000) (hs0 : s + 485 ≤ 7302250) (cont : ∀ (A' : pm_H) (c' s' : Nat), LX g xo h (E + 1) A' → c' ≤ c + 4 → s' ≤ s + 485 → J 2563 [some (.ref b), some (.ref xo), some (.ref h), some (.int i)] [] A' c' s') : J 830 [some (.ref b), some (.ref xo), some (.ref h), some (.int i)] [] A c s := by
  obtain ⟨A00, K, nn, dn, q, w, e, v, f, mq, mv, mf, M, rfl, rfl, hI, hS, D, hv, hf, dj, hw, hE1, hE2, hR1, hR2, hg, he0, hN, hM, hB, hH⟩ := hA
  have hu9 := hI.2.1
  unfold cw_W at hu9
  have hro : lw_ro b L xs b = some (L, xs) := if_pos rfl
  refine hC.1 16 830 _ _ rfl _ _ _ _ _ ?_
  refine pq_aload_n1 (pq_aload_n0 (pq_iload_n3 (pq_iconst (pq_iadd ?_))))
  intro m1 em1
  have e1 : m1.toInt = i.toInt + 1 := by rw [em1]; exact pm_addc _ _ 1 rfl (by omega) (by omega)
  refine pq_iaload ?_
  refine Exists.intro _ (Exists.intro _ (And.intro (Or.inr hro) (And.intro (by omega) ?_)))
  obtain ⟨a1, ha1⟩ : ∃ z9, z9 = xs m1.toInt.toNat := ⟨_, rfl⟩
  have m_a1 := em1
  rw [← ha1]
  refine pq_iv1_10 ?_
  refine And.intro (Exists.intro _ (cw_o0 hI.1)) (Exists.intro _ (Exists.intro _ (Exists.intro _ (Exists.intro _ (And.intro (F_X10_place hI hS a1 ) (And.intro (lw_bnd rfl (by omega) (by omega) rfl) (fun r9 A9 h9 => ?_)))))))
  obtain ⟨y836, rfl, rfl, by836⟩ := h9
  refine pq_id1 (pq_pop (pq_aload_n2 (pq_aload_n0 (pq_iload_n3 (pq_iconst (pq_iadd ?_))))))
  intro m2 em2
  have e2 : m2.toInt = i.toInt + 1 := by rw [em2]; exact pm_addc _ _ 1 rfl (by omega) (by omega)
  refine pq_iaload ?_
  refine Exists.intro _ (Exists.intro _ (And.intro (Or.inr hro) (And.intro (by omega) ?_)))
  have ha1_2 : a1 = xs m2.toInt.toNat := by rw [ha1, em2, ← m_a1]
  rw [← ha1_2]
  refine pq_iv1_11 ?_
  rw [cw_md D dj]
  refine And.intro (Exists.intro _ (md_o)) (Exists.intro _ (Exists.intro _ (Exists.intro _ (Exists.intro _ (And.intro (F_X11_place D mv mf hv hf a1 ) (And.intro (lw_bnd rfl (by omega) (by omega) rfl) (fun r9 A9 h9 => ?_)))))))
  obtain ⟨y846, rfl, rfl, by846⟩ := h9
  refine pq_id1 (pq_pop (pq_goto ?_))
  exact cont _ _ _ ⟨A00, K, nn, dn, q, w, e, v, f, mq, mv, mf, M, (cw_md D dj).symm, rfl, hI, hS, D, hv, hf, dj, fun j hj => by exact hw j hj, by omega, by omega, hR1, hR2, hg, (by omega), hN, hM, hB, hH⟩ (by omega) (by omega)

set_option maxRecDepth 100000 in
set_option maxHeartbeats 2000000 in
theorem lx_b17 (hC : pm_Cl l g (lw_ro b L xs) 7 600000 7302250 lw_Rt bk_L_law J) {i : Int32} (hi : 0 ≤ i.toInt ∧ i.toInt + 6 ≤ L) (hL : L ≤ 3072) {E : Nat} (hE : E < 1000) {A : pm_H} {c s : Nat} (hA : LX g xo h E A) (hc : c + 4 ≤ 600000) (hs0 : s + 485 ≤ 7302250) (cont : ∀ (A' : pm_H) (c' s' : Nat), LX g xo h (E + 1) A' → c' ≤ c + 4 → s' ≤ s + 485 → J 2563 [some (.ref b), some (.ref xo), some (.ref h), some (.int i)] [] A' c' s') : J 853 [some (.ref b), some (.ref xo), some (.ref h), some (.int i)] [] A c s := by
  obtain ⟨A00, K, nn, dn, q, w, e, v, f, mq, mv, mf, M, rfl, rfl, hI, hS, D, hv, hf, dj, hw, hE1, hE2, hR1, hR2, hg, he0, hN, hM, hB, hH⟩ := hA
  have hu9 := hI.2.1
  unfold cw_W at hu9
  have hro : lw_ro b L xs b = some (L, xs) := if_pos rfl
  refine hC.1 17 853 _ _ rfl _ _ _ _ _ ?_
  refine pq_aload_n1 (pq_aload_n0 (pq_iload_n3 (pq_iconst (pq_iadd ?_))))
  intro m1 em1
  have e1 : m1.toInt = i.toInt + 1 := by rw [em1]; exact pm_addc _ _ 1 rfl (by omega) (by omega)
  refine pq_iaload ?_
  refine Exists.intro _ (Exists.intro _ (And.intro (Or.inr hro) (And.intro (by omega) ?_)))
  obtain ⟨a1, ha1⟩ : ∃ z9, z9 = xs m1.toInt.toNat := ⟨_, rfl⟩
  have m_a1 := em1
  rw [← ha1]
  refine pq_aload_n0 (pq_iload_n3 (pq_iconst (pq_iadd ?_)))
  intro m2 em2
  have e2 : m2.toInt = i.toInt + 2 := by rw [em2]; exact pm_addc _ _ 2 rfl (by omega) (by omega)
  refine pq_iaload ?_
  refine Exists.intro _ (Exists.intro _ (And.intro (Or.inr hro) (And.intro (by omega) ?_)))
  obtain ⟨a2, ha2⟩ : ∃ z9, z9 = xs m2.toInt.toNat := ⟨_, rfl⟩
  have m_a2 := em2
  rw [← ha2]
  refine pq_iv2_10 ?_
  refine And.intro (Exists.intro _ (cw_o0 hI.1)) (Exists.intro _ (Exists.intro _ (Exists.intro _ (Exists.intro _ (And.intro (c_X10_colour hI hS a1 a2 ) (And.intro (lw_bnd rfl (by omega) (by omega) rfl) (fun r9 A9 h9 => ?_)))))))
  obtain ⟨y864, rfl, rfl, by864⟩ := h9
  refine pq_id1 (pq_pop (pq_aload_n2 (pq_aload_n0 (pq_iload_n3 (pq_iconst (pq_iadd ?_))))))
  intro m3 em3
  have e3 : m3.toInt = i.toInt + 1 := by rw [em3]; exact pm_addc _ _ 1 rfl (by omega) (by omega)
  refine pq_iaload ?_
  refine Exists.intro _ (Exists.intro _ (And.intro (Or.inr hro) (And.intro (by omega) ?_)))
  have ha1_3 : a1 = xs m3.toInt.toNat := by rw [ha1, em3, ← m_a1]
  rw [← ha1_3]
  refine pq_aload_n0 (pq_iload_n3 (pq_iconst (pq_iadd ?_)))
  intro m4 em4
  have e4 : m4.toInt = i.toInt + 2 := by rw [em4]; exact pm_addc _ _ 2 rfl (by omega) (by omega)
  refine pq_iaload ?_
  refine Exists.intro _ (Exists.intro _ (And.intro (Or.inr hro) (And.intro (by omega) ?_)))
  have ha2_4 : a2 = xs m4.toInt.toNat := by rw [ha2, em4, ← m_a2]
  rw [← ha2_4]
  refine pq_iv2_11 ?_
  rw [cw_md D dj]
  refine And.intro (Exists.intro _ (md_o)) (Exists.intro _ (Exists.intro _ (Exists.intro _ (Exists.intro _ (And.intro (c_X11_colour D mv mf hv hf a1 a2 ) (And.intro (lw_bnd rfl (by omega) (by omega) rfl) (fun r9 A9 h9 => ?_)))))))
  obtain ⟨y879, rfl, rfl, by879⟩ := h9
  refine pq_id1 (pq_pop (pq_goto ?_))
  exact cont _ _ _ ⟨A00, K, nn, dn, q, w, e, v, f, mq, mv, mf, M, (cw_md D dj).symm, rfl, hI, hS, D, hv, hf, dj, fun j hj => by exact hw j hj, by omega, by omega, hR1, hR2, hg, (by omega), hN, hM, hB, hH⟩ (by omega) (by omega)

set_option maxRecDepth 100000 in
set_option maxHeartbeats 2000000 in
theorem lx_b18 (hC : pm_Cl l g (lw_ro b L xs) 7 600000 7302250 lw_Rt bk_L_law J) {i : Int32} (hi : 0 ≤ i.toInt ∧ i.toInt + 6 ≤ L) (hL : L ≤ 3072) {E : Nat} (hE : E < 1000) {A : pm_H} {c s : Nat} (hA : LX g xo h E A) (hc : c + 4 ≤ 600000) (hs0 : s + 485 ≤ 7302250) (cont : ∀ (A' : pm_H) (c' s' : Nat), LX g xo h (E + 1) A' → c' ≤ c + 4 → s' ≤ s + 485 → J 2563 [some (.ref b), some (.ref xo), some (.ref h), some (.int i)] [] A' c' s') : J 886 [some (.ref b), some (.ref xo), some (.ref h), some (.int i)] [] A c s := by
  obtain ⟨A00, K, nn, dn, q, w, e, v, f, mq, mv, mf, M, rfl, rfl, hI, hS, D, hv, hf, dj, hw, hE1, hE2, hR1, hR2, hg, he0, hN, hM, hB, hH⟩ := hA
  have hu9 := hI.2.1
  unfold cw_W at hu9
  have hro : lw_ro b L xs b = some (L, xs) := if_pos rfl
  refine hC.1 18 886 _ _ rfl _ _ _ _ _ ?_
  refine pq_aload_n1 (pq_aload_n0 (pq_iload_n3 (pq_iconst (pq_iadd ?_))))
  intro m1 em1
  have e1 : m1.toInt = i.toInt + 1 := by rw [em1]; exact pm_addc _ _ 1 rfl (by omega) (by omega)
  refine pq_iaload ?_
  refine Exists.intro _ (Exists.intro _ (And.intro (Or.inr hro) (And.intro (by omega) ?_)))
  obtain ⟨a1, ha1⟩ : ∃ z9, z9 = xs m1.toInt.toNat := ⟨_, rfl⟩
  have m_a1 := em1
  rw [← ha1]
  refine pq_aload_n0 (pq_iload_n3 (pq_iconst (pq_iadd ?_)))
  intro m2 em2
  have e2 : m2.toInt = i.toInt + 2 := by rw [em2]; exact pm_addc _ _ 2 rfl (by omega) (by omega)
  refine pq_iaload ?_
  refine Exists.intro _ (Exists.intro _ (And.intro (Or.inr hro) (And.intro (by omega) ?_)))
  obtain ⟨a2, ha2⟩ : ∃ z9, z9 = xs m2.toInt.toNat := ⟨_, rfl⟩
  have m_a2 := em2
  rw [← ha2]
  refine pq_iv2_10 ?_
  refine And.intro (Exists.intro _ (cw_o0 hI.1)) (Exists.intro _ (Exists.intro _ (Exists.intro _ (Exists.intro _ (And.intro (F_X10_nth hI hS a1 a2 ) (And.intro (lw_bnd rfl (by omega) (by omega) rfl) (fun r9 A9 h9 => ?_)))))))
  obtain ⟨y897, rfl, rfl, by897⟩ := h9
  refine pq_id1 (pq_pop (pq_aload_n2 (pq_aload_n0 (pq_iload_n3 (pq_iconst (pq_iadd ?_))))))
  intro m3 em3
  have e3 : m3.toInt = i.toInt + 1 := by rw [em3]; exact pm_addc _ _ 1 rfl (by omega) (by omega)
  refine pq_iaload ?_
  refine Exists.intro _ (Exists.intro _ (And.intro (Or.inr hro) (And.intro (by omega) ?_)))
  have ha1_3 : a1 = xs m3.toInt.toNat := by rw [ha1, em3, ← m_a1]
  rw [← ha1_3]
  refine pq_aload_n0 (pq_iload_n3 (pq_iconst (pq_iadd ?_)))
  intro m4 em4
  have e4 : m4.toInt = i.toInt + 2 := by rw [em4]; exact pm_addc _ _ 2 rfl (by omega) (by omega)
  refine pq_iaload ?_
  refine Exists.intro _ (Exists.intro _ (And.intro (Or.inr hro) (And.intro (by omega) ?_)))
  have ha2_4 : a2 = xs m4.toInt.toNat := by rw [ha2, em4, ← m_a2]
  rw [← ha2_4]
  refine pq_iv2_11 ?_
  rw [cw_md D dj]
  refine And.intro (Exists.intro _ (md_o)) (Exists.intro _ (Exists.intro _ (Exists.intro _ (Exists.intro _ (And.intro (F_X11_nth D mv mf hv hf a1 a2 ) (And.intro (lw_bnd rfl (by omega) (by omega) rfl) (fun r9 A9 h9 => ?_)))))))
  obtain ⟨y912, rfl, rfl, by912⟩ := h9
  refine pq_id1 (pq_pop (pq_goto ?_))
  exact cont _ _ _ ⟨A00, K, nn, dn, q, w, e, v, f, mq, mv, mf, M, (cw_md D dj).symm, rfl, hI, hS, D, hv, hf, dj, fun j hj => by exact hw j hj, by omega, by omega, hR1, hR2, hg, (by omega), hN, hM, hB, hH⟩ (by omega) (by omega)

set_option maxRecDepth 100000 in
set_option maxHeartbeats 2000000 in
theorem lx_b19 (hC : pm_Cl l g (lw_ro b L xs) 7 600000 7302250 lw_Rt bk_L_law J) {i : Int32} (hi : 0 ≤ i.toInt ∧ i.toInt + 6 ≤ L) (hL : L ≤ 3072) {E : Nat} (hE : E < 1000) {A : pm_H} {c s : Nat} (hA : LX g xo h E A) (hc : c + 4 ≤ 600000) (hs0 : s + 485 ≤ 7302250) (cont : ∀ (A' : pm_H) (c' s' : Nat), LX g xo h (E + 1) A' → c' ≤ c + 4 → s' ≤ s + 485 → J 2563 [some (.ref b), some (.ref xo), some (.ref h), some (.int i)] [] A' c' s') : J 919 [some (.ref b), some (.ref xo), some (.ref h), some (.int i)] [] A c s := by
  obtain ⟨A00, K, nn, dn, q, w, e, v, f, mq, mv, mf, M, rfl, rfl, hI, hS, D, hv, hf, dj, hw, hE1, hE2, hR1, hR2, hg, he0, hN, hM, hB, hH⟩ := hA
  have hu9 := hI.2.1
  unfold cw_W at hu9
  have hro : lw_ro b L xs b = some (L, xs) := if_pos rfl
  refine hC.1 19 919 _ _ rfl _ _ _ _ _ ?_
  refine pq_aload_n1 (pq_aload_n0 (pq_iload_n3 (pq_iconst (pq_iadd ?_))))
  intro m1 em1
  have e1 : m1.toInt = i.toInt + 1 := by rw [em1]; exact pm_addc _ _ 1 rfl (by omega) (by omega)
  refine pq_iaload ?_
  refine Exists.intro _ (Exists.intro _ (And.intro (Or.inr hro) (And.intro (by omega) ?_)))
  obtain ⟨a1, ha1⟩ : ∃ z9, z9 = xs m1.toInt.toNat := ⟨_, rfl⟩
  have m_a1 := em1
  rw [← ha1]
  refine pq_iv1_10 ?_
  refine And.intro (Exists.intro _ (cw_o0 hI.1)) (Exists.intro _ (Exists.intro _ (Exists.intro _ (Exists.intro _ (And.intro (c_X10_about hI hS a1 ) (And.intro (lw_bnd rfl (by omega) (by omega) rfl) (fun r9 A9 h9 => ?_)))))))
  obtain ⟨v925, f925, rfl, hS925, y925, rfl, by925⟩ := h9
  refine pq_id1 (pq_pop (pq_aload_n2 (pq_aload_n0 (pq_iload_n3 (pq_iconst (pq_iadd ?_))))))
  intro m2 em2
  have e2 : m2.toInt = i.toInt + 1 := by rw [em2]; exact pm_addc _ _ 1 rfl (by omega) (by omega)
  refine pq_iaload ?_
  refine Exists.intro _ (Exists.intro _ (And.intro (Or.inr hro) (And.intro (by omega) ?_)))
  have ha1_2 : a1 = xs m2.toInt.toNat := by rw [ha1, em2, ← m_a1]
  rw [← ha1_2]
  refine pq_iv1_11 ?_
  rw [cw_md D dj]
  refine And.intro (Exists.intro _ (md_o)) (Exists.intro _ (Exists.intro _ (Exists.intro _ (Exists.intro _ (And.intro (c_X11_about D mv mf hv hf a1 ) (And.intro (lw_bnd rfl (by omega) (by omega) rfl) (fun r9 A9 h9 => ?_)))))))
  obtain ⟨y935, rfl, rfl, by935⟩ := h9
  refine pq_id1 (pq_pop (pq_goto ?_))
  exact cont _ _ _ ⟨A00, K, nn, dn, q, w, e, v925, f925, mq, mv, mf, M, (cw_md D dj).symm, rfl, hI, hS925, D, hv, hf, dj, fun j hj => by exact hw j hj, by omega, by omega, hR1, hR2, hg, (by omega), hN, hM, hB, hH⟩ (by omega) (by omega)

set_option maxRecDepth 100000 in
set_option maxHeartbeats 2000000 in
theorem lx_b20 (hC : pm_Cl l g (lw_ro b L xs) 7 600000 7302250 lw_Rt bk_L_law J) {i : Int32} (hi : 0 ≤ i.toInt ∧ i.toInt + 6 ≤ L) (hL : L ≤ 3072) {E : Nat} (hE : E < 1000) {A : pm_H} {c s : Nat} (hA : LX g xo h E A) (hc : c + 4 ≤ 600000) (hs0 : s + 485 ≤ 7302250) (cont : ∀ (A' : pm_H) (c' s' : Nat), LX g xo h (E + 1) A' → c' ≤ c + 4 → s' ≤ s + 485 → J 2563 [some (.ref b), some (.ref xo), some (.ref h), some (.int i)] [] A' c' s') : J 942 [some (.ref b), some (.ref xo), some (.ref h), some (.int i)] [] A c s := by
  obtain ⟨A00, K, nn, dn, q, w, e, v, f, mq, mv, mf, M, rfl, rfl, hI, hS, D, hv, hf, dj, hw, hE1, hE2, hR1, hR2, hg, he0, hN, hM, hB, hH⟩ := hA
  have hu9 := hI.2.1
  unfold cw_W at hu9
  have hro : lw_ro b L xs b = some (L, xs) := if_pos rfl
  refine hC.1 20 942 _ _ rfl _ _ _ _ _ ?_
  refine pq_aload_n1 (pq_aload_n0 (pq_iload_n3 (pq_iconst (pq_iadd ?_))))
  intro m1 em1
  have e1 : m1.toInt = i.toInt + 1 := by rw [em1]; exact pm_addc _ _ 1 rfl (by omega) (by omega)
  refine pq_iaload ?_
  refine Exists.intro _ (Exists.intro _ (And.intro (Or.inr hro) (And.intro (by omega) ?_)))
  obtain ⟨a1, ha1⟩ : ∃ z9, z9 = xs m1.toInt.toNat := ⟨_, rfl⟩
  have m_a1 := em1
  rw [← ha1]
  refine pq_aload_n0 (pq_iload_n3 (pq_iconst (pq_iadd ?_)))
  intro m2 em2
  have e2 : m2.toInt = i.toInt + 2 := by rw [em2]; exact pm_addc _ _ 2 rfl (by omega) (by omega)
  refine pq_iaload ?_
  refine Exists.intro _ (Exists.intro _ (And.intro (Or.inr hro) (And.intro (by omega) ?_)))
  obtain ⟨a2, ha2⟩ : ∃ z9, z9 = xs m2.toInt.toNat := ⟨_, rfl⟩
  have m_a2 := em2
  rw [← ha2]
  refine pq_iv2_10 ?_
  refine And.intro (Exists.intro _ (cw_o0 hI.1)) (Exists.intro _ (Exists.intro _ (Exists.intro _ (Exists.intro _ (And.intro (c_X10_count hI hS a1 a2 ) (And.intro (lw_bnd rfl (by omega) (by omega) rfl) (fun r9 A9 h9 => ?_)))))))
  obtain ⟨v953, f953, rfl, hS953, y953, rfl, by953⟩ := h9
  refine pq_id1 (pq_pop (pq_aload_n2 (pq_aload_n0 (pq_iload_n3 (pq_iconst (pq_iadd ?_))))))
  intro m3 em3
  have e3 : m3.toInt = i.toInt + 1 := by rw [em3]; exact pm_addc _ _ 1 rfl (by omega) (by omega)
  refine pq_iaload ?_
  refine Exists.intro _ (Exists.intro _ (And.intro (Or.inr hro) (And.intro (by omega) ?_)))
  have ha1_3 : a1 = xs m3.toInt.toNat := by rw [ha1, em3, ← m_a1]
  rw [← ha1_3]
  refine pq_aload_n0 (pq_iload_n3 (pq_iconst (pq_iadd ?_)))
  intro m4 em4
  have e4 : m4.toInt = i.toInt + 2 := by rw [em4]; exact pm_addc _ _ 2 rfl (by omega) (by omega)
  refine pq_iaload ?_
  refine Exists.intro _ (Exists.intro _ (And.intro (Or.inr hro) (And.intro (by omega) ?_)))
  have ha2_4 : a2 = xs m4.toInt.toNat := by rw [ha2, em4, ← m_a2]
  rw [← ha2_4]
  refine pq_iv2_11 ?_
  rw [cw_md D dj]
  refine And.intro (Exists.intro _ (md_o)) (Exists.intro _ (Exists.intro _ (Exists.intro _ (Exists.intro _ (And.intro (c_X11_count D mv mf hv hf a1 a2 ) (And.intro (lw_bnd rfl (by omega) (by omega) rfl) (fun r9 A9 h9 => ?_)))))))
  obtain ⟨y968, rfl, rfl, by968⟩ := h9
  refine pq_id1 (pq_pop (pq_goto ?_))
  exact cont _ _ _ ⟨A00, K, nn, dn, q, w, e, v953, f953, mq, mv, mf, M, (cw_md D dj).symm, rfl, hI, hS953, D, hv, hf, dj, fun j hj => by exact hw j hj, by omega, by omega, hR1, hR2, hg, (by omega), hN, hM, hB, hH⟩ (by omega) (by omega)

set_option maxRecDepth 100000 in
set_option maxHeartbeats 2000000 in
theorem lx_b21 (hC : pm_Cl l g (lw_ro b L xs) 7 600000 7302250 lw_Rt bk_L_law J) {i : Int32} (hi : 0 ≤ i.toInt ∧ i.toInt + 6 ≤ L) (hL : L ≤ 3072) {E : Nat} (hE : E < 1000) {A : pm_H} {c s : Nat} (hA : LX g xo h E A) (hc : c + 4 ≤ 600000) (hs0 : s + 485 ≤ 7302250) (cont : ∀ (A' : pm_H) (c' s' : Nat), LX g xo h (E + 1) A' → c' ≤ c + 4 → s' ≤ s + 485 → J 2563 [some (.ref b), some (.ref xo), some (.ref h), some (.int i)] [] A' c' s') : J 975 [some (.ref b), some (.ref xo), some (.ref h), some (.int i)] [] A c s := by
  obtain ⟨A00, K, nn, dn, q, w, e, v, f, mq, mv, mf, M, rfl, rfl, hI, hS, D, hv, hf, dj, hw, hE1, hE2, hR1, hR2, hg, he0, hN, hM, hB, hH⟩ := hA
  have hu9 := hI.2.1
  unfold cw_W at hu9
  have hro : lw_ro b L xs b = some (L, xs) := if_pos rfl
  refine hC.1 21 975 _ _ rfl _ _ _ _ _ ?_
  refine pq_aload_n1 (pq_aload_n0 (pq_iload_n3 (pq_iconst (pq_iadd ?_))))
  intro m1 em1
  have e1 : m1.toInt = i.toInt + 1 := by rw [em1]; exact pm_addc _ _ 1 rfl (by omega) (by omega)
  refine pq_iaload ?_
  refine Exists.intro _ (Exists.intro _ (And.intro (Or.inr hro) (And.intro (by omega) ?_)))
  obtain ⟨a1, ha1⟩ : ∃ z9, z9 = xs m1.toInt.toNat := ⟨_, rfl⟩
  have m_a1 := em1
  rw [← ha1]
  refine pq_aload_n0 (pq_iload_n3 (pq_iconst (pq_iadd ?_)))
  intro m2 em2
  have e2 : m2.toInt = i.toInt + 2 := by rw [em2]; exact pm_addc _ _ 2 rfl (by omega) (by omega)
  refine pq_iaload ?_
  refine Exists.intro _ (Exists.intro _ (And.intro (Or.inr hro) (And.intro (by omega) ?_)))
  obtain ⟨a2, ha2⟩ : ∃ z9, z9 = xs m2.toInt.toNat := ⟨_, rfl⟩
  have m_a2 := em2
  rw [← ha2]
  refine pq_iv2_10 ?_
  refine And.intro (Exists.intro _ (cw_o0 hI.1)) (Exists.intro _ (Exists.intro _ (Exists.intro _ (Exists.intro _ (And.intro (c_X10_weight hI hS a1 a2 ) (And.intro (lw_bnd rfl (by omega) (by omega) rfl) (fun r9 A9 h9 => ?_)))))))
  obtain ⟨v986, f986, rfl, hS986, y986, rfl, by986⟩ := h9
  refine pq_id1 (pq_pop (pq_aload_n2 (pq_aload_n0 (pq_iload_n3 (pq_iconst (pq_iadd ?_))))))
  intro m3 em3
  have e3 : m3.toInt = i.toInt + 1 := by rw [em3]; exact pm_addc _ _ 1 rfl (by omega) (by omega)
  refine pq_iaload ?_
  refine Exists.intro _ (Exists.intro _ (And.intro (Or.inr hro) (And.intro (by omega) ?_)))
  have ha1_3 : a1 = xs m3.toInt.toNat := by rw [ha1, em3, ← m_a1]
  rw [← ha1_3]
  refine pq_aload_n0 (pq_iload_n3 (pq_iconst (pq_iadd ?_)))
  intro m4 em4
  have e4 : m4.toInt = i.toInt + 2 := by rw [em4]; exact pm_addc _ _ 2 rfl (by omega) (by omega)
  refine pq_iaload ?_
  refine Exists.intro _ (Exists.intro _ (And.intro (Or.inr hro) (And.intro (by omega) ?_)))
  have ha2_4 : a2 = xs m4.toInt.toNat := by rw [ha2, em4, ← m_a2]
  rw [← ha2_4]
  refine pq_iv2_11 ?_
  rw [cw_md D dj]
  refine And.intro (Exists.intro _ (md_o)) (Exists.intro _ (Exists.intro _ (Exists.intro _ (Exists.intro _ (And.intro (c_X11_weight D mv mf hv hf a1 a2 ) (And.intro (lw_bnd rfl (by omega) (by omega) rfl) (fun r9 A9 h9 => ?_)))))))
  obtain ⟨y1001, rfl, rfl, by1001⟩ := h9
  refine pq_id1 (pq_pop (pq_goto ?_))
  exact cont _ _ _ ⟨A00, K, nn, dn, q, w, e, v986, f986, mq, mv, mf, M, (cw_md D dj).symm, rfl, hI, hS986, D, hv, hf, dj, fun j hj => by exact hw j hj, by omega, by omega, hR1, hR2, hg, (by omega), hN, hM, hB, hH⟩ (by omega) (by omega)

set_option maxRecDepth 100000 in
set_option maxHeartbeats 2000000 in
theorem lx_b22 (hC : pm_Cl l g (lw_ro b L xs) 7 600000 7302250 lw_Rt bk_L_law J) {i : Int32} (hi : 0 ≤ i.toInt ∧ i.toInt + 6 ≤ L) (hL : L ≤ 3072) {E : Nat} (hE : E < 1000) {A : pm_H} {c s : Nat} (hA : LX g xo h E A) (hc : c + 4 ≤ 600000) (hs0 : s + 485 ≤ 7302250) (cont : ∀ (A' : pm_H) (c' s' : Nat), LX g xo h (E + 1) A' → c' ≤ c + 4 → s' ≤ s + 485 → J 2563 [some (.ref b), some (.ref xo), some (.ref h), some (.int i)] [] A' c' s') : J 1008 [some (.ref b), some (.ref xo), some (.ref h), some (.int i)] [] A c s := by
  obtain ⟨A00, K, nn, dn, q, w, e, v, f, mq, mv, mf, M, rfl, rfl, hI, hS, D, hv, hf, dj, hw, hE1, hE2, hR1, hR2, hg, he0, hN, hM, hB, hH⟩ := hA
  have hu9 := hI.2.1
  unfold cw_W at hu9
  have hro : lw_ro b L xs b = some (L, xs) := if_pos rfl
  refine hC.1 22 1008 _ _ rfl _ _ _ _ _ ?_
  refine pq_aload_n1 (pq_aload_n0 (pq_iload_n3 (pq_iconst (pq_iadd ?_))))
  intro m1 em1
  have e1 : m1.toInt = i.toInt + 1 := by rw [em1]; exact pm_addc _ _ 1 rfl (by omega) (by omega)
  refine pq_iaload ?_
  refine Exists.intro _ (Exists.intro _ (And.intro (Or.inr hro) (And.intro (by omega) ?_)))
  obtain ⟨a1, ha1⟩ : ∃ z9, z9 = xs m1.toInt.toNat := ⟨_, rfl⟩
  have m_a1 := em1
  rw [← ha1]
  refine pq_aload_n0 (pq_iload_n3 (pq_iconst (pq_iadd ?_)))
  intro m2 em2
  have e2 : m2.toInt = i.toInt + 2 := by rw [em2]; exact pm_addc _ _ 2 rfl (by omega) (by omega)
  refine pq_iaload ?_
  refine Exists.intro _ (Exists.intro _ (And.intro (Or.inr hro) (And.intro (by omega) ?_)))
  obtain ⟨a2, ha2⟩ : ∃ z9, z9 = xs m2.toInt.toNat := ⟨_, rfl⟩
  have m_a2 := em2
  rw [← ha2]
  refine pq_iv2_10 ?_
  refine And.intro (Exists.intro _ (cw_o0 hI.1)) (Exists.intro _ (Exists.intro _ (Exists.intro _ (Exists.intro _ (And.intro (c_X10_set hI hS a1 a2 ) (And.intro (lw_bnd rfl (by omega) (by omega) rfl) (fun r9 A9 h9 => ?_)))))))
  obtain ⟨v1019, f1019, rfl, hS1019, y1019, rfl, by1019⟩ := h9
  refine pq_id1 (pq_pop (pq_aload_n2 (pq_aload_n0 (pq_iload_n3 (pq_iconst (pq_iadd ?_))))))
  intro m3 em3
  have e3 : m3.toInt = i.toInt + 1 := by rw [em3]; exact pm_addc _ _ 1 rfl (by omega) (by omega)
  refine pq_iaload ?_
  refine Exists.intro _ (Exists.intro _ (And.intro (Or.inr hro) (And.intro (by omega) ?_)))
  have ha1_3 : a1 = xs m3.toInt.toNat := by rw [ha1, em3, ← m_a1]
  rw [← ha1_3]
  refine pq_aload_n0 (pq_iload_n3 (pq_iconst (pq_iadd ?_)))
  intro m4 em4
  have e4 : m4.toInt = i.toInt + 2 := by rw [em4]; exact pm_addc _ _ 2 rfl (by omega) (by omega)
  refine pq_iaload ?_
  refine Exists.intro _ (Exists.intro _ (And.intro (Or.inr hro) (And.intro (by omega) ?_)))
  have ha2_4 : a2 = xs m4.toInt.toNat := by rw [ha2, em4, ← m_a2]
  rw [← ha2_4]
  refine pq_iv2_11 ?_
  rw [cw_md D dj]
  refine And.intro (Exists.intro _ (md_o)) (Exists.intro _ (Exists.intro _ (Exists.intro _ (Exists.intro _ (And.intro (c_X11_set D mv mf hv hf a1 a2 ) (And.intro (lw_bnd rfl (by omega) (by omega) rfl) (fun r9 A9 h9 => ?_)))))))
  obtain ⟨y1034, rfl, rfl, by1034⟩ := h9
  refine pq_id1 (pq_pop (pq_goto ?_))
  exact cont _ _ _ ⟨A00, K, nn, dn, q, w, e, v1019, f1019, mq, mv, mf, M, (cw_md D dj).symm, rfl, hI, hS1019, D, hv, hf, dj, fun j hj => by exact hw j hj, by omega, by omega, hR1, hR2, hg, (by omega), hN, hM, hB, hH⟩ (by omega) (by omega)

set_option maxRecDepth 100000 in
set_option maxHeartbeats 2000000 in
theorem lx_b23 (hC : pm_Cl l g (lw_ro b L xs) 7 600000 7302250 lw_Rt bk_L_law J) {i : Int32} (hi : 0 ≤ i.toInt ∧ i.toInt + 6 ≤ L) (hL : L ≤ 3072) {E : Nat} (hE : E < 1000) {A : pm_H} {c s : Nat} (hA : LX g xo h E A) (hc : c + 4 ≤ 600000) (hs0 : s + 485 ≤ 7302250) (cont : ∀ (A' : pm_H) (c' s' : Nat), LX g xo h (E + 1) A' → c' ≤ c + 4 → s' ≤ s + 485 → J 2563 [some (.ref b), some (.ref xo), some (.ref h), some (.int i)] [] A' c' s') : J 1041 [some (.ref b), some (.ref xo), some (.ref h), some (.int i)] [] A c s := by
  obtain ⟨A00, K, nn, dn, q, w, e, v, f, mq, mv, mf, M, rfl, rfl, hI, hS, D, hv, hf, dj, hw, hE1, hE2, hR1, hR2, hg, he0, hN, hM, hB, hH⟩ := hA
  have hu9 := hI.2.1
  unfold cw_W at hu9
  have hro : lw_ro b L xs b = some (L, xs) := if_pos rfl
  refine hC.1 23 1041 _ _ rfl _ _ _ _ _ ?_
  refine pq_aload_n1 (pq_aload_n0 (pq_iload_n3 (pq_iconst (pq_iadd ?_))))
  intro m1 em1
  have e1 : m1.toInt = i.toInt + 1 := by rw [em1]; exact pm_addc _ _ 1 rfl (by omega) (by omega)
  refine pq_iaload ?_
  refine Exists.intro _ (Exists.intro _ (And.intro (Or.inr hro) (And.intro (by omega) ?_)))
  obtain ⟨a1, ha1⟩ : ∃ z9, z9 = xs m1.toInt.toNat := ⟨_, rfl⟩
  have m_a1 := em1
  rw [← ha1]
  refine pq_aload_n0 (pq_iload_n3 (pq_iconst (pq_iadd ?_)))
  intro m2 em2
  have e2 : m2.toInt = i.toInt + 2 := by rw [em2]; exact pm_addc _ _ 2 rfl (by omega) (by omega)
  refine pq_iaload ?_
  refine Exists.intro _ (Exists.intro _ (And.intro (Or.inr hro) (And.intro (by omega) ?_)))
  obtain ⟨a2, ha2⟩ : ∃ z9, z9 = xs m2.toInt.toNat := ⟨_, rfl⟩
  have m_a2 := em2
  rw [← ha2]
  refine pq_aload_n0 (pq_iload_n3 (pq_iconst (pq_iadd ?_)))
  intro m3 em3
  have e3 : m3.toInt = i.toInt + 3 := by rw [em3]; exact pm_addc _ _ 3 rfl (by omega) (by omega)
  refine pq_iaload ?_
  refine Exists.intro _ (Exists.intro _ (And.intro (Or.inr hro) (And.intro (by omega) ?_)))
  obtain ⟨a3, ha3⟩ : ∃ z9, z9 = xs m3.toInt.toNat := ⟨_, rfl⟩
  have m_a3 := em3
  rw [← ha3]
  refine pq_iv3_10 ?_
  refine And.intro (Exists.intro _ (cw_o0 hI.1)) (Exists.intro _ (Exists.intro _ (Exists.intro _ (Exists.intro _ (And.intro (c_X10_times hI hS a1 a2 a3 ) (And.intro (lw_bnd rfl (by omega) (by omega) rfl) (fun r9 A9 h9 => ?_)))))))
  obtain ⟨v1057, f1057, rfl, hS1057, y1057, rfl, by1057⟩ := h9
  refine pq_id1 (pq_pop (pq_aload_n2 (pq_aload_n0 (pq_iload_n3 (pq_iconst (pq_iadd ?_))))))
  intro m4 em4
  have e4 : m4.toInt = i.toInt + 1 := by rw [em4]; exact pm_addc _ _ 1 rfl (by omega) (by omega)
  refine pq_iaload ?_
  refine Exists.intro _ (Exists.intro _ (And.intro (Or.inr hro) (And.intro (by omega) ?_)))
  have ha1_4 : a1 = xs m4.toInt.toNat := by rw [ha1, em4, ← m_a1]
  rw [← ha1_4]
  refine pq_aload_n0 (pq_iload_n3 (pq_iconst (pq_iadd ?_)))
  intro m5 em5
  have e5 : m5.toInt = i.toInt + 2 := by rw [em5]; exact pm_addc _ _ 2 rfl (by omega) (by omega)
  refine pq_iaload ?_
  refine Exists.intro _ (Exists.intro _ (And.intro (Or.inr hro) (And.intro (by omega) ?_)))
  have ha2_5 : a2 = xs m5.toInt.toNat := by rw [ha2, em5, ← m_a2]
  rw [← ha2_5]
  refine pq_aload_n0 (pq_iload_n3 (pq_iconst (pq_iadd ?_)))
  intro m6 em6
  have e6 : m6.toInt = i.toInt + 3 := by rw [em6]; exact pm_addc _ _ 3 rfl (by omega) (by omega)
  refine pq_iaload ?_
  refine Exists.intro _ (Exists.intro _ (And.intro (Or.inr hro) (And.intro (by omega) ?_)))
  have ha3_6 : a3 = xs m6.toInt.toNat := by rw [ha3, em6, ← m_a3]
  rw [← ha3_6]
  refine pq_iv3_11 ?_
  rw [cw_md D dj]
  refine And.intro (Exists.intro _ (md_o)) (Exists.intro _ (Exists.intro _ (Exists.intro _ (Exists.intro _ (And.intro (c_X11_times D mv mf hv hf a1 a2 a3 ) (And.intro (lw_bnd rfl (by omega) (by omega) rfl) (fun r9 A9 h9 => ?_)))))))
  obtain ⟨y1077, rfl, rfl, by1077⟩ := h9
  refine pq_id1 (pq_pop (pq_goto ?_))
  exact cont _ _ _ ⟨A00, K, nn, dn, q, w, e, v1057, f1057, mq, mv, mf, M, (cw_md D dj).symm, rfl, hI, hS1057, D, hv, hf, dj, fun j hj => by exact hw j hj, by omega, by omega, hR1, hR2, hg, (by omega), hN, hM, hB, hH⟩ (by omega) (by omega)

set_option maxRecDepth 100000 in
set_option maxHeartbeats 2000000 in
theorem lx_b24 (hC : pm_Cl l g (lw_ro b L xs) 7 600000 7302250 lw_Rt bk_L_law J) {i : Int32} (hi : 0 ≤ i.toInt ∧ i.toInt + 6 ≤ L) (hL : L ≤ 3072) {E : Nat} (hE : E < 1000) {A : pm_H} {c s : Nat} (hA : LX g xo h E A) (hc : c + 4 ≤ 600000) (hs0 : s + 485 ≤ 7302250) (cont : ∀ (A' : pm_H) (c' s' : Nat), LX g xo h (E + 1) A' → c' ≤ c + 4 → s' ≤ s + 485 → J 2563 [some (.ref b), some (.ref xo), some (.ref h), some (.int i)] [] A' c' s') : J 1084 [some (.ref b), some (.ref xo), some (.ref h), some (.int i)] [] A c s := by
  obtain ⟨A00, K, nn, dn, q, w, e, v, f, mq, mv, mf, M, rfl, rfl, hI, hS, D, hv, hf, dj, hw, hE1, hE2, hR1, hR2, hg, he0, hN, hM, hB, hH⟩ := hA
  have hu9 := hI.2.1
  unfold cw_W at hu9
  have hro : lw_ro b L xs b = some (L, xs) := if_pos rfl
  refine hC.1 24 1084 _ _ rfl _ _ _ _ _ ?_
  refine pq_aload_n1 (pq_aload_n0 (pq_iload_n3 (pq_iconst (pq_iadd ?_))))
  intro m1 em1
  have e1 : m1.toInt = i.toInt + 1 := by rw [em1]; exact pm_addc _ _ 1 rfl (by omega) (by omega)
  refine pq_iaload ?_
  refine Exists.intro _ (Exists.intro _ (And.intro (Or.inr hro) (And.intro (by omega) ?_)))
  obtain ⟨a1, ha1⟩ : ∃ z9, z9 = xs m1.toInt.toNat := ⟨_, rfl⟩
  have m_a1 := em1
  rw [← ha1]
  refine pq_aload_n0 (pq_iload_n3 (pq_iconst (pq_iadd ?_)))
  intro m2 em2
  have e2 : m2.toInt = i.toInt + 2 := by rw [em2]; exact pm_addc _ _ 2 rfl (by omega) (by omega)
  refine pq_iaload ?_
  refine Exists.intro _ (Exists.intro _ (And.intro (Or.inr hro) (And.intro (by omega) ?_)))
  obtain ⟨a2, ha2⟩ : ∃ z9, z9 = xs m2.toInt.toNat := ⟨_, rfl⟩
  have m_a2 := em2
  rw [← ha2]
  refine pq_aload_n0 (pq_iload_n3 (pq_iconst (pq_iadd ?_)))
  intro m3 em3
  have e3 : m3.toInt = i.toInt + 3 := by rw [em3]; exact pm_addc _ _ 3 rfl (by omega) (by omega)
  refine pq_iaload ?_
  refine Exists.intro _ (Exists.intro _ (And.intro (Or.inr hro) (And.intro (by omega) ?_)))
  obtain ⟨a3, ha3⟩ : ∃ z9, z9 = xs m3.toInt.toNat := ⟨_, rfl⟩
  have m_a3 := em3
  rw [← ha3]
  refine pq_iv3_10 ?_
  refine And.intro (Exists.intro _ (cw_o0 hI.1)) (Exists.intro _ (Exists.intro _ (Exists.intro _ (Exists.intro _ (And.intro (c_X10_often hI hS a1 a2 a3 ) (And.intro (lw_bnd rfl (by omega) (by omega) rfl) (fun r9 A9 h9 => ?_)))))))
  obtain ⟨v1100, f1100, rfl, hS1100, y1100, rfl, by1100⟩ := h9
  refine pq_id1 (pq_pop (pq_aload_n2 (pq_aload_n0 (pq_iload_n3 (pq_iconst (pq_iadd ?_))))))
  intro m4 em4
  have e4 : m4.toInt = i.toInt + 1 := by rw [em4]; exact pm_addc _ _ 1 rfl (by omega) (by omega)
  refine pq_iaload ?_
  refine Exists.intro _ (Exists.intro _ (And.intro (Or.inr hro) (And.intro (by omega) ?_)))
  have ha1_4 : a1 = xs m4.toInt.toNat := by rw [ha1, em4, ← m_a1]
  rw [← ha1_4]
  refine pq_aload_n0 (pq_iload_n3 (pq_iconst (pq_iadd ?_)))
  intro m5 em5
  have e5 : m5.toInt = i.toInt + 2 := by rw [em5]; exact pm_addc _ _ 2 rfl (by omega) (by omega)
  refine pq_iaload ?_
  refine Exists.intro _ (Exists.intro _ (And.intro (Or.inr hro) (And.intro (by omega) ?_)))
  have ha2_5 : a2 = xs m5.toInt.toNat := by rw [ha2, em5, ← m_a2]
  rw [← ha2_5]
  refine pq_aload_n0 (pq_iload_n3 (pq_iconst (pq_iadd ?_)))
  intro m6 em6
  have e6 : m6.toInt = i.toInt + 3 := by rw [em6]; exact pm_addc _ _ 3 rfl (by omega) (by omega)
  refine pq_iaload ?_
  refine Exists.intro _ (Exists.intro _ (And.intro (Or.inr hro) (And.intro (by omega) ?_)))
  have ha3_6 : a3 = xs m6.toInt.toNat := by rw [ha3, em6, ← m_a3]
  rw [← ha3_6]
  refine pq_iv3_11 ?_
  rw [cw_md D dj]
  refine And.intro (Exists.intro _ (md_o)) (Exists.intro _ (Exists.intro _ (Exists.intro _ (Exists.intro _ (And.intro (c_X11_often D mv mf hv hf a1 a2 a3 ) (And.intro (lw_bnd rfl (by omega) (by omega) rfl) (fun r9 A9 h9 => ?_)))))))
  obtain ⟨y1120, rfl, rfl, by1120⟩ := h9
  refine pq_id1 (pq_pop (pq_goto ?_))
  exact cont _ _ _ ⟨A00, K, nn, dn, q, w, e, v1100, f1100, mq, mv, mf, M, (cw_md D dj).symm, rfl, hI, hS1100, D, hv, hf, dj, fun j hj => by exact hw j hj, by omega, by omega, hR1, hR2, hg, (by omega), hN, hM, hB, hH⟩ (by omega) (by omega)

set_option maxRecDepth 100000 in
set_option maxHeartbeats 2000000 in
theorem lx_b25 (hC : pm_Cl l g (lw_ro b L xs) 7 600000 7302250 lw_Rt bk_L_law J) {i : Int32} (hi : 0 ≤ i.toInt ∧ i.toInt + 6 ≤ L) (hL : L ≤ 3072) {E : Nat} (hE : E < 1000) {A : pm_H} {c s : Nat} (hA : LX g xo h E A) (hc : c + 4 ≤ 600000) (hs0 : s + 485 ≤ 7302250) (cont : ∀ (A' : pm_H) (c' s' : Nat), LX g xo h (E + 1) A' → c' ≤ c + 4 → s' ≤ s + 485 → J 2563 [some (.ref b), some (.ref xo), some (.ref h), some (.int i)] [] A' c' s') : J 1127 [some (.ref b), some (.ref xo), some (.ref h), some (.int i)] [] A c s := by
  obtain ⟨A00, K, nn, dn, q, w, e, v, f, mq, mv, mf, M, rfl, rfl, hI, hS, D, hv, hf, dj, hw, hE1, hE2, hR1, hR2, hg, he0, hN, hM, hB, hH⟩ := hA
  have hu9 := hI.2.1
  unfold cw_W at hu9
  have hro : lw_ro b L xs b = some (L, xs) := if_pos rfl
  refine hC.1 25 1127 _ _ rfl _ _ _ _ _ ?_
  refine pq_aload_n1 (pq_aload_n0 (pq_iload_n3 (pq_iconst (pq_iadd ?_))))
  intro m1 em1
  have e1 : m1.toInt = i.toInt + 1 := by rw [em1]; exact pm_addc _ _ 1 rfl (by omega) (by omega)
  refine pq_iaload ?_
  refine Exists.intro _ (Exists.intro _ (And.intro (Or.inr hro) (And.intro (by omega) ?_)))
  obtain ⟨a1, ha1⟩ : ∃ z9, z9 = xs m1.toInt.toNat := ⟨_, rfl⟩
  have m_a1 := em1
  rw [← ha1]
  refine pq_aload_n0 (pq_iload_n3 (pq_iconst (pq_iadd ?_)))
  intro m2 em2
  have e2 : m2.toInt = i.toInt + 2 := by rw [em2]; exact pm_addc _ _ 2 rfl (by omega) (by omega)
  refine pq_iaload ?_
  refine Exists.intro _ (Exists.intro _ (And.intro (Or.inr hro) (And.intro (by omega) ?_)))
  obtain ⟨a2, ha2⟩ : ∃ z9, z9 = xs m2.toInt.toNat := ⟨_, rfl⟩
  have m_a2 := em2
  rw [← ha2]
  refine pq_aload_n0 (pq_iload_n3 (pq_iconst (pq_iadd ?_)))
  intro m3 em3
  have e3 : m3.toInt = i.toInt + 3 := by rw [em3]; exact pm_addc _ _ 3 rfl (by omega) (by omega)
  refine pq_iaload ?_
  refine Exists.intro _ (Exists.intro _ (And.intro (Or.inr hro) (And.intro (by omega) ?_)))
  obtain ⟨a3, ha3⟩ : ∃ z9, z9 = xs m3.toInt.toNat := ⟨_, rfl⟩
  have m_a3 := em3
  rw [← ha3]
  refine pq_aload_n0 (pq_iload_n3 (pq_iconst (pq_iadd ?_)))
  intro m4 em4
  have e4 : m4.toInt = i.toInt + 4 := by rw [em4]; exact pm_addc _ _ 4 rfl (by omega) (by omega)
  refine pq_iaload ?_
  refine Exists.intro _ (Exists.intro _ (And.intro (Or.inr hro) (And.intro (by omega) ?_)))
  obtain ⟨a4, ha4⟩ : ∃ z9, z9 = xs m4.toInt.toNat := ⟨_, rfl⟩
  have m_a4 := em4
  rw [← ha4]
  refine pq_iv4_10 ?_
  refine And.intro (Exists.intro _ (cw_o0 hI.1)) (Exists.intro _ (Exists.intro _ (Exists.intro _ (Exists.intro _ (And.intro (c_X10_report hI hS a1 a2 a3 a4 ) (And.intro (lw_bnd rfl (by omega) (by omega) rfl) (fun r9 A9 h9 => ?_)))))))
  obtain ⟨v1148, f1148, rfl, hS1148, y1148, rfl, by1148⟩ := h9
  refine pq_id1 (pq_pop (pq_aload_n2 (pq_aload_n0 (pq_iload_n3 (pq_iconst (pq_iadd ?_))))))
  intro m5 em5
  have e5 : m5.toInt = i.toInt + 1 := by rw [em5]; exact pm_addc _ _ 1 rfl (by omega) (by omega)
  refine pq_iaload ?_
  refine Exists.intro _ (Exists.intro _ (And.intro (Or.inr hro) (And.intro (by omega) ?_)))
  have ha1_5 : a1 = xs m5.toInt.toNat := by rw [ha1, em5, ← m_a1]
  rw [← ha1_5]
  refine pq_aload_n0 (pq_iload_n3 (pq_iconst (pq_iadd ?_)))
  intro m6 em6
  have e6 : m6.toInt = i.toInt + 2 := by rw [em6]; exact pm_addc _ _ 2 rfl (by omega) (by omega)
  refine pq_iaload ?_
  refine Exists.intro _ (Exists.intro _ (And.intro (Or.inr hro) (And.intro (by omega) ?_)))
  have ha2_6 : a2 = xs m6.toInt.toNat := by rw [ha2, em6, ← m_a2]
  rw [← ha2_6]
  refine pq_aload_n0 (pq_iload_n3 (pq_iconst (pq_iadd ?_)))
  intro m7 em7
  have e7 : m7.toInt = i.toInt + 3 := by rw [em7]; exact pm_addc _ _ 3 rfl (by omega) (by omega)
  refine pq_iaload ?_
  refine Exists.intro _ (Exists.intro _ (And.intro (Or.inr hro) (And.intro (by omega) ?_)))
  have ha3_7 : a3 = xs m7.toInt.toNat := by rw [ha3, em7, ← m_a3]
  rw [← ha3_7]
  refine pq_aload_n0 (pq_iload_n3 (pq_iconst (pq_iadd ?_)))
  intro m8 em8
  have e8 : m8.toInt = i.toInt + 4 := by rw [em8]; exact pm_addc _ _ 4 rfl (by omega) (by omega)
  refine pq_iaload ?_
  refine Exists.intro _ (Exists.intro _ (And.intro (Or.inr hro) (And.intro (by omega) ?_)))
  have ha4_8 : a4 = xs m8.toInt.toNat := by rw [ha4, em8, ← m_a4]
  rw [← ha4_8]
  refine pq_iv4_11 ?_
  rw [cw_md D dj]
  refine And.intro (Exists.intro _ (md_o)) (Exists.intro _ (Exists.intro _ (Exists.intro _ (Exists.intro _ (And.intro (c_X11_report D mv mf hv hf a1 a2 a3 a4 ) (And.intro (lw_bnd rfl (by omega) (by omega) rfl) (fun r9 A9 h9 => ?_)))))))
  obtain ⟨y1173, rfl, rfl, by1173⟩ := h9
  refine pq_id1 (pq_pop (pq_goto ?_))
  exact cont _ _ _ ⟨A00, K, nn, dn, q, w, e, v1148, f1148, mq, mv, mf, M, (cw_md D dj).symm, rfl, hI, hS1148, D, hv, hf, dj, fun j hj => by exact hw j hj, by omega, by omega, hR1, hR2, hg, (by omega), hN, hM, hB, hH⟩ (by omega) (by omega)

set_option maxRecDepth 100000 in
set_option maxHeartbeats 2000000 in
theorem lx_b26 (hC : pm_Cl l g (lw_ro b L xs) 7 600000 7302250 lw_Rt bk_L_law J) {i : Int32} (hi : 0 ≤ i.toInt ∧ i.toInt + 6 ≤ L) (hL : L ≤ 3072) {E : Nat} (hE : E < 1000) {A : pm_H} {c s : Nat} (hA : LX g xo h E A) (hc : c + 4 ≤ 600000) (hs0 : s + 485 ≤ 7302250) (cont : ∀ (A' : pm_H) (c' s' : Nat), LX g xo h (E + 1) A' → c' ≤ c + 4 → s' ≤ s + 485 → J 2563 [some (.ref b), some (.ref xo), some (.ref h), some (.int i)] [] A' c' s') : J 1180 [some (.ref b), some (.ref xo), some (.ref h), some (.int i)] [] A c s := by
  obtain ⟨A00, K, nn, dn, q, w, e, v, f, mq, mv, mf, M, rfl, rfl, hI, hS, D, hv, hf, dj, hw, hE1, hE2, hR1, hR2, hg, he0, hN, hM, hB, hH⟩ := hA
  have hu9 := hI.2.1
  unfold cw_W at hu9
  have hro : lw_ro b L xs b = some (L, xs) := if_pos rfl
  refine hC.1 26 1180 _ _ rfl _ _ _ _ _ ?_
  refine pq_aload_n1 (pq_aload_n0 (pq_iload_n3 (pq_iconst (pq_iadd ?_))))
  intro m1 em1
  have e1 : m1.toInt = i.toInt + 1 := by rw [em1]; exact pm_addc _ _ 1 rfl (by omega) (by omega)
  refine pq_iaload ?_
  refine Exists.intro _ (Exists.intro _ (And.intro (Or.inr hro) (And.intro (by omega) ?_)))
  obtain ⟨a1, ha1⟩ : ∃ z9, z9 = xs m1.toInt.toNat := ⟨_, rfl⟩
  have m_a1 := em1
  rw [← ha1]
  refine pq_aload_n0 (pq_iload_n3 (pq_iconst (pq_iadd ?_)))
  intro m2 em2
  have e2 : m2.toInt = i.toInt + 2 := by rw [em2]; exact pm_addc _ _ 2 rfl (by omega) (by omega)
  refine pq_iaload ?_
  refine Exists.intro _ (Exists.intro _ (And.intro (Or.inr hro) (And.intro (by omega) ?_)))
  obtain ⟨a2, ha2⟩ : ∃ z9, z9 = xs m2.toInt.toNat := ⟨_, rfl⟩
  have m_a2 := em2
  rw [← ha2]
  refine pq_aload_n0 (pq_iload_n3 (pq_iconst (pq_iadd ?_)))
  intro m3 em3
  have e3 : m3.toInt = i.toInt + 3 := by rw [em3]; exact pm_addc _ _ 3 rfl (by omega) (by omega)
  refine pq_iaload ?_
  refine Exists.intro _ (Exists.intro _ (And.intro (Or.inr hro) (And.intro (by omega) ?_)))
  obtain ⟨a3, ha3⟩ : ∃ z9, z9 = xs m3.toInt.toNat := ⟨_, rfl⟩
  have m_a3 := em3
  rw [← ha3]
  refine pq_aload_n0 (pq_iload_n3 (pq_iconst (pq_iadd ?_)))
  intro m4 em4
  have e4 : m4.toInt = i.toInt + 4 := by rw [em4]; exact pm_addc _ _ 4 rfl (by omega) (by omega)
  refine pq_iaload ?_
  refine Exists.intro _ (Exists.intro _ (And.intro (Or.inr hro) (And.intro (by omega) ?_)))
  obtain ⟨a4, ha4⟩ : ∃ z9, z9 = xs m4.toInt.toNat := ⟨_, rfl⟩
  have m_a4 := em4
  rw [← ha4]
  refine pq_iv4_10 ?_
  refine And.intro (Exists.intro _ (cw_o0 hI.1)) (Exists.intro _ (Exists.intro _ (Exists.intro _ (Exists.intro _ (And.intro (c_X10_kth hI hS a1 a2 a3 a4 ) (And.intro (lw_bnd rfl (by omega) (by omega) rfl) (fun r9 A9 h9 => ?_)))))))
  obtain ⟨v1201, f1201, rfl, hS1201, y1201, rfl, by1201⟩ := h9
  refine pq_id1 (pq_pop (pq_aload_n2 (pq_aload_n0 (pq_iload_n3 (pq_iconst (pq_iadd ?_))))))
  intro m5 em5
  have e5 : m5.toInt = i.toInt + 1 := by rw [em5]; exact pm_addc _ _ 1 rfl (by omega) (by omega)
  refine pq_iaload ?_
  refine Exists.intro _ (Exists.intro _ (And.intro (Or.inr hro) (And.intro (by omega) ?_)))
  have ha1_5 : a1 = xs m5.toInt.toNat := by rw [ha1, em5, ← m_a1]
  rw [← ha1_5]
  refine pq_aload_n0 (pq_iload_n3 (pq_iconst (pq_iadd ?_)))
  intro m6 em6
  have e6 : m6.toInt = i.toInt + 2 := by rw [em6]; exact pm_addc _ _ 2 rfl (by omega) (by omega)
  refine pq_iaload ?_
  refine Exists.intro _ (Exists.intro _ (And.intro (Or.inr hro) (And.intro (by omega) ?_)))
  have ha2_6 : a2 = xs m6.toInt.toNat := by rw [ha2, em6, ← m_a2]
  rw [← ha2_6]
  refine pq_aload_n0 (pq_iload_n3 (pq_iconst (pq_iadd ?_)))
  intro m7 em7
  have e7 : m7.toInt = i.toInt + 3 := by rw [em7]; exact pm_addc _ _ 3 rfl (by omega) (by omega)
  refine pq_iaload ?_
  refine Exists.intro _ (Exists.intro _ (And.intro (Or.inr hro) (And.intro (by omega) ?_)))
  have ha3_7 : a3 = xs m7.toInt.toNat := by rw [ha3, em7, ← m_a3]
  rw [← ha3_7]
  refine pq_aload_n0 (pq_iload_n3 (pq_iconst (pq_iadd ?_)))
  intro m8 em8
  have e8 : m8.toInt = i.toInt + 4 := by rw [em8]; exact pm_addc _ _ 4 rfl (by omega) (by omega)
  refine pq_iaload ?_
  refine Exists.intro _ (Exists.intro _ (And.intro (Or.inr hro) (And.intro (by omega) ?_)))
  have ha4_8 : a4 = xs m8.toInt.toNat := by rw [ha4, em8, ← m_a4]
  rw [← ha4_8]
  refine pq_iv4_11 ?_
  rw [cw_md D dj]
  refine And.intro (Exists.intro _ (md_o)) (Exists.intro _ (Exists.intro _ (Exists.intro _ (Exists.intro _ (And.intro (Y_X11_kth D mv mf hv hf a1 a2 a3 a4 ) (And.intro (lw_bnd rfl (by omega) (by omega) rfl) (fun r9 A9 h9 => ?_)))))))
  obtain ⟨y1226, mv1226, mf1226, rfl, rfl, hv1226, hf1226, hx1226, hg1226_0, hg1226_1, hg1226_12, hg1226_13, hg1226_14, hg1226_15, by1226⟩ := h9
  refine pq_id1 (pq_pop (pq_goto ?_))
  exact cont _ _ _ ⟨A00, K, nn, dn, q, w, e, v1201, f1201, mq, mv1226, mf1226, M, (cw_md D dj).symm, rfl, hI, hS1201, D, hv1226, hf1226, dj, fun j hj => by rw [hx1226]; exact hw j hj, by omega, by omega, hR1, (rp_fr hR2 (by omega) hg1226_0 hg1226_1), (pm_eqI (by have q9 := congrArg Int32.toInt hg; omega)), (by omega), hN, hM, hB, (HX_m hH hg1226_12 hg1226_13 hg1226_14)⟩ (by omega) (by omega)

set_option maxRecDepth 100000 in
set_option maxHeartbeats 2000000 in
theorem lx_b27 (hC : pm_Cl l g (lw_ro b L xs) 7 600000 7302250 lw_Rt bk_L_law J) {i : Int32} (hi : 0 ≤ i.toInt ∧ i.toInt + 6 ≤ L) (hL : L ≤ 3072) {E : Nat} (hE : E < 1000) {A : pm_H} {c s : Nat} (hA : LX g xo h E A) (hc : c + 4 ≤ 600000) (hs0 : s + 485 ≤ 7302250) (cont : ∀ (A' : pm_H) (c' s' : Nat), LX g xo h (E + 1) A' → c' ≤ c + 4 → s' ≤ s + 485 → J 2563 [some (.ref b), some (.ref xo), some (.ref h), some (.int i)] [] A' c' s') : J 1233 [some (.ref b), some (.ref xo), some (.ref h), some (.int i)] [] A c s := by
  obtain ⟨A00, K, nn, dn, q, w, e, v, f, mq, mv, mf, M, rfl, rfl, hI, hS, D, hv, hf, dj, hw, hE1, hE2, hR1, hR2, hg, he0, hN, hM, hB, hH⟩ := hA
  have hu9 := hI.2.1
  unfold cw_W at hu9
  have hro : lw_ro b L xs b = some (L, xs) := if_pos rfl
  refine hC.1 27 1233 _ _ rfl _ _ _ _ _ ?_
  refine pq_aload_n1 (pq_aload_n0 (pq_iload_n3 (pq_iconst (pq_iadd ?_))))
  intro m1 em1
  have e1 : m1.toInt = i.toInt + 1 := by rw [em1]; exact pm_addc _ _ 1 rfl (by omega) (by omega)
  refine pq_iaload ?_
  refine Exists.intro _ (Exists.intro _ (And.intro (Or.inr hro) (And.intro (by omega) ?_)))
  obtain ⟨a1, ha1⟩ : ∃ z9, z9 = xs m1.toInt.toNat := ⟨_, rfl⟩
  have m_a1 := em1
  rw [← ha1]
  refine pq_aload_n0 (pq_iload_n3 (pq_iconst (pq_iadd ?_)))
  intro m2 em2
  have e2 : m2.toInt = i.toInt + 2 := by rw [em2]; exact pm_addc _ _ 2 rfl (by omega) (by omega)
  refine pq_iaload ?_
  refine Exists.intro _ (Exists.intro _ (And.intro (Or.inr hro) (And.intro (by omega) ?_)))
  obtain ⟨a2, ha2⟩ : ∃ z9, z9 = xs m2.toInt.toNat := ⟨_, rfl⟩
  have m_a2 := em2
  rw [← ha2]
  refine pq_aload_n0 (pq_iload_n3 (pq_iconst (pq_iadd ?_)))
  intro m3 em3
  have e3 : m3.toInt = i.toInt + 3 := by rw [em3]; exact pm_addc _ _ 3 rfl (by omega) (by omega)
  refine pq_iaload ?_
  refine Exists.intro _ (Exists.intro _ (And.intro (Or.inr hro) (And.intro (by omega) ?_)))
  obtain ⟨a3, ha3⟩ : ∃ z9, z9 = xs m3.toInt.toNat := ⟨_, rfl⟩
  have m_a3 := em3
  rw [← ha3]
  refine pq_iv3_10 ?_
  refine And.intro (Exists.intro _ (cw_o0 hI.1)) (Exists.intro _ (Exists.intro _ (Exists.intro _ (Exists.intro _ (And.intro (c_X10_absent hI hS a1 a2 a3 ) (And.intro (lw_bnd rfl (by omega) (by omega) rfl) (fun r9 A9 h9 => ?_)))))))
  obtain ⟨v1249, f1249, rfl, hS1249, y1249, rfl, by1249⟩ := h9
  refine pq_id1 (pq_pop (pq_aload_n2 (pq_aload_n0 (pq_iload_n3 (pq_iconst (pq_iadd ?_))))))
  intro m4 em4
  have e4 : m4.toInt = i.toInt + 1 := by rw [em4]; exact pm_addc _ _ 1 rfl (by omega) (by omega)
  refine pq_iaload ?_
  refine Exists.intro _ (Exists.intro _ (And.intro (Or.inr hro) (And.intro (by omega) ?_)))
  have ha1_4 : a1 = xs m4.toInt.toNat := by rw [ha1, em4, ← m_a1]
  rw [← ha1_4]
  refine pq_aload_n0 (pq_iload_n3 (pq_iconst (pq_iadd ?_)))
  intro m5 em5
  have e5 : m5.toInt = i.toInt + 2 := by rw [em5]; exact pm_addc _ _ 2 rfl (by omega) (by omega)
  refine pq_iaload ?_
  refine Exists.intro _ (Exists.intro _ (And.intro (Or.inr hro) (And.intro (by omega) ?_)))
  have ha2_5 : a2 = xs m5.toInt.toNat := by rw [ha2, em5, ← m_a2]
  rw [← ha2_5]
  refine pq_aload_n0 (pq_iload_n3 (pq_iconst (pq_iadd ?_)))
  intro m6 em6
  have e6 : m6.toInt = i.toInt + 3 := by rw [em6]; exact pm_addc _ _ 3 rfl (by omega) (by omega)
  refine pq_iaload ?_
  refine Exists.intro _ (Exists.intro _ (And.intro (Or.inr hro) (And.intro (by omega) ?_)))
  have ha3_6 : a3 = xs m6.toInt.toNat := by rw [ha3, em6, ← m_a3]
  rw [← ha3_6]
  refine pq_iv3_11 ?_
  rw [cw_md D dj]
  refine And.intro (Exists.intro _ (md_o)) (Exists.intro _ (Exists.intro _ (Exists.intro _ (Exists.intro _ (And.intro (c_X11_absent D mv mf hv hf a1 a2 a3 ) (And.intro (lw_bnd rfl (by omega) (by omega) rfl) (fun r9 A9 h9 => ?_)))))))
  obtain ⟨y1269, rfl, rfl, by1269⟩ := h9
  refine pq_id1 (pq_pop (pq_goto ?_))
  exact cont _ _ _ ⟨A00, K, nn, dn, q, w, e, v1249, f1249, mq, mv, mf, M, (cw_md D dj).symm, rfl, hI, hS1249, D, hv, hf, dj, fun j hj => by exact hw j hj, by omega, by omega, hR1, hR2, hg, (by omega), hN, hM, hB, hH⟩ (by omega) (by omega)
end
end
section
section
variable {l : Launch} {g : pm_G} {b L : Nat} {xs : Nat → Int32} {J : pm_J} {xo h : Nat}
set_option maxRecDepth 100000 in
set_option maxHeartbeats 2000000 in
theorem lx_b28 (hC : pm_Cl l g (lw_ro b L xs) 7 600000 7302250 lw_Rt bk_L_law J) {i : Int32} (hi : 0 ≤ i.toInt ∧ i.toInt + 6 ≤ L) (hL : L ≤ 3072) {E : Nat} (hE : E < 1000) {A : pm_H} {c s : Nat} (hA : LX g xo h E A) (hc : c + 4 ≤ 600000) (hs0 : s + 485 ≤ 7302250) (cont : ∀ (A' : pm_H) (c' s' : Nat), LX g xo h (E + 1) A' → c' ≤ c + 4 → s' ≤ s + 485 → J 2563 [some (.ref b), some (.ref xo), some (.ref h), some (.int i)] [] A' c' s') : J 1276 [some (.ref b), some (.ref xo), some (.ref h), some (.int i)] [] A c s := by
  obtain ⟨A00, K, nn, dn, q, w, e, v, f, mq, mv, mf, M, rfl, rfl, hI, hS, D, hv, hf, dj, hw, hE1, hE2, hR1, hR2, hg, he0, hN, hM, hB, hH⟩ := hA
  have hu9 := hI.2.1
  unfold cw_W at hu9
  have hro : lw_ro b L xs b = some (L, xs) := if_pos rfl
  refine hC.1 28 1276 _ _ rfl _ _ _ _ _ ?_
  refine pq_aload_n1 (pq_aload_n0 (pq_iload_n3 (pq_iconst (pq_iadd ?_))))
  intro m1 em1
  have e1 : m1.toInt = i.toInt + 1 := by rw [em1]; exact pm_addc _ _ 1 rfl (by omega) (by omega)
  refine pq_iaload ?_
  refine Exists.intro _ (Exists.intro _ (And.intro (Or.inr hro) (And.intro (by omega) ?_)))
  obtain ⟨a1, ha1⟩ : ∃ z9, z9 = xs m1.toInt.toNat := ⟨_, rfl⟩
  have m_a1 := em1
  rw [← ha1]
  refine pq_aload_n0 (pq_iload_n3 (pq_iconst (pq_iadd ?_)))
  intro m2 em2
  have e2 : m2.toInt = i.toInt + 2 := by rw [em2]; exact pm_addc _ _ 2 rfl (by omega) (by omega)
  refine pq_iaload ?_
  refine Exists.intro _ (Exists.intro _ (And.intro (Or.inr hro) (And.intro (by omega) ?_)))
  obtain ⟨a2, ha2⟩ : ∃ z9, z9 = xs m2.toInt.toNat := ⟨_, rfl⟩
  have m_a2 := em2
  rw [← ha2]
  refine pq_aload_n0 (pq_iload_n3 (pq_iconst (pq_iadd ?_)))
  intro m3 em3
  have e3 : m3.toInt = i.toInt + 3 := by rw [em3]; exact pm_addc _ _ 3 rfl (by omega) (by omega)
  refine pq_iaload ?_
  refine Exists.intro _ (Exists.intro _ (And.intro (Or.inr hro) (And.intro (by omega) ?_)))
  obtain ⟨a3, ha3⟩ : ∃ z9, z9 = xs m3.toInt.toNat := ⟨_, rfl⟩
  have m_a3 := em3
  rw [← ha3]
  refine pq_aload_n0 (pq_iload_n3 (pq_iconst (pq_iadd ?_)))
  intro m4 em4
  have e4 : m4.toInt = i.toInt + 4 := by rw [em4]; exact pm_addc _ _ 4 rfl (by omega) (by omega)
  refine pq_iaload ?_
  refine Exists.intro _ (Exists.intro _ (And.intro (Or.inr hro) (And.intro (by omega) ?_)))
  obtain ⟨a4, ha4⟩ : ∃ z9, z9 = xs m4.toInt.toNat := ⟨_, rfl⟩
  have m_a4 := em4
  rw [← ha4]
  refine pq_aload_n0 (pq_iload_n3 (pq_iconst (pq_iadd ?_)))
  intro m5 em5
  have e5 : m5.toInt = i.toInt + 5 := by rw [em5]; exact pm_addc _ _ 5 rfl (by omega) (by omega)
  refine pq_iaload ?_
  refine Exists.intro _ (Exists.intro _ (And.intro (Or.inr hro) (And.intro (by omega) ?_)))
  obtain ⟨a5, ha5⟩ : ∃ z9, z9 = xs m5.toInt.toNat := ⟨_, rfl⟩
  have m_a5 := em5
  rw [← ha5]
  refine pq_iv5_10 ?_
  refine And.intro (Exists.intro _ (cw_o0 hI.1)) (Exists.intro _ (Exists.intro _ (Exists.intro _ (Exists.intro _ (And.intro (c_X10_both hI hS a1 a2 a3 a4 a5 ) (And.intro (lw_bnd rfl (by omega) (by omega) rfl) (fun r9 A9 h9 => ?_)))))))
  obtain ⟨v1302, f1302, rfl, hS1302, y1302, rfl, by1302⟩ := h9
  refine pq_id1 (pq_pop (pq_aload_n2 (pq_aload_n0 (pq_iload_n3 (pq_iconst (pq_iadd ?_))))))
  intro m6 em6
  have e6 : m6.toInt = i.toInt + 1 := by rw [em6]; exact pm_addc _ _ 1 rfl (by omega) (by omega)
  refine pq_iaload ?_
  refine Exists.intro _ (Exists.intro _ (And.intro (Or.inr hro) (And.intro (by omega) ?_)))
  have ha1_6 : a1 = xs m6.toInt.toNat := by rw [ha1, em6, ← m_a1]
  rw [← ha1_6]
  refine pq_aload_n0 (pq_iload_n3 (pq_iconst (pq_iadd ?_)))
  intro m7 em7
  have e7 : m7.toInt = i.toInt + 2 := by rw [em7]; exact pm_addc _ _ 2 rfl (by omega) (by omega)
  refine pq_iaload ?_
  refine Exists.intro _ (Exists.intro _ (And.intro (Or.inr hro) (And.intro (by omega) ?_)))
  have ha2_7 : a2 = xs m7.toInt.toNat := by rw [ha2, em7, ← m_a2]
  rw [← ha2_7]
  refine pq_aload_n0 (pq_iload_n3 (pq_iconst (pq_iadd ?_)))
  intro m8 em8
  have e8 : m8.toInt = i.toInt + 3 := by rw [em8]; exact pm_addc _ _ 3 rfl (by omega) (by omega)
  refine pq_iaload ?_
  refine Exists.intro _ (Exists.intro _ (And.intro (Or.inr hro) (And.intro (by omega) ?_)))
  have ha3_8 : a3 = xs m8.toInt.toNat := by rw [ha3, em8, ← m_a3]
  rw [← ha3_8]
  refine pq_aload_n0 (pq_iload_n3 (pq_iconst (pq_iadd ?_)))
  intro m9 em9
  have e9 : m9.toInt = i.toInt + 4 := by rw [em9]; exact pm_addc _ _ 4 rfl (by omega) (by omega)
  refine pq_iaload ?_
  refine Exists.intro _ (Exists.intro _ (And.intro (Or.inr hro) (And.intro (by omega) ?_)))
  have ha4_9 : a4 = xs m9.toInt.toNat := by rw [ha4, em9, ← m_a4]
  rw [← ha4_9]
  refine pq_aload_n0 (pq_iload_n3 (pq_iconst (pq_iadd ?_)))
  intro m10 em10
  have e10 : m10.toInt = i.toInt + 5 := by rw [em10]; exact pm_addc _ _ 5 rfl (by omega) (by omega)
  refine pq_iaload ?_
  refine Exists.intro _ (Exists.intro _ (And.intro (Or.inr hro) (And.intro (by omega) ?_)))
  have ha5_10 : a5 = xs m10.toInt.toNat := by rw [ha5, em10, ← m_a5]
  rw [← ha5_10]
  refine pq_iv5_11 ?_
  rw [cw_md D dj]
  refine And.intro (Exists.intro _ (md_o)) (Exists.intro _ (Exists.intro _ (Exists.intro _ (Exists.intro _ (And.intro (c_X11_both D mv mf hv hf a1 a2 a3 a4 a5 ) (And.intro (lw_bnd rfl (by omega) (by omega) rfl) (fun r9 A9 h9 => ?_)))))))
  obtain ⟨y1332, rfl, rfl, by1332⟩ := h9
  refine pq_id1 (pq_pop (pq_goto ?_))
  exact cont _ _ _ ⟨A00, K, nn, dn, q, w, e, v1302, f1302, mq, mv, mf, M, (cw_md D dj).symm, rfl, hI, hS1302, D, hv, hf, dj, fun j hj => by exact hw j hj, by omega, by omega, hR1, hR2, hg, (by omega), hN, hM, hB, hH⟩ (by omega) (by omega)

set_option maxRecDepth 100000 in
set_option maxHeartbeats 2000000 in
theorem lx_b29 (hC : pm_Cl l g (lw_ro b L xs) 7 600000 7302250 lw_Rt bk_L_law J) {i : Int32} (hi : 0 ≤ i.toInt ∧ i.toInt + 6 ≤ L) (hL : L ≤ 3072) {E : Nat} (hE : E < 1000) {A : pm_H} {c s : Nat} (hA : LX g xo h E A) (hc : c + 4 ≤ 600000) (hs0 : s + 485 ≤ 7302250) (cont : ∀ (A' : pm_H) (c' s' : Nat), LX g xo h (E + 1) A' → c' ≤ c + 4 → s' ≤ s + 485 → J 2563 [some (.ref b), some (.ref xo), some (.ref h), some (.int i)] [] A' c' s') : J 1339 [some (.ref b), some (.ref xo), some (.ref h), some (.int i)] [] A c s := by
  obtain ⟨A00, K, nn, dn, q, w, e, v, f, mq, mv, mf, M, rfl, rfl, hI, hS, D, hv, hf, dj, hw, hE1, hE2, hR1, hR2, hg, he0, hN, hM, hB, hH⟩ := hA
  have hu9 := hI.2.1
  unfold cw_W at hu9
  have hro : lw_ro b L xs b = some (L, xs) := if_pos rfl
  refine hC.1 29 1339 _ _ rfl _ _ _ _ _ ?_
  refine pq_aload_n1 (pq_aload_n0 (pq_iload_n3 (pq_iconst (pq_iadd ?_))))
  intro m1 em1
  have e1 : m1.toInt = i.toInt + 1 := by rw [em1]; exact pm_addc _ _ 1 rfl (by omega) (by omega)
  refine pq_iaload ?_
  refine Exists.intro _ (Exists.intro _ (And.intro (Or.inr hro) (And.intro (by omega) ?_)))
  obtain ⟨a1, ha1⟩ : ∃ z9, z9 = xs m1.toInt.toNat := ⟨_, rfl⟩
  have m_a1 := em1
  rw [← ha1]
  refine pq_aload_n0 (pq_iload_n3 (pq_iconst (pq_iadd ?_)))
  intro m2 em2
  have e2 : m2.toInt = i.toInt + 2 := by rw [em2]; exact pm_addc _ _ 2 rfl (by omega) (by omega)
  refine pq_iaload ?_
  refine Exists.intro _ (Exists.intro _ (And.intro (Or.inr hro) (And.intro (by omega) ?_)))
  obtain ⟨a2, ha2⟩ : ∃ z9, z9 = xs m2.toInt.toNat := ⟨_, rfl⟩
  have m_a2 := em2
  rw [← ha2]
  refine pq_aload_n0 (pq_iload_n3 (pq_iconst (pq_iadd ?_)))
  intro m3 em3
  have e3 : m3.toInt = i.toInt + 3 := by rw [em3]; exact pm_addc _ _ 3 rfl (by omega) (by omega)
  refine pq_iaload ?_
  refine Exists.intro _ (Exists.intro _ (And.intro (Or.inr hro) (And.intro (by omega) ?_)))
  obtain ⟨a3, ha3⟩ : ∃ z9, z9 = xs m3.toInt.toNat := ⟨_, rfl⟩
  have m_a3 := em3
  rw [← ha3]
  refine pq_iv3_10 ?_
  refine And.intro (Exists.intro _ (cw_o0 hI.1)) (Exists.intro _ (Exists.intro _ (Exists.intro _ (Exists.intro _ (And.intro (c_X10_tally hI hS a1 a2 a3 ) (And.intro (lw_bnd rfl (by omega) (by omega) rfl) (fun r9 A9 h9 => ?_)))))))
  obtain ⟨v1355, f1355, rfl, hS1355, y1355, rfl, by1355⟩ := h9
  refine pq_id1 (pq_pop (pq_aload_n2 (pq_aload_n0 (pq_iload_n3 (pq_iconst (pq_iadd ?_))))))
  intro m4 em4
  have e4 : m4.toInt = i.toInt + 1 := by rw [em4]; exact pm_addc _ _ 1 rfl (by omega) (by omega)
  refine pq_iaload ?_
  refine Exists.intro _ (Exists.intro _ (And.intro (Or.inr hro) (And.intro (by omega) ?_)))
  have ha1_4 : a1 = xs m4.toInt.toNat := by rw [ha1, em4, ← m_a1]
  rw [← ha1_4]
  refine pq_aload_n0 (pq_iload_n3 (pq_iconst (pq_iadd ?_)))
  intro m5 em5
  have e5 : m5.toInt = i.toInt + 2 := by rw [em5]; exact pm_addc _ _ 2 rfl (by omega) (by omega)
  refine pq_iaload ?_
  refine Exists.intro _ (Exists.intro _ (And.intro (Or.inr hro) (And.intro (by omega) ?_)))
  have ha2_5 : a2 = xs m5.toInt.toNat := by rw [ha2, em5, ← m_a2]
  rw [← ha2_5]
  refine pq_aload_n0 (pq_iload_n3 (pq_iconst (pq_iadd ?_)))
  intro m6 em6
  have e6 : m6.toInt = i.toInt + 3 := by rw [em6]; exact pm_addc _ _ 3 rfl (by omega) (by omega)
  refine pq_iaload ?_
  refine Exists.intro _ (Exists.intro _ (And.intro (Or.inr hro) (And.intro (by omega) ?_)))
  have ha3_6 : a3 = xs m6.toInt.toNat := by rw [ha3, em6, ← m_a3]
  rw [← ha3_6]
  refine pq_iv3_11 ?_
  rw [cw_md D dj]
  refine And.intro (Exists.intro _ (md_o)) (Exists.intro _ (Exists.intro _ (Exists.intro _ (Exists.intro _ (And.intro (c_X11_tally D mv mf hv hf a1 a2 a3 ) (And.intro (lw_bnd rfl (by omega) (by omega) rfl) (fun r9 A9 h9 => ?_)))))))
  obtain ⟨y1375, rfl, rfl, by1375⟩ := h9
  refine pq_id1 (pq_pop (pq_goto ?_))
  exact cont _ _ _ ⟨A00, K, nn, dn, q, w, e, v1355, f1355, mq, mv, mf, M, (cw_md D dj).symm, rfl, hI, hS1355, D, hv, hf, dj, fun j hj => by exact hw j hj, by omega, by omega, hR1, hR2, hg, (by omega), hN, hM, hB, hH⟩ (by omega) (by omega)

set_option maxRecDepth 100000 in
set_option maxHeartbeats 2000000 in
theorem lx_b30 (hC : pm_Cl l g (lw_ro b L xs) 7 600000 7302250 lw_Rt bk_L_law J) {i : Int32} (hi : 0 ≤ i.toInt ∧ i.toInt + 6 ≤ L) (hL : L ≤ 3072) {E : Nat} (hE : E < 1000) {A : pm_H} {c s : Nat} (hA : LX g xo h E A) (hc : c + 4 ≤ 600000) (hs0 : s + 485 ≤ 7302250) (cont : ∀ (A' : pm_H) (c' s' : Nat), LX g xo h (E + 1) A' → c' ≤ c + 4 → s' ≤ s + 485 → J 2563 [some (.ref b), some (.ref xo), some (.ref h), some (.int i)] [] A' c' s') : J 1382 [some (.ref b), some (.ref xo), some (.ref h), some (.int i)] [] A c s := by
  obtain ⟨A00, K, nn, dn, q, w, e, v, f, mq, mv, mf, M, rfl, rfl, hI, hS, D, hv, hf, dj, hw, hE1, hE2, hR1, hR2, hg, he0, hN, hM, hB, hH⟩ := hA
  have hu9 := hI.2.1
  unfold cw_W at hu9
  have hro : lw_ro b L xs b = some (L, xs) := if_pos rfl
  refine hC.1 30 1382 _ _ rfl _ _ _ _ _ ?_
  refine pq_aload_n1 (pq_aload_n0 (pq_iload_n3 (pq_iconst (pq_iadd ?_))))
  intro m1 em1
  have e1 : m1.toInt = i.toInt + 1 := by rw [em1]; exact pm_addc _ _ 1 rfl (by omega) (by omega)
  refine pq_iaload ?_
  refine Exists.intro _ (Exists.intro _ (And.intro (Or.inr hro) (And.intro (by omega) ?_)))
  obtain ⟨a1, ha1⟩ : ∃ z9, z9 = xs m1.toInt.toNat := ⟨_, rfl⟩
  have m_a1 := em1
  rw [← ha1]
  refine pq_aload_n0 (pq_iload_n3 (pq_iconst (pq_iadd ?_)))
  intro m2 em2
  have e2 : m2.toInt = i.toInt + 2 := by rw [em2]; exact pm_addc _ _ 2 rfl (by omega) (by omega)
  refine pq_iaload ?_
  refine Exists.intro _ (Exists.intro _ (And.intro (Or.inr hro) (And.intro (by omega) ?_)))
  obtain ⟨a2, ha2⟩ : ∃ z9, z9 = xs m2.toInt.toNat := ⟨_, rfl⟩
  have m_a2 := em2
  rw [← ha2]
  refine pq_iv2_10 ?_
  refine And.intro (Exists.intro _ (cw_o0 hI.1)) (Exists.intro _ (Exists.intro _ (Exists.intro _ (Exists.intro _ (And.intro (c_X10_major hI hS a1 a2 ) (And.intro (lw_bnd rfl (by omega) (by omega) rfl) (fun r9 A9 h9 => ?_)))))))
  obtain ⟨v1393, f1393, rfl, hS1393, y1393, rfl, by1393⟩ := h9
  refine pq_id1 (pq_pop (pq_aload_n2 (pq_aload_n0 (pq_iload_n3 (pq_iconst (pq_iadd ?_))))))
  intro m3 em3
  have e3 : m3.toInt = i.toInt + 1 := by rw [em3]; exact pm_addc _ _ 1 rfl (by omega) (by omega)
  refine pq_iaload ?_
  refine Exists.intro _ (Exists.intro _ (And.intro (Or.inr hro) (And.intro (by omega) ?_)))
  have ha1_3 : a1 = xs m3.toInt.toNat := by rw [ha1, em3, ← m_a1]
  rw [← ha1_3]
  refine pq_aload_n0 (pq_iload_n3 (pq_iconst (pq_iadd ?_)))
  intro m4 em4
  have e4 : m4.toInt = i.toInt + 2 := by rw [em4]; exact pm_addc _ _ 2 rfl (by omega) (by omega)
  refine pq_iaload ?_
  refine Exists.intro _ (Exists.intro _ (And.intro (Or.inr hro) (And.intro (by omega) ?_)))
  have ha2_4 : a2 = xs m4.toInt.toNat := by rw [ha2, em4, ← m_a2]
  rw [← ha2_4]
  refine pq_iv2_11 ?_
  rw [cw_md D dj]
  refine And.intro (Exists.intro _ (md_o)) (Exists.intro _ (Exists.intro _ (Exists.intro _ (Exists.intro _ (And.intro (c_X11_major D mv mf hv hf a1 a2 ) (And.intro (lw_bnd rfl (by omega) (by omega) rfl) (fun r9 A9 h9 => ?_)))))))
  obtain ⟨y1408, rfl, rfl, by1408⟩ := h9
  refine pq_id1 (pq_pop (pq_goto ?_))
  exact cont _ _ _ ⟨A00, K, nn, dn, q, w, e, v1393, f1393, mq, mv, mf, M, (cw_md D dj).symm, rfl, hI, hS1393, D, hv, hf, dj, fun j hj => by exact hw j hj, by omega, by omega, hR1, hR2, hg, (by omega), hN, hM, hB, hH⟩ (by omega) (by omega)

set_option maxRecDepth 100000 in
set_option maxHeartbeats 2000000 in
theorem lx_b31 (hC : pm_Cl l g (lw_ro b L xs) 7 600000 7302250 lw_Rt bk_L_law J) {i : Int32} (hi : 0 ≤ i.toInt ∧ i.toInt + 6 ≤ L) (hL : L ≤ 3072) {E : Nat} (hE : E < 1000) {A : pm_H} {c s : Nat} (hA : LX g xo h E A) (hc : c + 4 ≤ 600000) (hs0 : s + 485 ≤ 7302250) (cont : ∀ (A' : pm_H) (c' s' : Nat), LX g xo h (E + 1) A' → c' ≤ c + 4 → s' ≤ s + 485 → J 2563 [some (.ref b), some (.ref xo), some (.ref h), some (.int i)] [] A' c' s') : J 1415 [some (.ref b), some (.ref xo), some (.ref h), some (.int i)] [] A c s := by
  obtain ⟨A00, K, nn, dn, q, w, e, v, f, mq, mv, mf, M, rfl, rfl, hI, hS, D, hv, hf, dj, hw, hE1, hE2, hR1, hR2, hg, he0, hN, hM, hB, hH⟩ := hA
  have hu9 := hI.2.1
  unfold cw_W at hu9
  have hro : lw_ro b L xs b = some (L, xs) := if_pos rfl
  refine hC.1 31 1415 _ _ rfl _ _ _ _ _ ?_
  refine pq_aload_n1 (pq_aload_n0 (pq_iload_n3 (pq_iconst (pq_iadd ?_))))
  intro m1 em1
  have e1 : m1.toInt = i.toInt + 1 := by rw [em1]; exact pm_addc _ _ 1 rfl (by omega) (by omega)
  refine pq_iaload ?_
  refine Exists.intro _ (Exists.intro _ (And.intro (Or.inr hro) (And.intro (by omega) ?_)))
  obtain ⟨a1, ha1⟩ : ∃ z9, z9 = xs m1.toInt.toNat := ⟨_, rfl⟩
  have m_a1 := em1
  rw [← ha1]
  refine pq_aload_n0 (pq_iload_n3 (pq_iconst (pq_iadd ?_)))
  intro m2 em2
  have e2 : m2.toInt = i.toInt + 2 := by rw [em2]; exact pm_addc _ _ 2 rfl (by omega) (by omega)
  refine pq_iaload ?_
  refine Exists.intro _ (Exists.intro _ (And.intro (Or.inr hro) (And.intro (by omega) ?_)))
  obtain ⟨a2, ha2⟩ : ∃ z9, z9 = xs m2.toInt.toNat := ⟨_, rfl⟩
  have m_a2 := em2
  rw [← ha2]
  refine pq_aload_n0 (pq_iload_n3 (pq_iconst (pq_iadd ?_)))
  intro m3 em3
  have e3 : m3.toInt = i.toInt + 3 := by rw [em3]; exact pm_addc _ _ 3 rfl (by omega) (by omega)
  refine pq_iaload ?_
  refine Exists.intro _ (Exists.intro _ (And.intro (Or.inr hro) (And.intro (by omega) ?_)))
  obtain ⟨a3, ha3⟩ : ∃ z9, z9 = xs m3.toInt.toNat := ⟨_, rfl⟩
  have m_a3 := em3
  rw [← ha3]
  refine pq_iv3_10 ?_
  refine And.intro (Exists.intro _ (cw_o0 hI.1)) (Exists.intro _ (Exists.intro _ (Exists.intro _ (Exists.intro _ (And.intro (c_X10_close hI hS a1 a2 a3 ) (And.intro (lw_bnd rfl (by omega) (by omega) rfl) (fun r9 A9 h9 => ?_)))))))
  obtain ⟨v1431, f1431, rfl, hS1431, y1431, rfl, by1431⟩ := h9
  refine pq_id1 (pq_pop (pq_aload_n2 (pq_aload_n0 (pq_iload_n3 (pq_iconst (pq_iadd ?_))))))
  intro m4 em4
  have e4 : m4.toInt = i.toInt + 1 := by rw [em4]; exact pm_addc _ _ 1 rfl (by omega) (by omega)
  refine pq_iaload ?_
  refine Exists.intro _ (Exists.intro _ (And.intro (Or.inr hro) (And.intro (by omega) ?_)))
  have ha1_4 : a1 = xs m4.toInt.toNat := by rw [ha1, em4, ← m_a1]
  rw [← ha1_4]
  refine pq_aload_n0 (pq_iload_n3 (pq_iconst (pq_iadd ?_)))
  intro m5 em5
  have e5 : m5.toInt = i.toInt + 2 := by rw [em5]; exact pm_addc _ _ 2 rfl (by omega) (by omega)
  refine pq_iaload ?_
  refine Exists.intro _ (Exists.intro _ (And.intro (Or.inr hro) (And.intro (by omega) ?_)))
  have ha2_5 : a2 = xs m5.toInt.toNat := by rw [ha2, em5, ← m_a2]
  rw [← ha2_5]
  refine pq_aload_n0 (pq_iload_n3 (pq_iconst (pq_iadd ?_)))
  intro m6 em6
  have e6 : m6.toInt = i.toInt + 3 := by rw [em6]; exact pm_addc _ _ 3 rfl (by omega) (by omega)
  refine pq_iaload ?_
  refine Exists.intro _ (Exists.intro _ (And.intro (Or.inr hro) (And.intro (by omega) ?_)))
  have ha3_6 : a3 = xs m6.toInt.toNat := by rw [ha3, em6, ← m_a3]
  rw [← ha3_6]
  refine pq_iv3_11 ?_
  rw [cw_md D dj]
  refine And.intro (Exists.intro _ (md_o)) (Exists.intro _ (Exists.intro _ (Exists.intro _ (Exists.intro _ (And.intro (c_X11_close D mv mf hv hf a1 a2 a3 ) (And.intro (lw_bnd rfl (by omega) (by omega) rfl) (fun r9 A9 h9 => ?_)))))))
  obtain ⟨y1451, rfl, rfl, by1451⟩ := h9
  refine pq_id1 (pq_pop (pq_goto ?_))
  exact cont _ _ _ ⟨A00, K, nn, dn, q, w, e, v1431, f1431, mq, mv, mf, M, (cw_md D dj).symm, rfl, hI, hS1431, D, hv, hf, dj, fun j hj => by exact hw j hj, by omega, by omega, hR1, hR2, hg, (by omega), hN, hM, hB, hH⟩ (by omega) (by omega)

set_option maxRecDepth 100000 in
set_option maxHeartbeats 2000000 in
theorem lx_b32 (hC : pm_Cl l g (lw_ro b L xs) 7 600000 7302250 lw_Rt bk_L_law J) {i : Int32} (hi : 0 ≤ i.toInt ∧ i.toInt + 6 ≤ L) (hL : L ≤ 3072) {E : Nat} (hE : E < 1000) {A : pm_H} {c s : Nat} (hA : LX g xo h E A) (hc : c + 4 ≤ 600000) (hs0 : s + 485 ≤ 7302250) (cont : ∀ (A' : pm_H) (c' s' : Nat), LX g xo h (E + 1) A' → c' ≤ c + 4 → s' ≤ s + 485 → J 2563 [some (.ref b), some (.ref xo), some (.ref h), some (.int i)] [] A' c' s') : J 1458 [some (.ref b), some (.ref xo), some (.ref h), some (.int i)] [] A c s := by
  obtain ⟨A00, K, nn, dn, q, w, e, v, f, mq, mv, mf, M, rfl, rfl, hI, hS, D, hv, hf, dj, hw, hE1, hE2, hR1, hR2, hg, he0, hN, hM, hB, hH⟩ := hA
  have hu9 := hI.2.1
  unfold cw_W at hu9
  have hro : lw_ro b L xs b = some (L, xs) := if_pos rfl
  refine hC.1 32 1458 _ _ rfl _ _ _ _ _ ?_
  refine pq_aload_n1 (pq_aload_n0 (pq_iload_n3 (pq_iconst (pq_iadd ?_))))
  intro m1 em1
  have e1 : m1.toInt = i.toInt + 1 := by rw [em1]; exact pm_addc _ _ 1 rfl (by omega) (by omega)
  refine pq_iaload ?_
  refine Exists.intro _ (Exists.intro _ (And.intro (Or.inr hro) (And.intro (by omega) ?_)))
  obtain ⟨a1, ha1⟩ : ∃ z9, z9 = xs m1.toInt.toNat := ⟨_, rfl⟩
  have m_a1 := em1
  rw [← ha1]
  refine pq_aload_n0 (pq_iload_n3 (pq_iconst (pq_iadd ?_)))
  intro m2 em2
  have e2 : m2.toInt = i.toInt + 2 := by rw [em2]; exact pm_addc _ _ 2 rfl (by omega) (by omega)
  refine pq_iaload ?_
  refine Exists.intro _ (Exists.intro _ (And.intro (Or.inr hro) (And.intro (by omega) ?_)))
  obtain ⟨a2, ha2⟩ : ∃ z9, z9 = xs m2.toInt.toNat := ⟨_, rfl⟩
  have m_a2 := em2
  rw [← ha2]
  refine pq_iv2_10 ?_
  refine And.intro (Exists.intro _ (cw_o0 hI.1)) (Exists.intro _ (Exists.intro _ (Exists.intro _ (Exists.intro _ (And.intro (c_X10_sides hI hS a1 a2 ) (And.intro (lw_bnd rfl (by omega) (by omega) rfl) (fun r9 A9 h9 => ?_)))))))
  obtain ⟨v1469, f1469, rfl, hS1469, y1469, rfl, by1469⟩ := h9
  refine pq_id1 (pq_pop (pq_aload_n2 (pq_aload_n0 (pq_iload_n3 (pq_iconst (pq_iadd ?_))))))
  intro m3 em3
  have e3 : m3.toInt = i.toInt + 1 := by rw [em3]; exact pm_addc _ _ 1 rfl (by omega) (by omega)
  refine pq_iaload ?_
  refine Exists.intro _ (Exists.intro _ (And.intro (Or.inr hro) (And.intro (by omega) ?_)))
  have ha1_3 : a1 = xs m3.toInt.toNat := by rw [ha1, em3, ← m_a1]
  rw [← ha1_3]
  refine pq_aload_n0 (pq_iload_n3 (pq_iconst (pq_iadd ?_)))
  intro m4 em4
  have e4 : m4.toInt = i.toInt + 2 := by rw [em4]; exact pm_addc _ _ 2 rfl (by omega) (by omega)
  refine pq_iaload ?_
  refine Exists.intro _ (Exists.intro _ (And.intro (Or.inr hro) (And.intro (by omega) ?_)))
  have ha2_4 : a2 = xs m4.toInt.toNat := by rw [ha2, em4, ← m_a2]
  rw [← ha2_4]
  refine pq_iv2_11 ?_
  rw [cw_md D dj]
  refine And.intro (Exists.intro _ (md_o)) (Exists.intro _ (Exists.intro _ (Exists.intro _ (Exists.intro _ (And.intro (c_X11_sides D mv mf hv hf a1 a2 ) (And.intro (lw_bnd rfl (by omega) (by omega) rfl) (fun r9 A9 h9 => ?_)))))))
  obtain ⟨y1484, rfl, rfl, by1484⟩ := h9
  refine pq_id1 (pq_pop (pq_goto ?_))
  exact cont _ _ _ ⟨A00, K, nn, dn, q, w, e, v1469, f1469, mq, mv, mf, M, (cw_md D dj).symm, rfl, hI, hS1469, D, hv, hf, dj, fun j hj => by exact hw j hj, by omega, by omega, hR1, hR2, hg, (by omega), hN, hM, hB, hH⟩ (by omega) (by omega)

set_option maxRecDepth 100000 in
set_option maxHeartbeats 2000000 in
theorem lx_b33 (hC : pm_Cl l g (lw_ro b L xs) 7 600000 7302250 lw_Rt bk_L_law J) {i : Int32} (hi : 0 ≤ i.toInt ∧ i.toInt + 6 ≤ L) (hL : L ≤ 3072) {E : Nat} (hE : E < 1000) {A : pm_H} {c s : Nat} (hA : LX g xo h E A) (hc : c + 4 ≤ 600000) (hs0 : s + 485 ≤ 7302250) (cont : ∀ (A' : pm_H) (c' s' : Nat), LX g xo h (E + 1) A' → c' ≤ c + 4 → s' ≤ s + 485 → J 2563 [some (.ref b), some (.ref xo), some (.ref h), some (.int i)] [] A' c' s') : J 1491 [some (.ref b), some (.ref xo), some (.ref h), some (.int i)] [] A c s := by
  obtain ⟨A00, K, nn, dn, q, w, e, v, f, mq, mv, mf, M, rfl, rfl, hI, hS, D, hv, hf, dj, hw, hE1, hE2, hR1, hR2, hg, he0, hN, hM, hB, hH⟩ := hA
  have hu9 := hI.2.1
  unfold cw_W at hu9
  have hro : lw_ro b L xs b = some (L, xs) := if_pos rfl
  refine hC.1 33 1491 _ _ rfl _ _ _ _ _ ?_
  refine pq_aload_n1 (pq_aload_n0 (pq_iload_n3 (pq_iconst (pq_iadd ?_))))
  intro m1 em1
  have e1 : m1.toInt = i.toInt + 1 := by rw [em1]; exact pm_addc _ _ 1 rfl (by omega) (by omega)
  refine pq_iaload ?_
  refine Exists.intro _ (Exists.intro _ (And.intro (Or.inr hro) (And.intro (by omega) ?_)))
  obtain ⟨a1, ha1⟩ : ∃ z9, z9 = xs m1.toInt.toNat := ⟨_, rfl⟩
  have m_a1 := em1
  rw [← ha1]
  refine pq_aload_n0 (pq_iload_n3 (pq_iconst (pq_iadd ?_)))
  intro m2 em2
  have e2 : m2.toInt = i.toInt + 2 := by rw [em2]; exact pm_addc _ _ 2 rfl (by omega) (by omega)
  refine pq_iaload ?_
  refine Exists.intro _ (Exists.intro _ (And.intro (Or.inr hro) (And.intro (by omega) ?_)))
  obtain ⟨a2, ha2⟩ : ∃ z9, z9 = xs m2.toInt.toNat := ⟨_, rfl⟩
  have m_a2 := em2
  rw [← ha2]
  refine pq_iv2_10 ?_
  refine And.intro (Exists.intro _ (cw_o0 hI.1)) (Exists.intro _ (Exists.intro _ (Exists.intro _ (Exists.intro _ (And.intro (c_X10_cover hI hS a1 a2 ) (And.intro (lw_bnd rfl (by omega) (by omega) rfl) (fun r9 A9 h9 => ?_)))))))
  obtain ⟨v1502, f1502, rfl, hS1502, y1502, rfl, by1502⟩ := h9
  refine pq_id1 (pq_pop (pq_aload_n2 (pq_aload_n0 (pq_iload_n3 (pq_iconst (pq_iadd ?_))))))
  intro m3 em3
  have e3 : m3.toInt = i.toInt + 1 := by rw [em3]; exact pm_addc _ _ 1 rfl (by omega) (by omega)
  refine pq_iaload ?_
  refine Exists.intro _ (Exists.intro _ (And.intro (Or.inr hro) (And.intro (by omega) ?_)))
  have ha1_3 : a1 = xs m3.toInt.toNat := by rw [ha1, em3, ← m_a1]
  rw [← ha1_3]
  refine pq_aload_n0 (pq_iload_n3 (pq_iconst (pq_iadd ?_)))
  intro m4 em4
  have e4 : m4.toInt = i.toInt + 2 := by rw [em4]; exact pm_addc _ _ 2 rfl (by omega) (by omega)
  refine pq_iaload ?_
  refine Exists.intro _ (Exists.intro _ (And.intro (Or.inr hro) (And.intro (by omega) ?_)))
  have ha2_4 : a2 = xs m4.toInt.toNat := by rw [ha2, em4, ← m_a2]
  rw [← ha2_4]
  refine pq_iv2_11 ?_
  rw [cw_md D dj]
  refine And.intro (Exists.intro _ (md_o)) (Exists.intro _ (Exists.intro _ (Exists.intro _ (Exists.intro _ (And.intro (c_X11_cover D mv mf hv hf a1 a2 ) (And.intro (lw_bnd rfl (by omega) (by omega) rfl) (fun r9 A9 h9 => ?_)))))))
  obtain ⟨y1517, rfl, rfl, by1517⟩ := h9
  refine pq_id1 (pq_pop (pq_goto ?_))
  exact cont _ _ _ ⟨A00, K, nn, dn, q, w, e, v1502, f1502, mq, mv, mf, M, (cw_md D dj).symm, rfl, hI, hS1502, D, hv, hf, dj, fun j hj => by exact hw j hj, by omega, by omega, hR1, hR2, hg, (by omega), hN, hM, hB, hH⟩ (by omega) (by omega)

set_option maxRecDepth 100000 in
set_option maxHeartbeats 2000000 in
theorem lx_b34 (hC : pm_Cl l g (lw_ro b L xs) 7 600000 7302250 lw_Rt bk_L_law J) {i : Int32} (hi : 0 ≤ i.toInt ∧ i.toInt + 6 ≤ L) (hL : L ≤ 3072) {E : Nat} (hE : E < 1000) {A : pm_H} {c s : Nat} (hA : LX g xo h E A) (hc : c + 4 ≤ 600000) (hs0 : s + 485 ≤ 7302250) (cont : ∀ (A' : pm_H) (c' s' : Nat), LX g xo h (E + 1) A' → c' ≤ c + 4 → s' ≤ s + 485 → J 2563 [some (.ref b), some (.ref xo), some (.ref h), some (.int i)] [] A' c' s') : J 1524 [some (.ref b), some (.ref xo), some (.ref h), some (.int i)] [] A c s := by
  obtain ⟨A00, K, nn, dn, q, w, e, v, f, mq, mv, mf, M, rfl, rfl, hI, hS, D, hv, hf, dj, hw, hE1, hE2, hR1, hR2, hg, he0, hN, hM, hB, hH⟩ := hA
  have hu9 := hI.2.1
  unfold cw_W at hu9
  have hro : lw_ro b L xs b = some (L, xs) := if_pos rfl
  refine hC.1 34 1524 _ _ rfl _ _ _ _ _ ?_
  refine pq_aload_n1 (pq_aload_n0 (pq_iload_n3 (pq_iconst (pq_iadd ?_))))
  intro m1 em1
  have e1 : m1.toInt = i.toInt + 1 := by rw [em1]; exact pm_addc _ _ 1 rfl (by omega) (by omega)
  refine pq_iaload ?_
  refine Exists.intro _ (Exists.intro _ (And.intro (Or.inr hro) (And.intro (by omega) ?_)))
  obtain ⟨a1, ha1⟩ : ∃ z9, z9 = xs m1.toInt.toNat := ⟨_, rfl⟩
  have m_a1 := em1
  rw [← ha1]
  refine pq_aload_n0 (pq_iload_n3 (pq_iconst (pq_iadd ?_)))
  intro m2 em2
  have e2 : m2.toInt = i.toInt + 2 := by rw [em2]; exact pm_addc _ _ 2 rfl (by omega) (by omega)
  refine pq_iaload ?_
  refine Exists.intro _ (Exists.intro _ (And.intro (Or.inr hro) (And.intro (by omega) ?_)))
  obtain ⟨a2, ha2⟩ : ∃ z9, z9 = xs m2.toInt.toNat := ⟨_, rfl⟩
  have m_a2 := em2
  rw [← ha2]
  refine pq_aload_n0 (pq_iload_n3 (pq_iconst (pq_iadd ?_)))
  intro m3 em3
  have e3 : m3.toInt = i.toInt + 3 := by rw [em3]; exact pm_addc _ _ 3 rfl (by omega) (by omega)
  refine pq_iaload ?_
  refine Exists.intro _ (Exists.intro _ (And.intro (Or.inr hro) (And.intro (by omega) ?_)))
  obtain ⟨a3, ha3⟩ : ∃ z9, z9 = xs m3.toInt.toNat := ⟨_, rfl⟩
  have m_a3 := em3
  rw [← ha3]
  refine pq_iv3_10 ?_
  refine And.intro (Exists.intro _ (cw_o0 hI.1)) (Exists.intro _ (Exists.intro _ (Exists.intro _ (Exists.intro _ (And.intro (c_X10_least hI hS a1 a2 a3 ) (And.intro (lw_bnd rfl (by omega) (by omega) rfl) (fun r9 A9 h9 => ?_)))))))
  obtain ⟨v1540, f1540, rfl, hS1540, y1540, rfl, by1540⟩ := h9
  refine pq_id1 (pq_pop (pq_aload_n2 (pq_aload_n0 (pq_iload_n3 (pq_iconst (pq_iadd ?_))))))
  intro m4 em4
  have e4 : m4.toInt = i.toInt + 1 := by rw [em4]; exact pm_addc _ _ 1 rfl (by omega) (by omega)
  refine pq_iaload ?_
  refine Exists.intro _ (Exists.intro _ (And.intro (Or.inr hro) (And.intro (by omega) ?_)))
  have ha1_4 : a1 = xs m4.toInt.toNat := by rw [ha1, em4, ← m_a1]
  rw [← ha1_4]
  refine pq_aload_n0 (pq_iload_n3 (pq_iconst (pq_iadd ?_)))
  intro m5 em5
  have e5 : m5.toInt = i.toInt + 2 := by rw [em5]; exact pm_addc _ _ 2 rfl (by omega) (by omega)
  refine pq_iaload ?_
  refine Exists.intro _ (Exists.intro _ (And.intro (Or.inr hro) (And.intro (by omega) ?_)))
  have ha2_5 : a2 = xs m5.toInt.toNat := by rw [ha2, em5, ← m_a2]
  rw [← ha2_5]
  refine pq_aload_n0 (pq_iload_n3 (pq_iconst (pq_iadd ?_)))
  intro m6 em6
  have e6 : m6.toInt = i.toInt + 3 := by rw [em6]; exact pm_addc _ _ 3 rfl (by omega) (by omega)
  refine pq_iaload ?_
  refine Exists.intro _ (Exists.intro _ (And.intro (Or.inr hro) (And.intro (by omega) ?_)))
  have ha3_6 : a3 = xs m6.toInt.toNat := by rw [ha3, em6, ← m_a3]
  rw [← ha3_6]
  refine pq_iv3_11 ?_
  rw [cw_md D dj]
  refine And.intro (Exists.intro _ (md_o)) (Exists.intro _ (Exists.intro _ (Exists.intro _ (Exists.intro _ (And.intro (Y_X11_least D mv mf hv hf a1 a2 a3 ) (And.intro (lw_bnd rfl (by omega) (by omega) rfl) (fun r9 A9 h9 => ?_)))))))
  obtain ⟨y1560, mv1560, mf1560, rfl, rfl, hv1560, hf1560, hx1560, hg1560_0, hg1560_1, hg1560_12, hg1560_13, hg1560_14, hg1560_15, by1560⟩ := h9
  refine pq_id1 (pq_pop (pq_goto ?_))
  exact cont _ _ _ ⟨A00, K, nn, dn, q, w, e, v1540, f1540, mq, mv1560, mf1560, M, (cw_md D dj).symm, rfl, hI, hS1540, D, hv1560, hf1560, dj, fun j hj => by rw [hx1560]; exact hw j hj, by omega, by omega, hR1, (rp_fr hR2 (by omega) hg1560_0 hg1560_1), (pm_eqI (by have q9 := congrArg Int32.toInt hg; omega)), (by omega), hN, hM, hB, (HX_m hH hg1560_12 hg1560_13 hg1560_14)⟩ (by omega) (by omega)

set_option maxRecDepth 100000 in
set_option maxHeartbeats 2000000 in
theorem lx_b35 (hC : pm_Cl l g (lw_ro b L xs) 7 600000 7302250 lw_Rt bk_L_law J) {i : Int32} (hi : 0 ≤ i.toInt ∧ i.toInt + 6 ≤ L) (hL : L ≤ 3072) {E : Nat} (hE : E < 1000) {A : pm_H} {c s : Nat} (hA : LX g xo h E A) (hc : c + 4 ≤ 600000) (hs0 : s + 485 ≤ 7302250) (cont : ∀ (A' : pm_H) (c' s' : Nat), LX g xo h (E + 1) A' → c' ≤ c + 4 → s' ≤ s + 485 → J 2563 [some (.ref b), some (.ref xo), some (.ref h), some (.int i)] [] A' c' s') : J 1567 [some (.ref b), some (.ref xo), some (.ref h), some (.int i)] [] A c s := by
  obtain ⟨A00, K, nn, dn, q, w, e, v, f, mq, mv, mf, M, rfl, rfl, hI, hS, D, hv, hf, dj, hw, hE1, hE2, hR1, hR2, hg, he0, hN, hM, hB, hH⟩ := hA
  have hu9 := hI.2.1
  unfold cw_W at hu9
  have hro : lw_ro b L xs b = some (L, xs) := if_pos rfl
  refine hC.1 35 1567 _ _ rfl _ _ _ _ _ ?_
  refine pq_aload_n1 (pq_aload_n0 (pq_iload_n3 (pq_iconst (pq_iadd ?_))))
  intro m1 em1
  have e1 : m1.toInt = i.toInt + 1 := by rw [em1]; exact pm_addc _ _ 1 rfl (by omega) (by omega)
  refine pq_iaload ?_
  refine Exists.intro _ (Exists.intro _ (And.intro (Or.inr hro) (And.intro (by omega) ?_)))
  obtain ⟨a1, ha1⟩ : ∃ z9, z9 = xs m1.toInt.toNat := ⟨_, rfl⟩
  have m_a1 := em1
  rw [← ha1]
  refine pq_aload_n0 (pq_iload_n3 (pq_iconst (pq_iadd ?_)))
  intro m2 em2
  have e2 : m2.toInt = i.toInt + 2 := by rw [em2]; exact pm_addc _ _ 2 rfl (by omega) (by omega)
  refine pq_iaload ?_
  refine Exists.intro _ (Exists.intro _ (And.intro (Or.inr hro) (And.intro (by omega) ?_)))
  obtain ⟨a2, ha2⟩ : ∃ z9, z9 = xs m2.toInt.toNat := ⟨_, rfl⟩
  have m_a2 := em2
  rw [← ha2]
  refine pq_aload_n0 (pq_iload_n3 (pq_iconst (pq_iadd ?_)))
  intro m3 em3
  have e3 : m3.toInt = i.toInt + 3 := by rw [em3]; exact pm_addc _ _ 3 rfl (by omega) (by omega)
  refine pq_iaload ?_
  refine Exists.intro _ (Exists.intro _ (And.intro (Or.inr hro) (And.intro (by omega) ?_)))
  obtain ⟨a3, ha3⟩ : ∃ z9, z9 = xs m3.toInt.toNat := ⟨_, rfl⟩
  have m_a3 := em3
  rw [← ha3]
  refine pq_iv3_10 ?_
  refine And.intro (Exists.intro _ (cw_o0 hI.1)) (Exists.intro _ (Exists.intro _ (Exists.intro _ (Exists.intro _ (And.intro (c_X10_fair hI hS a1 a2 a3 ) (And.intro (lw_bnd rfl (by omega) (by omega) rfl) (fun r9 A9 h9 => ?_)))))))
  obtain ⟨v1583, f1583, rfl, hS1583, y1583, rfl, by1583⟩ := h9
  refine pq_id1 (pq_pop (pq_aload_n2 (pq_aload_n0 (pq_iload_n3 (pq_iconst (pq_iadd ?_))))))
  intro m4 em4
  have e4 : m4.toInt = i.toInt + 1 := by rw [em4]; exact pm_addc _ _ 1 rfl (by omega) (by omega)
  refine pq_iaload ?_
  refine Exists.intro _ (Exists.intro _ (And.intro (Or.inr hro) (And.intro (by omega) ?_)))
  have ha1_4 : a1 = xs m4.toInt.toNat := by rw [ha1, em4, ← m_a1]
  rw [← ha1_4]
  refine pq_aload_n0 (pq_iload_n3 (pq_iconst (pq_iadd ?_)))
  intro m5 em5
  have e5 : m5.toInt = i.toInt + 2 := by rw [em5]; exact pm_addc _ _ 2 rfl (by omega) (by omega)
  refine pq_iaload ?_
  refine Exists.intro _ (Exists.intro _ (And.intro (Or.inr hro) (And.intro (by omega) ?_)))
  have ha2_5 : a2 = xs m5.toInt.toNat := by rw [ha2, em5, ← m_a2]
  rw [← ha2_5]
  refine pq_aload_n0 (pq_iload_n3 (pq_iconst (pq_iadd ?_)))
  intro m6 em6
  have e6 : m6.toInt = i.toInt + 3 := by rw [em6]; exact pm_addc _ _ 3 rfl (by omega) (by omega)
  refine pq_iaload ?_
  refine Exists.intro _ (Exists.intro _ (And.intro (Or.inr hro) (And.intro (by omega) ?_)))
  have ha3_6 : a3 = xs m6.toInt.toNat := by rw [ha3, em6, ← m_a3]
  rw [← ha3_6]
  refine pq_iv3_11 ?_
  rw [cw_md D dj]
  refine And.intro (Exists.intro _ (md_o)) (Exists.intro _ (Exists.intro _ (Exists.intro _ (Exists.intro _ (And.intro (c_X11_fair D mv mf hv hf a1 a2 a3 ) (And.intro (lw_bnd rfl (by omega) (by omega) rfl) (fun r9 A9 h9 => ?_)))))))
  obtain ⟨y1603, rfl, rfl, by1603⟩ := h9
  refine pq_id1 (pq_pop (pq_goto ?_))
  exact cont _ _ _ ⟨A00, K, nn, dn, q, w, e, v1583, f1583, mq, mv, mf, M, (cw_md D dj).symm, rfl, hI, hS1583, D, hv, hf, dj, fun j hj => by exact hw j hj, by omega, by omega, hR1, hR2, hg, (by omega), hN, hM, hB, hH⟩ (by omega) (by omega)

set_option maxRecDepth 100000 in
set_option maxHeartbeats 2000000 in
theorem lx_b36 (hC : pm_Cl l g (lw_ro b L xs) 7 600000 7302250 lw_Rt bk_L_law J) {i : Int32} (hi : 0 ≤ i.toInt ∧ i.toInt + 6 ≤ L) (hL : L ≤ 3072) {E : Nat} (hE : E < 1000) {A : pm_H} {c s : Nat} (hA : LX g xo h E A) (hc : c + 4 ≤ 600000) (hs0 : s + 485 ≤ 7302250) (cont : ∀ (A' : pm_H) (c' s' : Nat), LX g xo h (E + 1) A' → c' ≤ c + 4 → s' ≤ s + 485 → J 2563 [some (.ref b), some (.ref xo), some (.ref h), some (.int i)] [] A' c' s') : J 1610 [some (.ref b), some (.ref xo), some (.ref h), some (.int i)] [] A c s := by
  obtain ⟨A00, K, nn, dn, q, w, e, v, f, mq, mv, mf, M, rfl, rfl, hI, hS, D, hv, hf, dj, hw, hE1, hE2, hR1, hR2, hg, he0, hN, hM, hB, hH⟩ := hA
  have hu9 := hI.2.1
  unfold cw_W at hu9
  have hro : lw_ro b L xs b = some (L, xs) := if_pos rfl
  refine hC.1 36 1610 _ _ rfl _ _ _ _ _ ?_
  refine pq_aload_n1 (pq_aload_n0 (pq_iload_n3 (pq_iconst (pq_iadd ?_))))
  intro m1 em1
  have e1 : m1.toInt = i.toInt + 1 := by rw [em1]; exact pm_addc _ _ 1 rfl (by omega) (by omega)
  refine pq_iaload ?_
  refine Exists.intro _ (Exists.intro _ (And.intro (Or.inr hro) (And.intro (by omega) ?_)))
  obtain ⟨a1, ha1⟩ : ∃ z9, z9 = xs m1.toInt.toNat := ⟨_, rfl⟩
  have m_a1 := em1
  rw [← ha1]
  refine pq_aload_n0 (pq_iload_n3 (pq_iconst (pq_iadd ?_)))
  intro m2 em2
  have e2 : m2.toInt = i.toInt + 2 := by rw [em2]; exact pm_addc _ _ 2 rfl (by omega) (by omega)
  refine pq_iaload ?_
  refine Exists.intro _ (Exists.intro _ (And.intro (Or.inr hro) (And.intro (by omega) ?_)))
  obtain ⟨a2, ha2⟩ : ∃ z9, z9 = xs m2.toInt.toNat := ⟨_, rfl⟩
  have m_a2 := em2
  rw [← ha2]
  refine pq_iv2_10 ?_
  refine And.intro (Exists.intro _ (cw_o0 hI.1)) (Exists.intro _ (Exists.intro _ (Exists.intro _ (Exists.intro _ (And.intro (c_X10_alike hI hS a1 a2 ) (And.intro (lw_bnd rfl (by omega) (by omega) rfl) (fun r9 A9 h9 => ?_)))))))
  obtain ⟨v1621, f1621, rfl, hS1621, y1621, rfl, by1621⟩ := h9
  refine pq_id1 (pq_pop (pq_aload_n2 (pq_aload_n0 (pq_iload_n3 (pq_iconst (pq_iadd ?_))))))
  intro m3 em3
  have e3 : m3.toInt = i.toInt + 1 := by rw [em3]; exact pm_addc _ _ 1 rfl (by omega) (by omega)
  refine pq_iaload ?_
  refine Exists.intro _ (Exists.intro _ (And.intro (Or.inr hro) (And.intro (by omega) ?_)))
  have ha1_3 : a1 = xs m3.toInt.toNat := by rw [ha1, em3, ← m_a1]
  rw [← ha1_3]
  refine pq_aload_n0 (pq_iload_n3 (pq_iconst (pq_iadd ?_)))
  intro m4 em4
  have e4 : m4.toInt = i.toInt + 2 := by rw [em4]; exact pm_addc _ _ 2 rfl (by omega) (by omega)
  refine pq_iaload ?_
  refine Exists.intro _ (Exists.intro _ (And.intro (Or.inr hro) (And.intro (by omega) ?_)))
  have ha2_4 : a2 = xs m4.toInt.toNat := by rw [ha2, em4, ← m_a2]
  rw [← ha2_4]
  refine pq_iv2_11 ?_
  rw [cw_md D dj]
  refine And.intro (Exists.intro _ (md_o)) (Exists.intro _ (Exists.intro _ (Exists.intro _ (Exists.intro _ (And.intro (c_X11_alike D mv mf hv hf a1 a2 ) (And.intro (lw_bnd rfl (by omega) (by omega) rfl) (fun r9 A9 h9 => ?_)))))))
  obtain ⟨y1636, rfl, rfl, by1636⟩ := h9
  refine pq_id1 (pq_pop (pq_goto ?_))
  exact cont _ _ _ ⟨A00, K, nn, dn, q, w, e, v1621, f1621, mq, mv, mf, M, (cw_md D dj).symm, rfl, hI, hS1621, D, hv, hf, dj, fun j hj => by exact hw j hj, by omega, by omega, hR1, hR2, hg, (by omega), hN, hM, hB, hH⟩ (by omega) (by omega)

set_option maxRecDepth 100000 in
set_option maxHeartbeats 2000000 in
theorem lx_b37 (hC : pm_Cl l g (lw_ro b L xs) 7 600000 7302250 lw_Rt bk_L_law J) {i : Int32} (hi : 0 ≤ i.toInt ∧ i.toInt + 6 ≤ L) (hL : L ≤ 3072) {E : Nat} (hE : E < 1000) {A : pm_H} {c s : Nat} (hA : LX g xo h E A) (hc : c + 4 ≤ 600000) (hs0 : s + 485 ≤ 7302250) (cont : ∀ (A' : pm_H) (c' s' : Nat), LX g xo h (E + 1) A' → c' ≤ c + 4 → s' ≤ s + 485 → J 2563 [some (.ref b), some (.ref xo), some (.ref h), some (.int i)] [] A' c' s') : J 1643 [some (.ref b), some (.ref xo), some (.ref h), some (.int i)] [] A c s := by
  obtain ⟨A00, K, nn, dn, q, w, e, v, f, mq, mv, mf, M, rfl, rfl, hI, hS, D, hv, hf, dj, hw, hE1, hE2, hR1, hR2, hg, he0, hN, hM, hB, hH⟩ := hA
  have hu9 := hI.2.1
  unfold cw_W at hu9
  have hro : lw_ro b L xs b = some (L, xs) := if_pos rfl
  refine hC.1 37 1643 _ _ rfl _ _ _ _ _ ?_
  refine pq_aload_n1 (pq_aload_n0 (pq_iload_n3 (pq_iconst (pq_iadd ?_))))
  intro m1 em1
  have e1 : m1.toInt = i.toInt + 1 := by rw [em1]; exact pm_addc _ _ 1 rfl (by omega) (by omega)
  refine pq_iaload ?_
  refine Exists.intro _ (Exists.intro _ (And.intro (Or.inr hro) (And.intro (by omega) ?_)))
  obtain ⟨a1, ha1⟩ : ∃ z9, z9 = xs m1.toInt.toNat := ⟨_, rfl⟩
  have m_a1 := em1
  rw [← ha1]
  refine pq_aload_n0 (pq_iload_n3 (pq_iconst (pq_iadd ?_)))
  intro m2 em2
  have e2 : m2.toInt = i.toInt + 2 := by rw [em2]; exact pm_addc _ _ 2 rfl (by omega) (by omega)
  refine pq_iaload ?_
  refine Exists.intro _ (Exists.intro _ (And.intro (Or.inr hro) (And.intro (by omega) ?_)))
  obtain ⟨a2, ha2⟩ : ∃ z9, z9 = xs m2.toInt.toNat := ⟨_, rfl⟩
  have m_a2 := em2
  rw [← ha2]
  refine pq_iv2_10 ?_
  refine And.intro (Exists.intro _ (cw_o0 hI.1)) (Exists.intro _ (Exists.intro _ (Exists.intro _ (Exists.intro _ (And.intro (c_X10_even hI hS a1 a2 ) (And.intro (lw_bnd rfl (by omega) (by omega) rfl) (fun r9 A9 h9 => ?_)))))))
  obtain ⟨v1654, f1654, rfl, hS1654, y1654, rfl, by1654⟩ := h9
  refine pq_id1 (pq_pop (pq_aload_n2 (pq_aload_n0 (pq_iload_n3 (pq_iconst (pq_iadd ?_))))))
  intro m3 em3
  have e3 : m3.toInt = i.toInt + 1 := by rw [em3]; exact pm_addc _ _ 1 rfl (by omega) (by omega)
  refine pq_iaload ?_
  refine Exists.intro _ (Exists.intro _ (And.intro (Or.inr hro) (And.intro (by omega) ?_)))
  have ha1_3 : a1 = xs m3.toInt.toNat := by rw [ha1, em3, ← m_a1]
  rw [← ha1_3]
  refine pq_aload_n0 (pq_iload_n3 (pq_iconst (pq_iadd ?_)))
  intro m4 em4
  have e4 : m4.toInt = i.toInt + 2 := by rw [em4]; exact pm_addc _ _ 2 rfl (by omega) (by omega)
  refine pq_iaload ?_
  refine Exists.intro _ (Exists.intro _ (And.intro (Or.inr hro) (And.intro (by omega) ?_)))
  have ha2_4 : a2 = xs m4.toInt.toNat := by rw [ha2, em4, ← m_a2]
  rw [← ha2_4]
  refine pq_iv2_11 ?_
  rw [cw_md D dj]
  refine And.intro (Exists.intro _ (md_o)) (Exists.intro _ (Exists.intro _ (Exists.intro _ (Exists.intro _ (And.intro (c_X11_even D mv mf hv hf a1 a2 ) (And.intro (lw_bnd rfl (by omega) (by omega) rfl) (fun r9 A9 h9 => ?_)))))))
  obtain ⟨y1669, rfl, rfl, by1669⟩ := h9
  refine pq_id1 (pq_pop (pq_goto ?_))
  exact cont _ _ _ ⟨A00, K, nn, dn, q, w, e, v1654, f1654, mq, mv, mf, M, (cw_md D dj).symm, rfl, hI, hS1654, D, hv, hf, dj, fun j hj => by exact hw j hj, by omega, by omega, hR1, hR2, hg, (by omega), hN, hM, hB, hH⟩ (by omega) (by omega)

set_option maxRecDepth 100000 in
set_option maxHeartbeats 2000000 in
theorem lx_b38 (hC : pm_Cl l g (lw_ro b L xs) 7 600000 7302250 lw_Rt bk_L_law J) {i : Int32} (hi : 0 ≤ i.toInt ∧ i.toInt + 6 ≤ L) (hL : L ≤ 3072) {E : Nat} (hE : E < 1000) {A : pm_H} {c s : Nat} (hA : LX g xo h E A) (hc : c + 4 ≤ 600000) (hs0 : s + 485 ≤ 7302250) (cont : ∀ (A' : pm_H) (c' s' : Nat), LX g xo h (E + 1) A' → c' ≤ c + 4 → s' ≤ s + 485 → J 2563 [some (.ref b), some (.ref xo), some (.ref h), some (.int i)] [] A' c' s') : J 1676 [some (.ref b), some (.ref xo), some (.ref h), some (.int i)] [] A c s := by
  obtain ⟨A00, K, nn, dn, q, w, e, v, f, mq, mv, mf, M, rfl, rfl, hI, hS, D, hv, hf, dj, hw, hE1, hE2, hR1, hR2, hg, he0, hN, hM, hB, hH⟩ := hA
  have hu9 := hI.2.1
  unfold cw_W at hu9
  have hro : lw_ro b L xs b = some (L, xs) := if_pos rfl
  refine hC.1 38 1676 _ _ rfl _ _ _ _ _ ?_
  refine pq_aload_n1 (pq_aload_n0 (pq_iload_n3 (pq_iconst (pq_iadd ?_))))
  intro m1 em1
  have e1 : m1.toInt = i.toInt + 1 := by rw [em1]; exact pm_addc _ _ 1 rfl (by omega) (by omega)
  refine pq_iaload ?_
  refine Exists.intro _ (Exists.intro _ (And.intro (Or.inr hro) (And.intro (by omega) ?_)))
  obtain ⟨a1, ha1⟩ : ∃ z9, z9 = xs m1.toInt.toNat := ⟨_, rfl⟩
  have m_a1 := em1
  rw [← ha1]
  refine pq_aload_n0 (pq_iload_n3 (pq_iconst (pq_iadd ?_)))
  intro m2 em2
  have e2 : m2.toInt = i.toInt + 2 := by rw [em2]; exact pm_addc _ _ 2 rfl (by omega) (by omega)
  refine pq_iaload ?_
  refine Exists.intro _ (Exists.intro _ (And.intro (Or.inr hro) (And.intro (by omega) ?_)))
  obtain ⟨a2, ha2⟩ : ∃ z9, z9 = xs m2.toInt.toNat := ⟨_, rfl⟩
  have m_a2 := em2
  rw [← ha2]
  refine pq_aload_n0 (pq_iload_n3 (pq_iconst (pq_iadd ?_)))
  intro m3 em3
  have e3 : m3.toInt = i.toInt + 3 := by rw [em3]; exact pm_addc _ _ 3 rfl (by omega) (by omega)
  refine pq_iaload ?_
  refine Exists.intro _ (Exists.intro _ (And.intro (Or.inr hro) (And.intro (by omega) ?_)))
  obtain ⟨a3, ha3⟩ : ∃ z9, z9 = xs m3.toInt.toNat := ⟨_, rfl⟩
  have m_a3 := em3
  rw [← ha3]
  refine pq_iv3_10 ?_
  refine And.intro (Exists.intro _ (cw_o0 hI.1)) (Exists.intro _ (Exists.intro _ (Exists.intro _ (Exists.intro _ (And.intro (c_X10_apart hI hS a1 a2 a3 ) (And.intro (lw_bnd rfl (by omega) (by omega) rfl) (fun r9 A9 h9 => ?_)))))))
  obtain ⟨v1692, f1692, rfl, hS1692, y1692, rfl, by1692⟩ := h9
  refine pq_id1 (pq_pop (pq_aload_n2 (pq_aload_n0 (pq_iload_n3 (pq_iconst (pq_iadd ?_))))))
  intro m4 em4
  have e4 : m4.toInt = i.toInt + 1 := by rw [em4]; exact pm_addc _ _ 1 rfl (by omega) (by omega)
  refine pq_iaload ?_
  refine Exists.intro _ (Exists.intro _ (And.intro (Or.inr hro) (And.intro (by omega) ?_)))
  have ha1_4 : a1 = xs m4.toInt.toNat := by rw [ha1, em4, ← m_a1]
  rw [← ha1_4]
  refine pq_aload_n0 (pq_iload_n3 (pq_iconst (pq_iadd ?_)))
  intro m5 em5
  have e5 : m5.toInt = i.toInt + 2 := by rw [em5]; exact pm_addc _ _ 2 rfl (by omega) (by omega)
  refine pq_iaload ?_
  refine Exists.intro _ (Exists.intro _ (And.intro (Or.inr hro) (And.intro (by omega) ?_)))
  have ha2_5 : a2 = xs m5.toInt.toNat := by rw [ha2, em5, ← m_a2]
  rw [← ha2_5]
  refine pq_aload_n0 (pq_iload_n3 (pq_iconst (pq_iadd ?_)))
  intro m6 em6
  have e6 : m6.toInt = i.toInt + 3 := by rw [em6]; exact pm_addc _ _ 3 rfl (by omega) (by omega)
  refine pq_iaload ?_
  refine Exists.intro _ (Exists.intro _ (And.intro (Or.inr hro) (And.intro (by omega) ?_)))
  have ha3_6 : a3 = xs m6.toInt.toNat := by rw [ha3, em6, ← m_a3]
  rw [← ha3_6]
  refine pq_iv3_11 ?_
  rw [cw_md D dj]
  refine And.intro (Exists.intro _ (md_o)) (Exists.intro _ (Exists.intro _ (Exists.intro _ (Exists.intro _ (And.intro (c_X11_apart D mv mf hv hf a1 a2 a3 ) (And.intro (lw_bnd rfl (by omega) (by omega) rfl) (fun r9 A9 h9 => ?_)))))))
  obtain ⟨y1712, rfl, rfl, by1712⟩ := h9
  refine pq_id1 (pq_pop (pq_goto ?_))
  exact cont _ _ _ ⟨A00, K, nn, dn, q, w, e, v1692, f1692, mq, mv, mf, M, (cw_md D dj).symm, rfl, hI, hS1692, D, hv, hf, dj, fun j hj => by exact hw j hj, by omega, by omega, hR1, hR2, hg, (by omega), hN, hM, hB, hH⟩ (by omega) (by omega)

set_option maxRecDepth 100000 in
set_option maxHeartbeats 2000000 in
theorem lx_b39 (hC : pm_Cl l g (lw_ro b L xs) 7 600000 7302250 lw_Rt bk_L_law J) {i : Int32} (hi : 0 ≤ i.toInt ∧ i.toInt + 6 ≤ L) (hL : L ≤ 3072) {E : Nat} (hE : E < 1000) {A : pm_H} {c s : Nat} (hA : LX g xo h E A) (hc : c + 4 ≤ 600000) (hs0 : s + 485 ≤ 7302250) (cont : ∀ (A' : pm_H) (c' s' : Nat), LX g xo h (E + 1) A' → c' ≤ c + 4 → s' ≤ s + 485 → J 2563 [some (.ref b), some (.ref xo), some (.ref h), some (.int i)] [] A' c' s') : J 1719 [some (.ref b), some (.ref xo), some (.ref h), some (.int i)] [] A c s := by
  obtain ⟨A00, K, nn, dn, q, w, e, v, f, mq, mv, mf, M, rfl, rfl, hI, hS, D, hv, hf, dj, hw, hE1, hE2, hR1, hR2, hg, he0, hN, hM, hB, hH⟩ := hA
  have hu9 := hI.2.1
  unfold cw_W at hu9
  have hro : lw_ro b L xs b = some (L, xs) := if_pos rfl
  refine hC.1 39 1719 _ _ rfl _ _ _ _ _ ?_
  refine pq_aload_n1 (pq_aload_n0 (pq_iload_n3 (pq_iconst (pq_iadd ?_))))
  intro m1 em1
  have e1 : m1.toInt = i.toInt + 1 := by rw [em1]; exact pm_addc _ _ 1 rfl (by omega) (by omega)
  refine pq_iaload ?_
  refine Exists.intro _ (Exists.intro _ (And.intro (Or.inr hro) (And.intro (by omega) ?_)))
  obtain ⟨a1, ha1⟩ : ∃ z9, z9 = xs m1.toInt.toNat := ⟨_, rfl⟩
  have m_a1 := em1
  rw [← ha1]
  refine pq_aload_n0 (pq_iload_n3 (pq_iconst (pq_iadd ?_)))
  intro m2 em2
  have e2 : m2.toInt = i.toInt + 2 := by rw [em2]; exact pm_addc _ _ 2 rfl (by omega) (by omega)
  refine pq_iaload ?_
  refine Exists.intro _ (Exists.intro _ (And.intro (Or.inr hro) (And.intro (by omega) ?_)))
  obtain ⟨a2, ha2⟩ : ∃ z9, z9 = xs m2.toInt.toNat := ⟨_, rfl⟩
  have m_a2 := em2
  rw [← ha2]
  refine pq_iv2_10 ?_
  refine And.intro (Exists.intro _ (cw_o0 hI.1)) (Exists.intro _ (Exists.intro _ (Exists.intro _ (Exists.intro _ (And.intro (c_X10_reach hI hS a1 a2 ) (And.intro (lw_bnd rfl (by omega) (by omega) rfl) (fun r9 A9 h9 => ?_)))))))
  obtain ⟨v1730, f1730, rfl, hS1730, y1730, rfl, by1730⟩ := h9
  refine pq_id1 (pq_pop (pq_aload_n2 (pq_aload_n0 (pq_iload_n3 (pq_iconst (pq_iadd ?_))))))
  intro m3 em3
  have e3 : m3.toInt = i.toInt + 1 := by rw [em3]; exact pm_addc _ _ 1 rfl (by omega) (by omega)
  refine pq_iaload ?_
  refine Exists.intro _ (Exists.intro _ (And.intro (Or.inr hro) (And.intro (by omega) ?_)))
  have ha1_3 : a1 = xs m3.toInt.toNat := by rw [ha1, em3, ← m_a1]
  rw [← ha1_3]
  refine pq_aload_n0 (pq_iload_n3 (pq_iconst (pq_iadd ?_)))
  intro m4 em4
  have e4 : m4.toInt = i.toInt + 2 := by rw [em4]; exact pm_addc _ _ 2 rfl (by omega) (by omega)
  refine pq_iaload ?_
  refine Exists.intro _ (Exists.intro _ (And.intro (Or.inr hro) (And.intro (by omega) ?_)))
  have ha2_4 : a2 = xs m4.toInt.toNat := by rw [ha2, em4, ← m_a2]
  rw [← ha2_4]
  refine pq_iv2_11 ?_
  rw [cw_md D dj]
  refine And.intro (Exists.intro _ (md_o)) (Exists.intro _ (Exists.intro _ (Exists.intro _ (Exists.intro _ (And.intro (c_X11_reach D mv mf hv hf a1 a2 ) (And.intro (lw_bnd rfl (by omega) (by omega) rfl) (fun r9 A9 h9 => ?_)))))))
  obtain ⟨y1745, rfl, rfl, by1745⟩ := h9
  refine pq_id1 (pq_pop (pq_goto ?_))
  exact cont _ _ _ ⟨A00, K, nn, dn, q, w, e, v1730, f1730, mq, mv, mf, M, (cw_md D dj).symm, rfl, hI, hS1730, D, hv, hf, dj, fun j hj => by exact hw j hj, by omega, by omega, hR1, hR2, hg, (by omega), hN, hM, hB, hH⟩ (by omega) (by omega)

set_option maxRecDepth 100000 in
set_option maxHeartbeats 2000000 in
theorem lx_b40 (hC : pm_Cl l g (lw_ro b L xs) 7 600000 7302250 lw_Rt bk_L_law J) {i : Int32} (hi : 0 ≤ i.toInt ∧ i.toInt + 6 ≤ L) (hL : L ≤ 3072) {E : Nat} (hE : E < 1000) {A : pm_H} {c s : Nat} (hA : LX g xo h E A) (hc : c + 4 ≤ 600000) (hs0 : s + 485 ≤ 7302250) (cont : ∀ (A' : pm_H) (c' s' : Nat), LX g xo h (E + 1) A' → c' ≤ c + 4 → s' ≤ s + 485 → J 2563 [some (.ref b), some (.ref xo), some (.ref h), some (.int i)] [] A' c' s') : J 1752 [some (.ref b), some (.ref xo), some (.ref h), some (.int i)] [] A c s := by
  obtain ⟨A00, K, nn, dn, q, w, e, v, f, mq, mv, mf, M, rfl, rfl, hI, hS, D, hv, hf, dj, hw, hE1, hE2, hR1, hR2, hg, he0, hN, hM, hB, hH⟩ := hA
  have hu9 := hI.2.1
  unfold cw_W at hu9
  have hro : lw_ro b L xs b = some (L, xs) := if_pos rfl
  refine hC.1 40 1752 _ _ rfl _ _ _ _ _ ?_
  refine pq_aload_n1 (pq_aload_n0 (pq_iload_n3 (pq_iconst (pq_iadd ?_))))
  intro m1 em1
  have e1 : m1.toInt = i.toInt + 1 := by rw [em1]; exact pm_addc _ _ 1 rfl (by omega) (by omega)
  refine pq_iaload ?_
  refine Exists.intro _ (Exists.intro _ (And.intro (Or.inr hro) (And.intro (by omega) ?_)))
  obtain ⟨a1, ha1⟩ : ∃ z9, z9 = xs m1.toInt.toNat := ⟨_, rfl⟩
  have m_a1 := em1
  rw [← ha1]
  refine pq_aload_n0 (pq_iload_n3 (pq_iconst (pq_iadd ?_)))
  intro m2 em2
  have e2 : m2.toInt = i.toInt + 2 := by rw [em2]; exact pm_addc _ _ 2 rfl (by omega) (by omega)
  refine pq_iaload ?_
  refine Exists.intro _ (Exists.intro _ (And.intro (Or.inr hro) (And.intro (by omega) ?_)))
  obtain ⟨a2, ha2⟩ : ∃ z9, z9 = xs m2.toInt.toNat := ⟨_, rfl⟩
  have m_a2 := em2
  rw [← ha2]
  refine pq_iv2_10 ?_
  refine And.intro (Exists.intro _ (cw_o0 hI.1)) (Exists.intro _ (Exists.intro _ (Exists.intro _ (Exists.intro _ (And.intro (c_X10_reachBack hI hS a1 a2 ) (And.intro (lw_bnd rfl (by omega) (by omega) rfl) (fun r9 A9 h9 => ?_)))))))
  obtain ⟨v1763, f1763, rfl, hS1763, y1763, rfl, by1763⟩ := h9
  refine pq_id1 (pq_pop (pq_aload_n2 (pq_aload_n0 (pq_iload_n3 (pq_iconst (pq_iadd ?_))))))
  intro m3 em3
  have e3 : m3.toInt = i.toInt + 1 := by rw [em3]; exact pm_addc _ _ 1 rfl (by omega) (by omega)
  refine pq_iaload ?_
  refine Exists.intro _ (Exists.intro _ (And.intro (Or.inr hro) (And.intro (by omega) ?_)))
  have ha1_3 : a1 = xs m3.toInt.toNat := by rw [ha1, em3, ← m_a1]
  rw [← ha1_3]
  refine pq_aload_n0 (pq_iload_n3 (pq_iconst (pq_iadd ?_)))
  intro m4 em4
  have e4 : m4.toInt = i.toInt + 2 := by rw [em4]; exact pm_addc _ _ 2 rfl (by omega) (by omega)
  refine pq_iaload ?_
  refine Exists.intro _ (Exists.intro _ (And.intro (Or.inr hro) (And.intro (by omega) ?_)))
  have ha2_4 : a2 = xs m4.toInt.toNat := by rw [ha2, em4, ← m_a2]
  rw [← ha2_4]
  refine pq_iv2_11 ?_
  rw [cw_md D dj]
  refine And.intro (Exists.intro _ (md_o)) (Exists.intro _ (Exists.intro _ (Exists.intro _ (Exists.intro _ (And.intro (c_X11_reachBack D mv mf hv hf a1 a2 ) (And.intro (lw_bnd rfl (by omega) (by omega) rfl) (fun r9 A9 h9 => ?_)))))))
  obtain ⟨y1778, rfl, rfl, by1778⟩ := h9
  refine pq_id1 (pq_pop (pq_goto ?_))
  exact cont _ _ _ ⟨A00, K, nn, dn, q, w, e, v1763, f1763, mq, mv, mf, M, (cw_md D dj).symm, rfl, hI, hS1763, D, hv, hf, dj, fun j hj => by exact hw j hj, by omega, by omega, hR1, hR2, hg, (by omega), hN, hM, hB, hH⟩ (by omega) (by omega)
end
end
