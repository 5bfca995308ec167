section
variable {l : Launch} {g : pm_G} {A0 : pm_H} {h : Nat} {q : Nat → Nat}
set_option maxRecDepth 100000 in
set_option maxHeartbeats 2000000 in
theorem F_X11_turn (D : md_D h q) (v : Nat → Int32) (f : Nat → Nat → Int32) (hv : md_V v) (hf : md_F f) (x1 : Int32) (x2 : Int32) (p0 : (v 4).toInt < 100000) : pm_Mt l g 188 4 0 0 [.ref h, .int x1, .int x2] (md A0 g h q v f) (md_Qw A0 g h q f (fun r v2 f2 => ((v2 6).toInt = (v 6).toInt ∧ (v2 4).toInt ≤ (v 4).toInt + 1 ∧ (v 4).toInt ≤ (v2 4).toInt) ∧ (∀ L, rp (v 0) (f 0) (f 1) L → rp (v2 0) (f2 0) (f2 1) ((ed_turn L x1 x2).getD L) ∧ (v2 4).toInt = (v 4).toInt + edn (ed_turn L x1 x2) ∧ (v2 3).toInt = (v 3).toInt + edn (ed_turn L x1 x2) * (0)))) := by
  refine mt_X11_turn rfl (fun J hC => ?_)
  have hv9 := hv
  unfold md_V at hv9
  have rg_x1 := pm_rng x1
  have rg_x2 := pm_rng x2
  refine hC.1 0 0 _ _ rfl _ _ _ _ _ ?_
  refine And.intro (Exists.intro _ md_o) (Exists.intro _ (Exists.intro _ (Exists.intro _ (Exists.intro _ (And.intro (c_X11_isSpan D v f hv hf x1 x2 ) (And.intro rfl (fun r9 A9 h9 => ?_)))))))
  rcases h9 with ⟨y1, rfl, rfl, ⟨rfl, by1⟩ | ⟨rfl, by1⟩⟩
  · skip
    have k1 : (1 : Int32).toInt = 1 := rfl
    refine And.intro (fun _ => ?_) (fun c9 => absurd c9 (by decide))
    refine hC.1 1 11 _ _ rfl _ _ _ _ _ ?_
    refine And.intro (Exists.intro _ md_o) (Exists.intro _ (Exists.intro _ (Exists.intro _ (Exists.intro _ (And.intro (F_X11_begins D v f hv hf  ) (And.intro rfl (fun r9 A9 h9 => ?_)))))))
    obtain ⟨v3, f3, rfl, rfl, hv3, hf3, hx3, hg3_0, hg3_1, by2⟩ := h9
    have hw3 : f3 2 = f 2 := hx3.trans rfl
    have hr3_0 : f3 0 = f 0 := hg3_0.trans rfl
    have hr3_1 : f3 1 = f 1 := hg3_1.trans rfl
    have hu4_1 := hv3.2.1
    have hu4_2 := hv3.2.2.1
    have sq3_0 : (v3 0).toInt = (v 0).toInt := by2.1
    have sq3_3 : (v3 3).toInt = (v 3).toInt := by2.2.1
    have sq3_4 : (v3 4).toInt = (v 4).toInt := by2.2.2.1
    have sq3_6 : (v3 6).toInt = (v 6).toInt := by2.2.2.2.1
    have sp3 := by2.2.2.2.2
    clear by2
    have k0 : (0 : Int32).toInt = 0 := rfl
    have hp_18 : ∀ L, rp (v 0) (f 0) (f 1) L → rp (v3 0) (f3 0) (f3 1) L := fun L h => rp_fr h (by omega) hr3_0 hr3_1
    refine And.intro (Exists.intro _ md_o) (Exists.intro _ (Exists.intro _ (Exists.intro _ (Exists.intro _ (And.intro (F_X11_laysFrom D v3 f3 hv3 hf3 (0 : Int32) x1 (by omega) (by omega) (by omega) (by omega)) (And.intro rfl (fun r9 A9 h9 => ?_)))))))
    obtain ⟨v6, f6, rfl, rfl, hv6, hf6, hx6, hg6_0, hg6_1, by5⟩ := h9
    have hw6 : f6 2 = f 2 := hx6.trans hw3
    have hr6_0 : f6 0 = f 0 := hg6_0.trans hr3_0
    have hr6_1 : f6 1 = f 1 := hg6_1.trans hr3_1
    have hu7_2 := hv6.2.2.1
    have hb_18 := by5.2
    have sq6_0 : (v6 0).toInt = (v 0).toInt := by5.1.1.trans sq3_0
    have sq6_1 : (v6 1).toInt = (v3 1).toInt := by5.1.2.1
    have sq6_3 : (v6 3).toInt = (v 3).toInt := by5.1.2.2.1.trans sq3_3
    have sq6_4 : (v6 4).toInt = (v 4).toInt := by5.1.2.2.2.1.trans sq3_4
    have sq6_6 : (v6 6).toInt = (v 6).toInt := by5.1.2.2.2.2.1.trans sq3_6
    have sp6 := by5.1.2.2.2.2.2
    clear by5
    have lp9 : ∀ (n : Nat) (z3_23 : Int32) (v8 : Nat → Int32) (f8 : Nat → Nat → Int32), md_V v8 → md_F f8 → f8 2 = f 2 → f8 0 = f 0 → f8 1 = f 1 → (x1.toInt - 1 ≤ z3_23.toInt ∧ z3_23.toInt ≤ x2.toInt) → ((v8 0).toInt = (v 0).toInt ∧ (v8 4).toInt = (v 4).toInt ∧ (v8 3).toInt = (v 3).toInt ∧ (v8 2).toInt = x1.toInt + (x2.toInt - z3_23.toInt)) → (∀ L, rp (v 0) (f 0) (f 1) L → rp (v8 2) (f8 5) (f8 6) (si L 0 x1.toInt ++ (si L (z3_23.toInt + 1) (x2.toInt + 1)).reverse)) → (v8 6).toInt = (v 6).toInt → z3_23.toInt + 1 < (n : Int) → J 23 [some (.ref h), some (.int x1), some (.int x2), some (.int z3_23)] [] (md A0 g h q v8 f8) 0 0 := by
      intro n
      induction n with
      | zero =>
        intro z3_23 v8 f8 hv8 hf8 hw8 hr8_0 hr8_1 j0_23 j1_23 j2_23 j3_23 j4_23
        clear hu4_1 hu4_2 sq3_0 sq3_3 sq3_4 sq3_6 sp3 hu7_2 sq6_0 sq6_1 sq6_3 sq6_4 sq6_6 sp6
        omega
      | succ n ih10 =>
        intro z3_23 v8 f8 hv8 hf8 hw8 hr8_0 hr8_1 j0_23 j1_23 j2_23 j3_23 j4_23
        clear hu4_1 hu4_2 sq3_0 sq3_3 sq3_4 sq3_6 sp3 hu7_2 sq6_0 sq6_1 sq6_3 sq6_4 sq6_6 sp6
        have lr0 := hr8_0
        have lr1 := hr8_1
        refine hC.1 2 23 _ _ rfl _ _ _ _ _ ?_
        have hu11_0 := hv8.1
        have hu11_1 := hv8.2.1
        have hu11_2 := hv8.2.2.1
        have hu11_3 := hv8.2.2.2.1
        have hu11_4 := hv8.2.2.2.2.1
        refine And.intro (fun c12 => ?_) (fun c12 => ?_)
        · skip
          refine hC.1 3 50 _ _ rfl _ _ _ _ _ ?_
          intro m13 em_53
          try have e13 : m13.toInt = (x2).toInt + (1) := by rw [em_53]; exact pm_addc _ _ (1) rfl (by omega) (by omega)
          refine Exists.intro _ (And.intro md_o ?_)
          have hp_58 : ∀ L, rp (v 0) (f 0) (f 1) L → rp (v8 0) (f8 0) (f8 1) L := fun L h => rp_fr h (by omega) hr8_0 hr8_1
          refine And.intro (Exists.intro _ md_o) (Exists.intro _ (Exists.intro _ (Exists.intro _ (Exists.intro _ (And.intro (F_X11_laysFrom D v8 f8 hv8 hf8 m13 (v8 0) (by omega) (by omega) (by omega) (by omega)) (And.intro rfl (fun r9 A9 h9 => ?_)))))))
          obtain ⟨v15, f15, rfl, rfl, hv15, hf15, hx15, hg15_0, hg15_1, by14⟩ := h9
          have hw15 : f15 2 = f 2 := hx15.trans hw8
          have hr15_0 : f15 0 = f 0 := hg15_0.trans hr8_0
          have hr15_1 : f15 1 = f 1 := hg15_1.trans hr8_1
          have hu16_2 := hv15.2.2.1
          have hb_58 := by14.2
          have sq15_0 : (v15 0).toInt = (v8 0).toInt := by14.1.1
          have sq15_1 : (v15 1).toInt = (v8 1).toInt := by14.1.2.1
          have sq15_3 : (v15 3).toInt = (v8 3).toInt := by14.1.2.2.1
          have sq15_4 : (v15 4).toInt = (v8 4).toInt := by14.1.2.2.2.1
          have sq15_6 : (v15 6).toInt = (v8 6).toInt := by14.1.2.2.2.2.1
          have sp15 := by14.1.2.2.2.2.2
          clear by14
          refine And.intro (Exists.intro _ md_o) (Exists.intro _ (Exists.intro _ (Exists.intro _ (Exists.intro _ (And.intro (F_X11_ends D v15 f15 hv15 hf15  (by omega)) (And.intro rfl (fun r9 A9 h9 => ?_)))))))
          obtain ⟨y17, v18, f18, rfl, rfl, hv18, hf18, hx18, by17⟩ := h9
          have hw18 : f18 2 = f 2 := hx18.trans hw15
          have hu19_0 := hv18.1
          have hu19_4 := hv18.2.2.2.2.1
          have hb_62 := by17.2
          have sq18_1 : (v18 1).toInt = (v8 1).toInt := by17.1.1.trans sq15_1
          have sq18_2 : (v18 2).toInt = (v15 2).toInt := by17.1.2.1
          have sq18_3 : (v18 3).toInt = (v8 3).toInt := by17.1.2.2.1.trans sq15_3
          have sq18_6 : (v18 6).toInt = (v8 6).toInt := by17.1.2.2.2.1.trans sq15_6
          have sp18 := by17.1.2.2.2.2
          clear by17
          exact ⟨rfl, fun e9 => absurd e9 (by decide), rfl, y17, v18, f18, rfl, rfl, hv18, hf18, hw18, by first | omega | (dsimp only; omega) | trivial, by intro L hL; have hl := hL.1; rw [ed_turn, if_pos (by omega)]; have t2 := j2_23 L hL; rw [show z3_23.toInt + 1 = x1.toInt by omega] at t2; have t3 := hb_58 L _ (x2.toInt + 1) L.length (hp_58 L hL) (by omega) (by omega) (by omega) (by omega) t2; exact ⟨hb_62 _ t3, by show _ = _ + (1 : Int); omega, by show _ = _ + (1 : Int) * _; omega⟩⟩
        · skip
          refine Exists.intro _ (And.intro md_o ?_)
          refine Exists.intro _ (Exists.intro _ (And.intro (Or.inl (md_a_colours D)) (And.intro (by omega) ?_)))
          have w20 : (0 : Int) ≤ (f8 0 (z3_23).toInt.toNat).toInt ∧ (f8 0 (z3_23).toInt.toNat).toInt ≤ (23 : Int) := hf8 0 _
          refine Exists.intro _ (And.intro md_o ?_)
          refine Exists.intro _ (Exists.intro _ (And.intro (Or.inl (md_a_names D)) (And.intro (by omega) ?_)))
          refine And.intro (Exists.intro _ md_o) (Exists.intro _ (Exists.intro _ (Exists.intro _ (Exists.intro _ (And.intro (F_X11_lays D v8 f8 hv8 hf8 (f8 0 (z3_23).toInt.toNat) (f8 1 (z3_23).toInt.toNat) (by omega) (by omega)) (And.intro rfl (fun r9 A9 h9 => ?_)))))))
          obtain ⟨v22, f22, rfl, rfl, hv22, hf22, hx22, hg22_0, hg22_1, by21⟩ := h9
          have hw22 : f22 2 = f 2 := hx22.trans hw8
          have hr22_0 : f22 0 = f 0 := hg22_0.trans hr8_0
          have hr22_1 : f22 1 = f 1 := hg22_1.trans hr8_1
          have hu23_2 := hv22.2.2.1
          have hb_41 := by21.2
          have sq22_0 : (v22 0).toInt = (v8 0).toInt := by21.1.1
          have sq22_1 : (v22 1).toInt = (v8 1).toInt := by21.1.2.1
          have sq22_3 : (v22 3).toInt = (v8 3).toInt := by21.1.2.2.1
          have sq22_4 : (v22 4).toInt = (v8 4).toInt := by21.1.2.2.2.1
          have sq22_6 : (v22 6).toInt = (v8 6).toInt := by21.1.2.2.2.2.1
          have sp22 := by21.1.2.2.2.2.2
          have hb9 := by21.2
          clear by21
          have km1 : (-1 : Int32).toInt = -1 := rfl
          intro m24 em_44
          try have e24 : m24.toInt = (z3_23).toInt + (-1) := by rw [em_44]; exact pm_addc _ _ (-1) rfl (by omega) (by omega)
          exact ih10 m24 v22 f22 hv22 hf22 hw22 hr22_0 hr22_1 (by omega) (by omega) (by intro L hL; have hl := hL.1; rw [show m24.toInt + 1 = z3_23.toInt by omega, si_c hL (a := z3_23.toInt) (b := x2.toInt + 1) (by omega) (by omega) (by omega), List.reverse_cons, ← List.append_assoc]; have h4 := hb9 _ (j2_23 L hL); rw [lr0, lr1] at h4; exact h4) (by omega) (by omega)
    exact lp9 (x2.toInt + 1).toNat.succ x2 v6 f6 hv6 hf6 hw6 hr6_0 hr6_1 (by omega) (by omega) (by intro L hL; have hl := hL.1; rw [si_n (Int.le_refl _), List.reverse_nil, List.append_nil]; have t1 := hb_18 L [] 0 x1.toInt (hp_18 L hL) rfl rfl (by omega) (by omega) (rp_0 (by omega)); rw [List.nil_append] at t1; exact t1) (by omega) (by omega)
  · skip
    have k0 : (0 : Int32).toInt = 0 := rfl
    refine And.intro (fun c9 => absurd c9 (by decide)) (fun _ => ?_)
    have km1 : (-1 : Int32).toInt = -1 := rfl
    exact ⟨rfl, fun e9 => absurd e9 (by decide), rfl, (-1 : Int32), v, f, rfl, rfl, hv, hf, rfl, by first | omega | (dsimp only; omega) | trivial, by intro L hL; have hl := hL.1; rw [ed_turn, if_neg (by omega)]; exact ⟨hL, by show _ = _ + (0 : Int); omega, by show _ = _ + (0 : Int) * _; omega⟩⟩

end
