section
variable {l : Launch} {g : pm_G} {A0 : pm_H} {h : Nat} {q : Nat → Nat}
set_option maxRecDepth 100000 in
set_option maxHeartbeats 2000000 in
theorem F_X11_draw (D : md_D h q) (v : Nat → Int32) (f : Nat → Nat → Int32) (hv : md_V v) (hf : md_F f) (x1 : Int32) (x2 : Int32) (x3 : Int32) (p0 : (v 4).toInt < 100000) : pm_Mt l g 193 4 0 0 [.ref h, .int x1, .int x2, .int x3] (md A0 g h q v f) (md_Qw A0 g h q f (fun r v2 f2 => ((v2 6).toInt = (v 6).toInt ∧ (v2 4).toInt ≤ (v 4).toInt + 1 ∧ (v 4).toInt ≤ (v2 4).toInt) ∧ (∀ L, rp (v 0) (f 0) (f 1) L → rp (v2 0) (f2 0) (f2 1) ((ed_draw L (v 3) x1 x2 x3).getD L) ∧ (v2 4).toInt = (v 4).toInt + edn (ed_draw L (v 3) x1 x2 x3) ∧ (v2 3).toInt = (v 3).toInt + edn (ed_draw L (v 3) x1 x2 x3) * (x2.toInt)))) := by
  refine mt_X11_draw rfl (fun J hC => ?_)
  have hv9 := hv
  unfold md_V at hv9
  have rg_x1 := pm_rng x1
  have rg_x2 := pm_rng x2
  have rg_x3 := pm_rng x3
  refine hC.1 0 0 _ _ rfl _ _ _ _ _ ?_
  have k0 : (0 : Int32).toInt = 0 := rfl
  have k9999 : (9999 : Int32).toInt = 9999 := rfl
  refine Exists.intro _ (Exists.intro _ (Exists.intro _ (Exists.intro _ (And.intro (c_X11_isIn (md A0 g h q v f) x1 (0 : Int32) (9999 : Int32) ) (And.intro rfl (fun r9 A9 h9 => ?_))))))
  rcases h9 with ⟨y1, rfl, rfl, ⟨rfl, by1⟩ | ⟨rfl, by1⟩⟩
  · skip
    have k1 : (1 : Int32).toInt = 1 := rfl
    refine And.intro (fun c9 => absurd c9 (by decide)) (fun _ => ?_)
    have k160 : (160 : Int32).toInt = 160 := rfl
    refine Exists.intro _ (Exists.intro _ (Exists.intro _ (Exists.intro _ (And.intro (c_X11_isIn (md A0 g h q v f) x2 (1 : Int32) (160 : Int32) ) (And.intro rfl (fun r9 A9 h9 => ?_))))))
    rcases h9 with ⟨y2, rfl, rfl, ⟨rfl, by2⟩ | ⟨rfl, by2⟩⟩
    · skip
      refine And.intro (fun c9 => absurd c9 (by decide)) (fun _ => ?_)
      have k24 : (24 : Int32).toInt = 24 := rfl
      refine Exists.intro _ (Exists.intro _ (Exists.intro _ (Exists.intro _ (And.intro (c_X11_isIn (md A0 g h q v f) x3 (1 : Int32) (24 : Int32) ) (And.intro rfl (fun r9 A9 h9 => ?_))))))
      rcases h9 with ⟨y3, rfl, rfl, ⟨rfl, by3⟩ | ⟨rfl, by3⟩⟩
      · skip
        refine And.intro (fun c9 => absurd c9 (by decide)) (fun _ => ?_)
        have hp_34 : ∀ L, rp (v 0) (f 0) (f 1) L → rp (v 0) (f 0) (f 1) L := fun L h => rp_fr h (by omega) rfl rfl
        refine And.intro (Exists.intro _ md_o) (Exists.intro _ (Exists.intro _ (Exists.intro _ (Exists.intro _ (And.intro (c_X11_hasRoom D v f hv hf x2 (by omega)) (And.intro rfl (fun r9 A9 h9 => ?_)))))))
        rcases h9 with ⟨y4, rfl, rfl, ⟨rfl, by4⟩ | ⟨rfl, by4⟩⟩
        · skip
          refine And.intro (fun _ => ?_) (fun c9 => absurd c9 (by decide))
          refine hC.1 2 42 _ _ rfl _ _ _ _ _ ?_
          have hp_43 : ∀ L, rp (v 0) (f 0) (f 1) L → rp (v 0) (f 0) (f 1) L := fun L h => rp_fr h (by omega) rfl rfl
          refine And.intro (Exists.intro _ md_o) (Exists.intro _ (Exists.intro _ (Exists.intro _ (Exists.intro _ (And.intro (F_X11_begins D v f hv hf  ) (And.intro rfl (fun r9 A9 h9 => ?_)))))))
          obtain ⟨v6, f6, rfl, rfl, hv6, hf6, hx6, hg6_0, hg6_1, by5⟩ := h9
          have hw6 : f6 2 = f 2 := hx6.trans rfl
          have hr6_0 : f6 0 = f 0 := hg6_0.trans rfl
          have hr6_1 : f6 1 = f 1 := hg6_1.trans rfl
          have hu7 := hv6
          unfold md_V at hu7
          have sq6 : (v6 0).toInt = (v 0).toInt ∧ (v6 3).toInt = (v 3).toInt ∧ (v6 4).toInt = (v 4).toInt ∧ (v6 6).toInt = (v 6).toInt := by omega
          have sp6 := by5.2.2.2.2
          clear by5
          refine Exists.intro _ (And.intro md_o ?_)
          have hp_52 : ∀ L, rp (v 0) (f 0) (f 1) L → rp (v6 0) (f6 0) (f6 1) L := fun L h => rp_fr h (by omega) hr6_0 hr6_1
          refine And.intro (Exists.intro _ md_o) (Exists.intro _ (Exists.intro _ (Exists.intro _ (Exists.intro _ (And.intro (F_X11_laysFrom D v6 f6 hv6 hf6 (0 : Int32) (v6 0) (by omega) (by omega) (by omega) (by omega)) (And.intro rfl (fun r9 A9 h9 => ?_)))))))
          obtain ⟨v9, f9, rfl, rfl, hv9, hf9, hx9, hg9_0, hg9_1, by8⟩ := h9
          have hw9 : f9 2 = f 2 := hx9.trans hw6
          have hr9_0 : f9 0 = f 0 := hg9_0.trans hr6_0
          have hr9_1 : f9 1 = f 1 := hg9_1.trans hr6_1
          have hu10 := hv9
          unfold md_V at hu10
          clear hu7
          have hb_52 := by8.2
          have sq9 : (v9 0).toInt = (v 0).toInt ∧ (v9 1).toInt = (v6 1).toInt ∧ (v9 3).toInt = (v 3).toInt ∧ (v9 4).toInt = (v 4).toInt ∧ (v9 6).toInt = (v 6).toInt := by omega
          have sp9 := by8.1.2.2.2.2.2
          clear by8
          have lp12 : ∀ (n : Nat) (z4_61 : Int32) (z5_61 : Int32) (v11 : Nat → Int32) (f11 : Nat → Nat → Int32), md_V v11 → md_F f11 → f11 2 = f 2 → f11 0 = f 0 → f11 1 = f 1 → (0 ≤ z5_61.toInt ∧ z5_61.toInt ≤ x2.toInt) → (0 ≤ z4_61.toInt ∧ z4_61.toInt ≤ 10006) → ((v11 0).toInt = (v 0).toInt ∧ (v11 4).toInt = (v 4).toInt ∧ (v11 2).toInt = (v 0).toInt + z5_61.toInt ∧ (v11 3).toInt = (v 3).toInt + z5_61.toInt) → (z4_61.toInt = ds x1.toInt z5_61.toInt.toNat) → (∀ L, rp (v 0) (f 0) (f 1) L → rp (v11 2) (f11 5) (f11 6) (L ++ nw_l (v 3) (dr_l x1.toInt x3.toInt z5_61.toInt.toNat))) → (v11 6).toInt = (v 6).toInt → 200 - z5_61.toInt < (n : Int) → J 61 [some (.ref h), some (.int x1), some (.int x2), some (.int x3), some (.int z4_61), some (.int z5_61)] [] (md A0 g h q v11 f11) 0 0 := by
            intro n
            induction n with
            | zero =>
              intro z4_61 z5_61 v11 f11 hv11 hf11 hw11 hr11_0 hr11_1 j0_61 j1_61 j2_61 j3_61 j4_61 j5_61 j6_61
              omega
            | succ n ih13 =>
              intro z4_61 z5_61 v11 f11 hv11 hf11 hw11 hr11_0 hr11_1 j0_61 j1_61 j2_61 j3_61 j4_61 j5_61 j6_61
              have lr0 := hr11_0
              have lr1 := hr11_1
              have lv3 : ∃ z9, z9 = v11 3 := ⟨_, rfl⟩
              obtain ⟨g61, eg61⟩ := lv3
              refine hC.1 3 61 _ _ rfl _ _ _ _ _ ?_
              have hu14 := hv11
              unfold md_V at hu14
              refine And.intro (fun c15 => ?_) (fun c15 => ?_)
              · skip
                refine hC.1 4 96 _ _ rfl _ _ _ _ _ ?_
                have hp_97 : ∀ L, rp (v 0) (f 0) (f 1) L → rp (v11 0) (f11 0) (f11 1) L := fun L h => rp_fr h (by omega) hr11_0 hr11_1
                refine And.intro (Exists.intro _ md_o) (Exists.intro _ (Exists.intro _ (Exists.intro _ (Exists.intro _ (And.intro (F_X11_ends D v11 f11 hv11 hf11  (by omega)) (And.intro rfl (fun r9 A9 h9 => ?_)))))))
                obtain ⟨y16, v17, f17, rfl, rfl, hv17, hf17, hx17, by16⟩ := h9
                have hw17 : f17 2 = f 2 := hx17.trans hw11
                have hu18 := hv17
                unfold md_V at hu18
                clear hu14
                have hb_97 := by16.2
                have sq17 : (v17 1).toInt = (v11 1).toInt ∧ (v17 2).toInt = (v11 2).toInt ∧ (v17 3).toInt = (v11 3).toInt ∧ (v17 6).toInt = (v11 6).toInt := by omega
                have sp17 := by16.1.2.2.2.2
                clear by16
                exact ⟨rfl, fun e9 => absurd e9 (by decide), rfl, y16, v17, f17, rfl, rfl, hv17, hf17, hw17, by first | omega | (dsimp only; omega) | trivial, by intro L hL; have hl := hL.1; rw [ed_draw, if_pos (by omega)]; have t2 := j4_61 L hL; rw [show z5_61.toInt.toNat = x2.toInt.toNat by omega] at t2; exact ⟨hb_97 _ t2, by show _ = _ + (1 : Int); omega, by show _ = _ + (1 : Int) * _; omega⟩⟩
              · skip
                have k137 : (137 : Int32).toInt = 137 := rfl
                intro m19 em_72
                try have e19 : m19.toInt = (137) * (z4_61).toInt := by rw [em_72]; exact pm_mulk _ _ (137) rfl (by omega) (by omega)
                have k71 : (71 : Int32).toInt = 71 := rfl
                intro m20 em_75
                try have e20 : m20.toInt = (m19).toInt + (71) := by rw [em_75]; exact pm_addc _ _ (71) rfl (by omega) (by omega)
                have k10007 : (10007 : Int32).toInt = 10007 := rfl
                refine And.intro (by decide) ?_
                intro m21 em_79
                have e21 : 0 ≤ m21.toInt ∧ m21.toInt < 10007 ∧ m21.toInt = (m20).toInt % 10007 := by rw [em_79]; exact pm_remc _ _ 10007 rfl (by omega) (by decide)
                have hd1 : ds x1.toInt (z5_61.toInt.toNat + 1) = m21.toInt := by show (137 * ds x1.toInt z5_61.toInt.toNat + 71) % 10007 = _; rw [← j3_61]; omega
                refine And.intro (fun e9 => by have e8 := congrArg Int32.toInt e9; have e7 : (0 : Int32).toInt = 0 := rfl; omega) ?_
                intro m22 em_86
                try have e22 := pm_rem m21 x3 (by omega) (by omega)
                try rw [← em_86] at e22
                obtain ⟨cc9, hcc9⟩ : ∃ z9, z9 = m22 := ⟨_, rfl⟩
                have ecc := pm_rem m21 x3 (by omega) (by omega)
                rw [← em_86, ← hcc9] at ecc
                have hp_87 : ∀ L, rp (v 0) (f 0) (f 1) L → rp (v11 0) (f11 0) (f11 1) L := fun L h => rp_fr h (by omega) hr11_0 hr11_1
                refine And.intro (Exists.intro _ md_o) (Exists.intro _ (Exists.intro _ (Exists.intro _ (Exists.intro _ (And.intro (F_X11_laysNew D v11 f11 hv11 hf11 m22 (by omega) (by omega) (by omega)) (And.intro rfl (fun r9 A9 h9 => ?_)))))))
                obtain ⟨v24, f24, rfl, rfl, hv24, hf24, hx24, hg24_0, hg24_1, by23⟩ := h9
                have hw24 : f24 2 = f 2 := hx24.trans hw11
                have hr24_0 : f24 0 = f 0 := hg24_0.trans hr11_0
                have hr24_1 : f24 1 = f 1 := hg24_1.trans hr11_1
                have hu25 := hv24
                unfold md_V at hu25
                clear hu14
                have hb_87 := by23.2
                have sq24 : (v24 0).toInt = (v11 0).toInt ∧ (v24 1).toInt = (v11 1).toInt ∧ (v24 4).toInt = (v11 4).toInt ∧ (v24 6).toInt = (v11 6).toInt := by omega
                have sp24 := by23.1.2.2.2.2
                have hb9 := by23.2
                clear by23
                intro m26 em_90
                try have e26 : m26.toInt = (z5_61).toInt + (1) := by rw [em_90]; exact pm_addc _ _ (1) rfl (by omega) (by omega)
                exact ih13 m21 m26 v24 f24 hv24 hf24 hw24 hr24_0 hr24_1 (by omega) (by omega) (by omega) (by rw [show m26.toInt.toNat = z5_61.toInt.toNat + 1 by omega, hd1]) (by intro L hL; have hl := hL.1; rw [show m26.toInt.toNat = z5_61.toInt.toNat + 1 by omega, dr_s, hd1, nw_app (g2 := g61) (by rw [eg61, dr_len]; omega) (by rw [dr_len]; omega), ← List.append_assoc]; have h4 := hb9 _ g61 (by rw [eg61]) (j4_61 L hL); have h5 : Int32.ofInt (m21.toInt % x3.toInt) = cc9 := (by rw [← ecc.2.2, Int32.ofInt_toInt]); rw [h5, hcc9]; exact h4) (by omega) (by omega)
          exact lp12 (200 - (0 : Int32).toInt).toNat.succ x1 (0 : Int32) v9 f9 hv9 hf9 hw9 hr9_0 hr9_1 (by omega) (by omega) (by omega) (by rfl) (by intro L hL; have hl := hL.1; show rp _ _ _ (L ++ []); rw [List.append_nil]; have t1 := hb_52 L [] 0 L.length (hp_52 L hL) rfl (by omega) (by omega) (by omega) (rp_0 (by omega)); rw [List.nil_append, si_all] at t1; exact t1) (by omega) (by omega)
        · skip
          refine And.intro (fun c9 => absurd c9 (by decide)) (fun _ => ?_)
          refine hC.1 1 40 _ _ rfl _ _ _ _ _ ?_
          have km1 : (-1 : Int32).toInt = -1 := rfl
          exact ⟨rfl, fun e9 => absurd e9 (by decide), rfl, (-1 : Int32), v, f, rfl, rfl, hv, hf, rfl, by first | omega | (dsimp only; omega) | trivial, by intro L hL; have hl := hL.1; rw [ed_draw, if_neg (by omega)]; exact ⟨hL, by show _ = _ + (0 : Int); omega, by show _ = _ + (0 : Int) * _; omega⟩⟩
      · skip
        refine And.intro (fun _ => ?_) (fun c9 => absurd c9 (by decide))
        refine hC.1 1 40 _ _ rfl _ _ _ _ _ ?_
        have km1 : (-1 : Int32).toInt = -1 := rfl
        exact ⟨rfl, fun e9 => absurd e9 (by decide), rfl, (-1 : Int32), v, f, rfl, rfl, hv, hf, rfl, by first | omega | (dsimp only; omega) | trivial, by intro L hL; have hl := hL.1; rw [ed_draw, if_neg (by omega)]; exact ⟨hL, by show _ = _ + (0 : Int); omega, by show _ = _ + (0 : Int) * _; omega⟩⟩
    · skip
      refine And.intro (fun _ => ?_) (fun c9 => absurd c9 (by decide))
      refine hC.1 1 40 _ _ rfl _ _ _ _ _ ?_
      have km1 : (-1 : Int32).toInt = -1 := rfl
      exact ⟨rfl, fun e9 => absurd e9 (by decide), rfl, (-1 : Int32), v, f, rfl, rfl, hv, hf, rfl, by first | omega | (dsimp only; omega) | trivial, by intro L hL; have hl := hL.1; rw [ed_draw, if_neg (by omega)]; exact ⟨hL, by show _ = _ + (0 : Int); omega, by show _ = _ + (0 : Int) * _; omega⟩⟩
  · skip
    refine And.intro (fun _ => ?_) (fun c9 => absurd c9 (by decide))
    refine hC.1 1 40 _ _ rfl _ _ _ _ _ ?_
    have km1 : (-1 : Int32).toInt = -1 := rfl
    exact ⟨rfl, fun e9 => absurd e9 (by decide), rfl, (-1 : Int32), v, f, rfl, rfl, hv, hf, rfl, by first | omega | (dsimp only; omega) | trivial, by intro L hL; have hl := hL.1; rw [ed_draw, if_neg (by omega)]; exact ⟨hL, by show _ = _ + (0 : Int); omega, by show _ = _ + (0 : Int) * _; omega⟩⟩

end
