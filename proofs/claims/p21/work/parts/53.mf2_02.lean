section
variable {l : Launch} {g : pm_G} {A0 : pm_H} {h : Nat} {q : Nat → Nat}
set_option maxRecDepth 100000 in
set_option maxHeartbeats 2000000 in
theorem F_X11_copy (D : md_D h q) (v : Nat → Int32) (f : Nat → Nat → Int32) (hv : md_V v) (hf : md_F f) (x1 : Int32) (x2 : Int32) (x3 : Int32) (p0 : (v 4).toInt < 100000) : pm_Mt l g 192 4 0 0 [.ref h, .int x1, .int x2, .int x3] (md A0 g h q v f) (md_Qw A0 g h q f (fun r v2 f2 => ((v2 6).toInt = (v 6).toInt ∧ (v2 4).toInt ≤ (v 4).toInt + 1 ∧ (v 4).toInt ≤ (v2 4).toInt) ∧ (∀ L, rp (v 0) (f 0) (f 1) L → rp (v2 0) (f2 0) (f2 1) ((ed_copy L (v 3) x1 x2 x3).getD L) ∧ (v2 4).toInt = (v 4).toInt + edn (ed_copy L (v 3) x1 x2 x3) ∧ (v2 3).toInt = (v 3).toInt + edn (ed_copy L (v 3) x1 x2 x3) * (x2.toInt - x1.toInt + 1)))) := by
  refine mt_X11_copy rfl (fun J hC => ?_)
  have hv9 := hv
  unfold md_V at hv9
  have rg_x1 := pm_rng x1
  have rg_x2 := pm_rng x2
  have rg_x3 := pm_rng x3
  refine hC.1 0 0 _ _ rfl _ _ _ _ _ ?_
  have hp_3 : ∀ L, rp (v 0) (f 0) (f 1) L → rp (v 0) (f 0) (f 1) L := fun L h => rp_fr h (by omega) rfl rfl
  refine And.intro (Exists.intro _ md_o) (Exists.intro _ (Exists.intro _ (Exists.intro _ (Exists.intro _ (And.intro (c_X11_isSpan D v f hv hf x1 x2 ) (And.intro rfl (fun r9 A9 h9 => ?_)))))))
  rcases h9 with ⟨y1, rfl, rfl, ⟨rfl, by1⟩ | ⟨rfl, by1⟩⟩
  · skip
    have k1 : (1 : Int32).toInt = 1 := rfl
    refine And.intro (fun c9 => absurd c9 (by decide)) (fun _ => ?_)
    have k0 : (0 : Int32).toInt = 0 := rfl
    refine Exists.intro _ (And.intro md_o ?_)
    refine Exists.intro _ (Exists.intro _ (Exists.intro _ (Exists.intro _ (And.intro (c_X11_isIn (md A0 g h q v f) x3 (0 : Int32) (v 0) ) (And.intro rfl (fun r9 A9 h9 => ?_))))))
    rcases h9 with ⟨y2, rfl, rfl, ⟨rfl, by2⟩ | ⟨rfl, by2⟩⟩
    · skip
      refine And.intro (fun c9 => absurd c9 (by decide)) (fun _ => ?_)
      intro m3 em_24
      try have e3 : m3.toInt = (x2).toInt - (x1).toInt := by rw [em_24]; exact pm_sub _ _ (by omega) (by omega)
      intro m4 em_26
      try have e4 : m4.toInt = (m3).toInt + (1) := by rw [em_26]; exact pm_addc _ _ (1) rfl (by omega) (by omega)
      have hp_27 : ∀ L, rp (v 0) (f 0) (f 1) L → rp (v 0) (f 0) (f 1) L := fun L h => rp_fr h (by omega) rfl rfl
      refine And.intro (Exists.intro _ md_o) (Exists.intro _ (Exists.intro _ (Exists.intro _ (Exists.intro _ (And.intro (c_X11_hasRoom D v f hv hf m4 (by omega)) (And.intro rfl (fun r9 A9 h9 => ?_)))))))
      rcases h9 with ⟨y5, rfl, rfl, ⟨rfl, by5⟩ | ⟨rfl, by5⟩⟩
      · skip
        refine And.intro (fun _ => ?_) (fun c9 => absurd c9 (by decide))
        refine hC.1 2 35 _ _ rfl _ _ _ _ _ ?_
        have hp_36 : ∀ L, rp (v 0) (f 0) (f 1) L → rp (v 0) (f 0) (f 1) L := fun L h => rp_fr h (by omega) rfl rfl
        refine And.intro (Exists.intro _ md_o) (Exists.intro _ (Exists.intro _ (Exists.intro _ (Exists.intro _ (And.intro (F_X11_begins D v f hv hf  ) (And.intro rfl (fun r9 A9 h9 => ?_)))))))
        obtain ⟨v7, f7, rfl, rfl, hv7, hf7, hx7, hg7_0, hg7_1, by6⟩ := h9
        have hw7 : f7 2 = f 2 := hx7.trans rfl
        have hr7_0 : f7 0 = f 0 := hg7_0.trans rfl
        have hr7_1 : f7 1 = f 1 := hg7_1.trans rfl
        have hu8 := hv7
        unfold md_V at hu8
        have hp_42 : ∀ L, rp (v 0) (f 0) (f 1) L → rp (v7 0) (f7 0) (f7 1) L := fun L h => rp_fr h (by omega) hr7_0 hr7_1
        refine And.intro (Exists.intro _ md_o) (Exists.intro _ (Exists.intro _ (Exists.intro _ (Exists.intro _ (And.intro (F_X11_laysFrom D v7 f7 hv7 hf7 (0 : Int32) x3 (by omega) (by omega) (by omega) (by omega)) (And.intro rfl (fun r9 A9 h9 => ?_)))))))
        obtain ⟨v10, f10, rfl, rfl, hv10, hf10, hx10, hg10_0, hg10_1, by9⟩ := h9
        have hw10 : f10 2 = f 2 := hx10.trans hw7
        have hr10_0 : f10 0 = f 0 := hg10_0.trans hr7_0
        have hr10_1 : f10 1 = f 1 := hg10_1.trans hr7_1
        have hu11 := hv10
        unfold md_V at hu11
        have hb_42 := by9.2
        have lp13 : ∀ (n : Nat) (z4_48 : Int32) (v12 : Nat → Int32) (f12 : Nat → Nat → Int32), md_V v12 → md_F f12 → f12 2 = f 2 → f12 0 = f 0 → f12 1 = f 1 → (x1.toInt ≤ z4_48.toInt ∧ z4_48.toInt ≤ x2.toInt + 1) → ((v12 0).toInt = (v 0).toInt ∧ (v12 4).toInt = (v 4).toInt ∧ (v12 2).toInt = x3.toInt + (z4_48.toInt - x1.toInt) ∧ (v12 3).toInt = (v 3).toInt + (z4_48.toInt - x1.toInt)) → (∀ L, rp (v 0) (f 0) (f 1) L → rp (v12 2) (f12 5) (f12 6) (si L 0 x3.toInt ++ nw_l (v 3) ((si L x1.toInt z4_48.toInt).map Prod.fst))) → (v12 6).toInt = (v 6).toInt → 200 - z4_48.toInt < (n : Int) → J 48 [some (.ref h), some (.int x1), some (.int x2), some (.int x3), some (.int z4_48)] [] (md A0 g h q v12 f12) 0 0 := by
          intro n
          induction n with
          | zero =>
            intro z4_48 v12 f12 hv12 hf12 hw12 hr12_0 hr12_1 j0_48 j1_48 j2_48 j3_48 j4_48
            omega
          | succ n ih14 =>
            intro z4_48 v12 f12 hv12 hf12 hw12 hr12_0 hr12_1 j0_48 j1_48 j2_48 j3_48 j4_48
            have lr0 := hr12_0
            have lr1 := hr12_1
            have lv3 : ∃ z9, z9 = v12 3 := ⟨_, rfl⟩
            obtain ⟨g48, eg48⟩ := lv3
            refine hC.1 3 48 _ _ rfl _ _ _ _ _ ?_
            have hu15 := hv12
            unfold md_V at hu15
            refine And.intro (fun c16 => ?_) (fun c16 => ?_)
            · skip
              refine hC.1 4 71 _ _ rfl _ _ _ _ _ ?_
              refine Exists.intro _ (And.intro md_o ?_)
              have hp_77 : ∀ L, rp (v 0) (f 0) (f 1) L → rp (v12 0) (f12 0) (f12 1) L := fun L h => rp_fr h (by omega) hr12_0 hr12_1
              refine And.intro (Exists.intro _ md_o) (Exists.intro _ (Exists.intro _ (Exists.intro _ (Exists.intro _ (And.intro (F_X11_laysFrom D v12 f12 hv12 hf12 x3 (v12 0) (by omega) (by omega) (by omega) (by omega)) (And.intro rfl (fun r9 A9 h9 => ?_)))))))
              obtain ⟨v18, f18, rfl, rfl, hv18, hf18, hx18, hg18_0, hg18_1, by17⟩ := h9
              have hw18 : f18 2 = f 2 := hx18.trans hw12
              have hr18_0 : f18 0 = f 0 := hg18_0.trans hr12_0
              have hr18_1 : f18 1 = f 1 := hg18_1.trans hr12_1
              have hu19 := hv18
              unfold md_V at hu19
              have hb_77 := by17.2
              have hp_81 : ∀ L, rp (v 0) (f 0) (f 1) L → rp (v18 0) (f18 0) (f18 1) L := fun L h => rp_fr h (by omega) hr18_0 hr18_1
              refine And.intro (Exists.intro _ md_o) (Exists.intro _ (Exists.intro _ (Exists.intro _ (Exists.intro _ (And.intro (F_X11_ends D v18 f18 hv18 hf18  (by omega)) (And.intro rfl (fun r9 A9 h9 => ?_)))))))
              obtain ⟨y20, v21, f21, rfl, rfl, hv21, hf21, hx21, by20⟩ := h9
              have hw21 : f21 2 = f 2 := hx21.trans hw18
              have hu22 := hv21
              unfold md_V at hu22
              have hb_81 := by20.2
              exact ⟨rfl, fun e9 => absurd e9 (by decide), rfl, y20, v21, f21, rfl, rfl, hv21, hf21, hw21, by first | trivial | omega | (dsimp only; omega), by intro L hL; have hl := hL.1; rw [ed_copy, if_pos (by omega)]; have t2 := j2_48 L hL; rw [show z4_48.toInt = x2.toInt + 1 by omega] at t2; have t3 := hb_77 L _ (x3.toInt) L.length (hp_77 L hL) (by omega) (by omega) (by omega) (by omega) t2; exact ⟨hb_81 _ t3, by show _ = _ + (1 : Int); omega, by show _ = _ + (1 : Int) * _; omega⟩⟩
            · skip
              refine Exists.intro _ (And.intro md_o ?_)
              refine Exists.intro _ (Exists.intro _ (And.intro (Or.inl (md_a_colours D)) (And.intro (by omega) ?_)))
              have w23 : (0 : Int) ≤ (f12 0 (z4_48).toInt.toNat).toInt ∧ (f12 0 (z4_48).toInt.toNat).toInt ≤ (23 : Int) := hf12 0 _
              have hp_62 : ∀ L, rp (v 0) (f 0) (f 1) L → rp (v12 0) (f12 0) (f12 1) L := fun L h => rp_fr h (by omega) hr12_0 hr12_1
              refine And.intro (Exists.intro _ md_o) (Exists.intro _ (Exists.intro _ (Exists.intro _ (Exists.intro _ (And.intro (F_X11_laysNew D v12 f12 hv12 hf12 (f12 0 (z4_48).toInt.toNat) (by omega) (by omega) (by omega)) (And.intro rfl (fun r9 A9 h9 => ?_)))))))
              obtain ⟨v25, f25, rfl, rfl, hv25, hf25, hx25, hg25_0, hg25_1, by24⟩ := h9
              have hw25 : f25 2 = f 2 := hx25.trans hw12
              have hr25_0 : f25 0 = f 0 := hg25_0.trans hr12_0
              have hr25_1 : f25 1 = f 1 := hg25_1.trans hr12_1
              have hu26 := hv25
              unfold md_V at hu26
              have hb_62 := by24.2
              have hb9 := by24.2
              intro m27 em_65
              try have e27 : m27.toInt = (z4_48).toInt + (1) := by rw [em_65]; exact pm_addc _ _ (1) rfl (by omega) (by omega)
              exact ih14 m27 v25 f25 hv25 hf25 hw25 hr25_0 hr25_1 (by omega) (by omega) (by intro L hL; have hl := hL.1; rw [show m27.toInt = z4_48.toInt + 1 by omega, si_s hL (a := x1.toInt) (z := z4_48.toInt) (by omega) (by omega) (by omega), List.map_append, List.map_cons, List.map_nil]; have hk := si_len (L := L) (a := x1.toInt) (b := z4_48.toInt) (by omega) (by omega) (by omega); rw [nw_app (g2 := g48) (by rw [eg48, List.length_map]; omega) (by rw [List.length_map]; omega), ← List.append_assoc]; have h4 := hb9 _ g48 (by rw [eg48]) (j2_48 L hL); rw [lr0] at h4; exact h4) (by omega) (by omega)
        exact lp13 (200 - x1.toInt).toNat.succ x1 v10 f10 hv10 hf10 hw10 hr10_0 hr10_1 (by omega) (by omega) (by intro L hL; have hl := hL.1; rw [si_n (Int.le_refl _)]; have t1 := hb_42 L [] 0 x3.toInt (hp_42 L hL) rfl rfl (by omega) (by omega) (rp_0 (by omega)); rw [List.nil_append] at t1; show rp _ _ _ (si L 0 x3.toInt ++ []); rw [List.append_nil]; exact t1) (by omega) (by omega)
      · skip
        refine And.intro (fun c9 => absurd c9 (by decide)) (fun _ => ?_)
        refine hC.1 1 33 _ _ rfl _ _ _ _ _ ?_
        have km1 : (-1 : Int32).toInt = -1 := rfl
        exact ⟨rfl, fun e9 => absurd e9 (by decide), rfl, (-1 : Int32), v, f, rfl, rfl, hv, hf, rfl, by first | trivial | omega | (dsimp only; omega), by intro L hL; have hl := hL.1; rw [ed_copy, if_neg (by omega)]; exact ⟨hL, by show _ = _ + (0 : Int); omega, by show _ = _ + (0 : Int) * _; omega⟩⟩
    · skip
      refine And.intro (fun _ => ?_) (fun c9 => absurd c9 (by decide))
      refine hC.1 1 33 _ _ rfl _ _ _ _ _ ?_
      have km1 : (-1 : Int32).toInt = -1 := rfl
      exact ⟨rfl, fun e9 => absurd e9 (by decide), rfl, (-1 : Int32), v, f, rfl, rfl, hv, hf, rfl, by first | trivial | omega | (dsimp only; omega), by intro L hL; have hl := hL.1; rw [ed_copy, if_neg (by omega)]; exact ⟨hL, by show _ = _ + (0 : Int); omega, by show _ = _ + (0 : Int) * _; omega⟩⟩
  · skip
    have k0 : (0 : Int32).toInt = 0 := rfl
    refine And.intro (fun _ => ?_) (fun c9 => absurd c9 (by decide))
    refine hC.1 1 33 _ _ rfl _ _ _ _ _ ?_
    have km1 : (-1 : Int32).toInt = -1 := rfl
    exact ⟨rfl, fun e9 => absurd e9 (by decide), rfl, (-1 : Int32), v, f, rfl, rfl, hv, hf, rfl, by first | trivial | omega | (dsimp only; omega), by intro L hL; have hl := hL.1; rw [ed_copy, if_neg (by omega)]; exact ⟨hL, by show _ = _ + (0 : Int); omega, by show _ = _ + (0 : Int) * _; omega⟩⟩

set_option maxRecDepth 100000 in
set_option maxHeartbeats 2000000 in
theorem F_X11_draw (D : md_D h q) (v : Nat → Int32) (f : Nat → Nat → Int32) (hv : md_V v) (hf : md_F f) (x1 : Int32) (x2 : Int32) (x3 : Int32) (p0 : (v 4).toInt < 100000) : pm_Mt l g 193 4 0 0 [.ref h, .int x1, .int x2, .int x3] (md A0 g h q v f) (md_Qw A0 g h q f (fun r v2 f2 => ((v2 6).toInt = (v 6).toInt ∧ (v2 4).toInt ≤ (v 4).toInt + 1 ∧ (v 4).toInt ≤ (v2 4).toInt) ∧ (∀ L, rp (v 0) (f 0) (f 1) L → rp (v2 0) (f2 0) (f2 1) ((ed_draw L (v 3) x1 x2 x3).getD L) ∧ (v2 4).toInt = (v 4).toInt + edn (ed_draw L (v 3) x1 x2 x3) ∧ (v2 3).toInt = (v 3).toInt + edn (ed_draw L (v 3) x1 x2 x3) * (x2.toInt)))) := by
  refine mt_X11_draw rfl (fun J hC => ?_)
  have hv9 := hv
  unfold md_V at hv9
  have rg_x1 := pm_rng x1
  have rg_x2 := pm_rng x2
  have rg_x3 := pm_rng x3
  refine hC.1 0 0 _ _ rfl _ _ _ _ _ ?_
  have k0 : (0 : Int32).toInt = 0 := rfl
  have k9999 : (9999 : Int32).toInt = 9999 := rfl
  refine Exists.intro _ (Exists.intro _ (Exists.intro _ (Exists.intro _ (And.intro (c_X11_isIn (md A0 g h q v f) x1 (0 : Int32) (9999 : Int32) ) (And.intro rfl (fun r9 A9 h9 => ?_))))))
  rcases h9 with ⟨y1, rfl, rfl, ⟨rfl, by1⟩ | ⟨rfl, by1⟩⟩
  · skip
    have k1 : (1 : Int32).toInt = 1 := rfl
    refine And.intro (fun c9 => absurd c9 (by decide)) (fun _ => ?_)
    have k160 : (160 : Int32).toInt = 160 := rfl
    refine Exists.intro _ (Exists.intro _ (Exists.intro _ (Exists.intro _ (And.intro (c_X11_isIn (md A0 g h q v f) x2 (1 : Int32) (160 : Int32) ) (And.intro rfl (fun r9 A9 h9 => ?_))))))
    rcases h9 with ⟨y2, rfl, rfl, ⟨rfl, by2⟩ | ⟨rfl, by2⟩⟩
    · skip
      refine And.intro (fun c9 => absurd c9 (by decide)) (fun _ => ?_)
      have k24 : (24 : Int32).toInt = 24 := rfl
      refine Exists.intro _ (Exists.intro _ (Exists.intro _ (Exists.intro _ (And.intro (c_X11_isIn (md A0 g h q v f) x3 (1 : Int32) (24 : Int32) ) (And.intro rfl (fun r9 A9 h9 => ?_))))))
      rcases h9 with ⟨y3, rfl, rfl, ⟨rfl, by3⟩ | ⟨rfl, by3⟩⟩
      · skip
        refine And.intro (fun c9 => absurd c9 (by decide)) (fun _ => ?_)
        have hp_34 : ∀ L, rp (v 0) (f 0) (f 1) L → rp (v 0) (f 0) (f 1) L := fun L h => rp_fr h (by omega) rfl rfl
        refine And.intro (Exists.intro _ md_o) (Exists.intro _ (Exists.intro _ (Exists.intro _ (Exists.intro _ (And.intro (c_X11_hasRoom D v f hv hf x2 (by omega)) (And.intro rfl (fun r9 A9 h9 => ?_)))))))
        rcases h9 with ⟨y4, rfl, rfl, ⟨rfl, by4⟩ | ⟨rfl, by4⟩⟩
        · skip
          refine And.intro (fun _ => ?_) (fun c9 => absurd c9 (by decide))
          refine hC.1 2 42 _ _ rfl _ _ _ _ _ ?_
          have hp_43 : ∀ L, rp (v 0) (f 0) (f 1) L → rp (v 0) (f 0) (f 1) L := fun L h => rp_fr h (by omega) rfl rfl
          refine And.intro (Exists.intro _ md_o) (Exists.intro _ (Exists.intro _ (Exists.intro _ (Exists.intro _ (And.intro (F_X11_begins D v f hv hf  ) (And.intro rfl (fun r9 A9 h9 => ?_)))))))
          obtain ⟨v6, f6, rfl, rfl, hv6, hf6, hx6, hg6_0, hg6_1, by5⟩ := h9
          have hw6 : f6 2 = f 2 := hx6.trans rfl
          have hr6_0 : f6 0 = f 0 := hg6_0.trans rfl
          have hr6_1 : f6 1 = f 1 := hg6_1.trans rfl
          have hu7 := hv6
          unfold md_V at hu7
          refine Exists.intro _ (And.intro md_o ?_)
          have hp_52 : ∀ L, rp (v 0) (f 0) (f 1) L → rp (v6 0) (f6 0) (f6 1) L := fun L h => rp_fr h (by omega) hr6_0 hr6_1
          refine And.intro (Exists.intro _ md_o) (Exists.intro _ (Exists.intro _ (Exists.intro _ (Exists.intro _ (And.intro (F_X11_laysFrom D v6 f6 hv6 hf6 (0 : Int32) (v6 0) (by omega) (by omega) (by omega) (by omega)) (And.intro rfl (fun r9 A9 h9 => ?_)))))))
          obtain ⟨v9, f9, rfl, rfl, hv9, hf9, hx9, hg9_0, hg9_1, by8⟩ := h9
          have hw9 : f9 2 = f 2 := hx9.trans hw6
          have hr9_0 : f9 0 = f 0 := hg9_0.trans hr6_0
          have hr9_1 : f9 1 = f 1 := hg9_1.trans hr6_1
          have hu10 := hv9
          unfold md_V at hu10
          have hb_52 := by8.2
          have lp12 : ∀ (n : Nat) (z4_61 : Int32) (z5_61 : Int32) (v11 : Nat → Int32) (f11 : Nat → Nat → Int32), md_V v11 → md_F f11 → f11 2 = f 2 → f11 0 = f 0 → f11 1 = f 1 → (0 ≤ z5_61.toInt ∧ z5_61.toInt ≤ x2.toInt) → (0 ≤ z4_61.toInt ∧ z4_61.toInt ≤ 10006) → ((v11 0).toInt = (v 0).toInt ∧ (v11 4).toInt = (v 4).toInt ∧ (v11 2).toInt = (v 0).toInt + z5_61.toInt ∧ (v11 3).toInt = (v 3).toInt + z5_61.toInt) → (z4_61.toInt = ds x1.toInt z5_61.toInt.toNat) → (∀ L, rp (v 0) (f 0) (f 1) L → rp (v11 2) (f11 5) (f11 6) (L ++ nw_l (v 3) (dr_l x1.toInt x3.toInt z5_61.toInt.toNat))) → (v11 6).toInt = (v 6).toInt → 200 - z5_61.toInt < (n : Int) → J 61 [some (.ref h), some (.int x1), some (.int x2), some (.int x3), some (.int z4_61), some (.int z5_61)] [] (md A0 g h q v11 f11) 0 0 := by
            intro n
            induction n with
            | zero =>
              intro z4_61 z5_61 v11 f11 hv11 hf11 hw11 hr11_0 hr11_1 j0_61 j1_61 j2_61 j3_61 j4_61 j5_61 j6_61
              omega
            | succ n ih13 =>
              intro z4_61 z5_61 v11 f11 hv11 hf11 hw11 hr11_0 hr11_1 j0_61 j1_61 j2_61 j3_61 j4_61 j5_61 j6_61
              have lr0 := hr11_0
              have lr1 := hr11_1
              have lv3 : ∃ z9, z9 = v11 3 := ⟨_, rfl⟩
              obtain ⟨g61, eg61⟩ := lv3
              refine hC.1 3 61 _ _ rfl _ _ _ _ _ ?_
              have hu14 := hv11
              unfold md_V at hu14
              refine And.intro (fun c15 => ?_) (fun c15 => ?_)
              · skip
                refine hC.1 4 96 _ _ rfl _ _ _ _ _ ?_
                have hp_97 : ∀ L, rp (v 0) (f 0) (f 1) L → rp (v11 0) (f11 0) (f11 1) L := fun L h => rp_fr h (by omega) hr11_0 hr11_1
                refine And.intro (Exists.intro _ md_o) (Exists.intro _ (Exists.intro _ (Exists.intro _ (Exists.intro _ (And.intro (F_X11_ends D v11 f11 hv11 hf11  (by omega)) (And.intro rfl (fun r9 A9 h9 => ?_)))))))
                obtain ⟨y16, v17, f17, rfl, rfl, hv17, hf17, hx17, by16⟩ := h9
                have hw17 : f17 2 = f 2 := hx17.trans hw11
                have hu18 := hv17
                unfold md_V at hu18
                have hb_97 := by16.2
                exact ⟨rfl, fun e9 => absurd e9 (by decide), rfl, y16, v17, f17, rfl, rfl, hv17, hf17, hw17, by first | trivial | omega | (dsimp only; omega), by intro L hL; have hl := hL.1; rw [ed_draw, if_pos (by omega)]; have t2 := j4_61 L hL; rw [show z5_61.toInt.toNat = x2.toInt.toNat by omega] at t2; exact ⟨hb_97 _ t2, by show _ = _ + (1 : Int); omega, by show _ = _ + (1 : Int) * _; omega⟩⟩
              · skip
                have k137 : (137 : Int32).toInt = 137 := rfl
                intro m19 em_72
                try have e19 : m19.toInt = (137) * (z4_61).toInt := by rw [em_72]; exact pm_mulk _ _ (137) rfl (by omega) (by omega)
                have k71 : (71 : Int32).toInt = 71 := rfl
                intro m20 em_75
                try have e20 : m20.toInt = (m19).toInt + (71) := by rw [em_75]; exact pm_addc _ _ (71) rfl (by omega) (by omega)
                have k10007 : (10007 : Int32).toInt = 10007 := rfl
                refine And.intro (by decide) ?_
                intro m21 em_79
                have e21 : 0 ≤ m21.toInt ∧ m21.toInt < 10007 ∧ m21.toInt = (m20).toInt % 10007 := by rw [em_79]; exact pm_remc _ _ 10007 rfl (by omega) (by decide)
                have hd1 : ds x1.toInt (z5_61.toInt.toNat + 1) = m21.toInt := by show (137 * ds x1.toInt z5_61.toInt.toNat + 71) % 10007 = _; rw [← j3_61]; omega
                refine And.intro (fun e9 => by have e8 := congrArg Int32.toInt e9; have e7 : (0 : Int32).toInt = 0 := rfl; omega) ?_
                intro m22 em_86
                try have e22 := pm_rem m21 x3 (by omega) (by omega)
                try rw [← em_86] at e22
                obtain ⟨cc9, hcc9⟩ : ∃ z9, z9 = m22 := ⟨_, rfl⟩
                have ecc := pm_rem m21 x3 (by omega) (by omega)
                rw [← em_86, ← hcc9] at ecc
                have hp_87 : ∀ L, rp (v 0) (f 0) (f 1) L → rp (v11 0) (f11 0) (f11 1) L := fun L h => rp_fr h (by omega) hr11_0 hr11_1
                refine And.intro (Exists.intro _ md_o) (Exists.intro _ (Exists.intro _ (Exists.intro _ (Exists.intro _ (And.intro (F_X11_laysNew D v11 f11 hv11 hf11 m22 (by omega) (by omega) (by omega)) (And.intro rfl (fun r9 A9 h9 => ?_)))))))
                obtain ⟨v24, f24, rfl, rfl, hv24, hf24, hx24, hg24_0, hg24_1, by23⟩ := h9
                have hw24 : f24 2 = f 2 := hx24.trans hw11
                have hr24_0 : f24 0 = f 0 := hg24_0.trans hr11_0
                have hr24_1 : f24 1 = f 1 := hg24_1.trans hr11_1
                have hu25 := hv24
                unfold md_V at hu25
                have hb_87 := by23.2
                have hb9 := by23.2
                intro m26 em_90
                try have e26 : m26.toInt = (z5_61).toInt + (1) := by rw [em_90]; exact pm_addc _ _ (1) rfl (by omega) (by omega)
                exact ih13 m21 m26 v24 f24 hv24 hf24 hw24 hr24_0 hr24_1 (by omega) (by omega) (by omega) (by rw [show m26.toInt.toNat = z5_61.toInt.toNat + 1 by omega, hd1]) (by intro L hL; have hl := hL.1; rw [show m26.toInt.toNat = z5_61.toInt.toNat + 1 by omega, dr_s, hd1, nw_app (g2 := g61) (by rw [eg61, dr_len]; omega) (by rw [dr_len]; omega), ← List.append_assoc]; have h4 := hb9 _ g61 (by rw [eg61]) (j4_61 L hL); have h5 : Int32.ofInt (m21.toInt % x3.toInt) = cc9 := (by rw [← ecc.2.2, Int32.ofInt_toInt]); rw [h5, hcc9]; exact h4) (by omega) (by omega)
          exact lp12 (200 - (0 : Int32).toInt).toNat.succ x1 (0 : Int32) v9 f9 hv9 hf9 hw9 hr9_0 hr9_1 (by omega) (by omega) (by omega) (by rfl) (by intro L hL; have hl := hL.1; show rp _ _ _ (L ++ []); rw [List.append_nil]; have t1 := hb_52 L [] 0 L.length (hp_52 L hL) rfl (by omega) (by omega) (by omega) (rp_0 (by omega)); rw [List.nil_append, si_all] at t1; exact t1) (by omega) (by omega)
        · skip
          refine And.intro (fun c9 => absurd c9 (by decide)) (fun _ => ?_)
          refine hC.1 1 40 _ _ rfl _ _ _ _ _ ?_
          have km1 : (-1 : Int32).toInt = -1 := rfl
          exact ⟨rfl, fun e9 => absurd e9 (by decide), rfl, (-1 : Int32), v, f, rfl, rfl, hv, hf, rfl, by first | trivial | omega | (dsimp only; omega), by intro L hL; have hl := hL.1; rw [ed_draw, if_neg (by omega)]; exact ⟨hL, by show _ = _ + (0 : Int); omega, by show _ = _ + (0 : Int) * _; omega⟩⟩
      · skip
        refine And.intro (fun _ => ?_) (fun c9 => absurd c9 (by decide))
        refine hC.1 1 40 _ _ rfl _ _ _ _ _ ?_
        have km1 : (-1 : Int32).toInt = -1 := rfl
        exact ⟨rfl, fun e9 => absurd e9 (by decide), rfl, (-1 : Int32), v, f, rfl, rfl, hv, hf, rfl, by first | trivial | omega | (dsimp only; omega), by intro L hL; have hl := hL.1; rw [ed_draw, if_neg (by omega)]; exact ⟨hL, by show _ = _ + (0 : Int); omega, by show _ = _ + (0 : Int) * _; omega⟩⟩
    · skip
      refine And.intro (fun _ => ?_) (fun c9 => absurd c9 (by decide))
      refine hC.1 1 40 _ _ rfl _ _ _ _ _ ?_
      have km1 : (-1 : Int32).toInt = -1 := rfl
      exact ⟨rfl, fun e9 => absurd e9 (by decide), rfl, (-1 : Int32), v, f, rfl, rfl, hv, hf, rfl, by first | trivial | omega | (dsimp only; omega), by intro L hL; have hl := hL.1; rw [ed_draw, if_neg (by omega)]; exact ⟨hL, by show _ = _ + (0 : Int); omega, by show _ = _ + (0 : Int) * _; omega⟩⟩
  · skip
    refine And.intro (fun _ => ?_) (fun c9 => absurd c9 (by decide))
    refine hC.1 1 40 _ _ rfl _ _ _ _ _ ?_
    have km1 : (-1 : Int32).toInt = -1 := rfl
    exact ⟨rfl, fun e9 => absurd e9 (by decide), rfl, (-1 : Int32), v, f, rfl, rfl, hv, hf, rfl, by first | trivial | omega | (dsimp only; omega), by intro L hL; have hl := hL.1; rw [ed_draw, if_neg (by omega)]; exact ⟨hL, by show _ = _ + (0 : Int); omega, by show _ = _ + (0 : Int) * _; omega⟩⟩

set_option maxRecDepth 100000 in
set_option maxHeartbeats 2000000 in
theorem F_X11_sort (D : md_D h q) (v : Nat → Int32) (f : Nat → Nat → Int32) (hv : md_V v) (hf : md_F f) (x1 : Int32) (x2 : Int32) (p0 : (v 4).toInt < 100000) : pm_Mt l g 190 4 0 0 [.ref h, .int x1, .int x2] (md A0 g h q v f) (md_Qw A0 g h q f (fun r v2 f2 => ((v2 6).toInt = (v 6).toInt ∧ (v2 4).toInt ≤ (v 4).toInt + 1 ∧ (v 4).toInt ≤ (v2 4).toInt) ∧ (∀ L, rp (v 0) (f 0) (f 1) L → rp (v2 0) (f2 0) (f2 1) ((ed_sort L x1 x2).getD L) ∧ (v2 4).toInt = (v 4).toInt + edn (ed_sort L x1 x2) ∧ (v2 3).toInt = (v 3).toInt + edn (ed_sort L x1 x2) * (0)))) := by
  refine mt_X11_sort rfl (fun J hC => ?_)
  have hv9 := hv
  unfold md_V at hv9
  have rg_x1 := pm_rng x1
  have rg_x2 := pm_rng x2
  refine hC.1 0 0 _ _ rfl _ _ _ _ _ ?_
  have hp_3 : ∀ L, rp (v 0) (f 0) (f 1) L → rp (v 0) (f 0) (f 1) L := fun L h => rp_fr h (by omega) rfl rfl
  refine And.intro (Exists.intro _ md_o) (Exists.intro _ (Exists.intro _ (Exists.intro _ (Exists.intro _ (And.intro (c_X11_isSpan D v f hv hf x1 x2 ) (And.intro rfl (fun r9 A9 h9 => ?_)))))))
  rcases h9 with ⟨y1, rfl, rfl, ⟨rfl, by1⟩ | ⟨rfl, by1⟩⟩
  · skip
    have k1 : (1 : Int32).toInt = 1 := rfl
    refine And.intro (fun _ => ?_) (fun c9 => absurd c9 (by decide))
    refine hC.1 1 11 _ _ rfl _ _ _ _ _ ?_
    have hp_12 : ∀ L, rp (v 0) (f 0) (f 1) L → rp (v 0) (f 0) (f 1) L := fun L h => rp_fr h (by omega) rfl rfl
    refine And.intro (Exists.intro _ md_o) (Exists.intro _ (Exists.intro _ (Exists.intro _ (Exists.intro _ (And.intro (F_X11_begins D v f hv hf  ) (And.intro rfl (fun r9 A9 h9 => ?_)))))))
    obtain ⟨v3, f3, rfl, rfl, hv3, hf3, hx3, hg3_0, hg3_1, by2⟩ := h9
    have hw3 : f3 2 = f 2 := hx3.trans rfl
    have hr3_0 : f3 0 = f 0 := hg3_0.trans rfl
    have hr3_1 : f3 1 = f 1 := hg3_1.trans rfl
    have hu4 := hv3
    unfold md_V at hu4
    have k0 : (0 : Int32).toInt = 0 := rfl
    have hp_18 : ∀ L, rp (v 0) (f 0) (f 1) L → rp (v3 0) (f3 0) (f3 1) L := fun L h => rp_fr h (by omega) hr3_0 hr3_1
    refine And.intro (Exists.intro _ md_o) (Exists.intro _ (Exists.intro _ (Exists.intro _ (Exists.intro _ (And.intro (F_X11_laysFrom D v3 f3 hv3 hf3 (0 : Int32) x1 (by omega) (by omega) (by omega) (by omega)) (And.intro rfl (fun r9 A9 h9 => ?_)))))))
    obtain ⟨v6, f6, rfl, rfl, hv6, hf6, hx6, hg6_0, hg6_1, by5⟩ := h9
    have hw6 : f6 2 = f 2 := hx6.trans hw3
    have hr6_0 : f6 0 = f 0 := hg6_0.trans hr3_0
    have hr6_1 : f6 1 = f 1 := hg6_1.trans hr3_1
    have hu7 := hv6
    unfold md_V at hu7
    have hb_18 := by5.2
    have lp9 : ∀ (n : Nat) (z3_23 : Int32) (v8 : Nat → Int32) (f8 : Nat → Nat → Int32), md_V v8 → md_F f8 → f8 2 = f 2 → f8 0 = f 0 → f8 1 = f 1 → (0 ≤ z3_23.toInt ∧ z3_23.toInt ≤ 24) → ((v8 0).toInt = (v 0).toInt ∧ (v8 4).toInt = (v 4).toInt ∧ (v8 3).toInt = (v 3).toInt) → ((v8 2).toInt = x1.toInt + ctLt (f 0) z3_23.toInt x1.toInt.toNat (x2.toInt - x1.toInt + 1).toNat) → (∀ L, rp (v 0) (f 0) (f 1) L → rp (v8 2) (f8 5) (f8 6) (si L 0 x1.toInt ++ st_l (si L x1.toInt (x2.toInt + 1)) z3_23.toInt.toNat)) → (v8 6).toInt = (v 6).toInt → 200 - z3_23.toInt < (n : Int) → J 23 [some (.ref h), some (.int x1), some (.int x2), some (.int z3_23), none] [] (md A0 g h q v8 f8) 0 0 := by
      intro n
      induction n with
      | zero =>
        intro z3_23 v8 f8 hv8 hf8 hw8 hr8_0 hr8_1 j0_23 j1_23 j2_23 j3_23 j4_23 j5_23
        omega
      | succ n ih10 =>
        intro z3_23 v8 f8 hv8 hf8 hw8 hr8_0 hr8_1 j0_23 j1_23 j2_23 j3_23 j4_23 j5_23
        have cl9 := ctLt_le (f 0) z3_23.toInt x1.toInt.toNat (x2.toInt - x1.toInt + 1).toNat
        refine hC.1 2 23 _ _ rfl _ _ _ _ _ ?_
        have hu11 := hv8
        unfold md_V at hu11
        have k24 : (24 : Int32).toInt = 24 := rfl
        refine And.intro (fun c12 => ?_) (fun c12 => ?_)
        · skip
          refine hC.1 6 73 _ _ rfl _ _ _ _ _ ?_
          intro m13 em_76
          try have e13 : m13.toInt = (x2).toInt + (1) := by rw [em_76]; exact pm_addc _ _ (1) rfl (by omega) (by omega)
          refine Exists.intro _ (And.intro md_o ?_)
          have hp_81 : ∀ L, rp (v 0) (f 0) (f 1) L → rp (v8 0) (f8 0) (f8 1) L := fun L h => rp_fr h (by omega) hr8_0 hr8_1
          refine And.intro (Exists.intro _ md_o) (Exists.intro _ (Exists.intro _ (Exists.intro _ (Exists.intro _ (And.intro (F_X11_laysFrom D v8 f8 hv8 hf8 m13 (v8 0) (by omega) (by omega) (by omega) (by omega)) (And.intro rfl (fun r9 A9 h9 => ?_)))))))
          obtain ⟨v15, f15, rfl, rfl, hv15, hf15, hx15, hg15_0, hg15_1, by14⟩ := h9
          have hw15 : f15 2 = f 2 := hx15.trans hw8
          have hr15_0 : f15 0 = f 0 := hg15_0.trans hr8_0
          have hr15_1 : f15 1 = f 1 := hg15_1.trans hr8_1
          have hu16 := hv15
          unfold md_V at hu16
          have hb_81 := by14.2
          have hp_85 : ∀ L, rp (v 0) (f 0) (f 1) L → rp (v15 0) (f15 0) (f15 1) L := fun L h => rp_fr h (by omega) hr15_0 hr15_1
          refine And.intro (Exists.intro _ md_o) (Exists.intro _ (Exists.intro _ (Exists.intro _ (Exists.intro _ (And.intro (F_X11_ends D v15 f15 hv15 hf15  (by omega)) (And.intro rfl (fun r9 A9 h9 => ?_)))))))
          obtain ⟨y17, v18, f18, rfl, rfl, hv18, hf18, hx18, by17⟩ := h9
          have hw18 : f18 2 = f 2 := hx18.trans hw15
          have hu19 := hv18
          unfold md_V at hu19
          have hb_85 := by17.2
          exact ⟨rfl, fun e9 => absurd e9 (by decide), rfl, y17, v18, f18, rfl, rfl, hv18, hf18, hw18, by first | trivial | omega | (dsimp only; omega), by intro L hL; have hl := hL.1; rw [ed_sort, if_pos (by omega)]; have t2 := j3_23 L hL; rw [show z3_23.toInt.toNat = 24 by omega] at t2; have t3 := hb_81 L _ (x2.toInt + 1) L.length (hp_81 L hL) (by omega) (by omega) (by omega) (by omega) t2; exact ⟨hb_85 _ t3, by show _ = _ + (1 : Int); omega, by show _ = _ + (1 : Int) * _; omega⟩⟩
        · skip
          have lp21 : ∀ (n : Nat) (z4_32 : Int32) (v20 : Nat → Int32) (f20 : Nat → Nat → Int32), md_V v20 → md_F f20 → f20 2 = f 2 → f20 0 = f 0 → f20 1 = f 1 → (x1.toInt ≤ z4_32.toInt ∧ z4_32.toInt ≤ x2.toInt + 1) → ((v20 0).toInt = (v 0).toInt ∧ (v20 4).toInt = (v 4).toInt ∧ (v20 3).toInt = (v 3).toInt) → ((v20 2).toInt = x1.toInt + soN (f 0) z3_23.toInt x1.toInt.toNat (z4_32.toInt - x1.toInt).toNat (x2.toInt - x1.toInt + 1).toNat) → (∀ L, rp (v 0) (f 0) (f 1) L → rp (v20 2) (f20 5) (f20 6) (si L 0 x1.toInt ++ (st_l (si L x1.toInt (x2.toInt + 1)) z3_23.toInt.toNat ++ (si L x1.toInt z4_32.toInt).filter (fun p => decide (p.1.toInt = z3_23.toInt))))) → (v20 6).toInt = (v 6).toInt → 200 - z4_32.toInt < (n : Int) → J 32 [some (.ref h), some (.int x1), some (.int x2), some (.int z3_23), some (.int z4_32)] [] (md A0 g h q v20 f20) 0 0 := by
            intro n
            induction n with
            | zero =>
              intro z4_32 v20 f20 hv20 hf20 hw20 hr20_0 hr20_1 j0_32 j1_32 j2_32 j3_32 j4_32 j5_32
              omega
            | succ n ih22 =>
              intro z4_32 v20 f20 hv20 hf20 hw20 hr20_0 hr20_1 j0_32 j1_32 j2_32 j3_32 j4_32 j5_32
              have lr0 := hr20_0
              have lr1 := hr20_1
              refine hC.1 3 32 _ _ rfl _ _ _ _ _ ?_
              have hu23 := hv20
              unfold md_V at hu23
              refine And.intro (fun c24 => ?_) (fun c24 => ?_)
              · skip
                refine hC.1 5 67 _ _ rfl _ _ _ _ _ ?_
                intro m25 em_67
                try have e25 : m25.toInt = (z3_23).toInt + (1) := by rw [em_67]; exact pm_addc _ _ (1) rfl (by omega) (by omega)
                exact hC.2 [false, false, false, false, true] _ _ _ _ _ _ (ih10 m25 v20 f20 hv20 hf20 hw20 hr20_0 hr20_1 (by omega) (by omega) (by rw [j2_32, show (z4_32.toInt - x1.toInt).toNat = (x2.toInt - x1.toInt + 1).toNat by omega, so_e, show m25.toInt = z3_23.toInt + 1 by omega]) (by intro L hL; have hl := hL.1; have t9 := j3_32 L hL; rw [show z4_32.toInt = x2.toInt + 1 by omega] at t9; rw [show m25.toInt.toNat = z3_23.toInt.toNat + 1 by omega]; show rp _ _ _ (_ ++ (st_l _ _ ++ List.filter (fun p => decide (p.1.toInt = ((z3_23.toInt.toNat : Nat) : Int))) _)); rw [show ((z3_23.toInt.toNat : Nat) : Int) = z3_23.toInt by omega]; exact t9) (by omega) (by omega))
              · skip
                refine Exists.intro _ (And.intro md_o ?_)
                refine Exists.intro _ (Exists.intro _ (And.intro (Or.inl (md_a_colours D)) (And.intro (by omega) ?_)))
                have w26 : (0 : Int) ≤ (f20 0 (z4_32).toInt.toNat).toInt ∧ (f20 0 (z4_32).toInt.toNat).toInt ≤ (23 : Int) := hf20 0 _
                refine And.intro (fun c27 => ?_) (fun c27 => ?_)
                · skip
                  have dc27 := pm_neI c27
                  refine hC.1 4 61 _ _ rfl _ _ _ _ _ ?_
                  intro m28 em_61
                  try have e28 : m28.toInt = (z4_32).toInt + (1) := by rw [em_61]; exact pm_addc _ _ (1) rfl (by omega) (by omega)
                  exact ih22 m28 v20 f20 hv20 hf20 hw20 hr20_0 hr20_1 (by omega) (by omega) (by first | (rw [show (m28.toInt - x1.toInt).toNat = (z4_32.toInt - x1.toInt).toNat + 1 by omega, so9.2]; omega) | (rw [show (m28.toInt - x1.toInt).toNat = (z4_32.toInt - x1.toInt).toNat + 1 by omega, so_n (by rw [show x1.toInt.toNat + (z4_32.toInt - x1.toInt).toNat = z4_32.toInt.toNat by omega, ← hr20_0]; assumption)]; exact j2_32)) (by first | (intro L hL; have hl := hL.1; rw [show m28.toInt = z4_32.toInt + 1 by omega, si_s hL (a := x1.toInt) (z := z4_32.toInt) (by omega) (by omega) (by omega), fl_y (by rw [hc49]), ← List.append_assoc, ← List.append_assoc]; have h4 := hb9 _ (j3_32 L hL); rw [lr1, ← List.append_assoc] at h4; rw [hc49]; exact h4) | (intro L hL; have hl := hL.1; rw [show m28.toInt = z4_32.toInt + 1 by omega, si_s hL (a := x1.toInt) (z := z4_32.toInt) (by omega) (by omega) (by omega), fl_n (by rw [← lr0]; assumption)]; exact j3_32 L hL)) (by omega) (by omega)
                · skip
                  have dc27 : ((f20 0 (z4_32).toInt.toNat)).toInt = (z3_23 : Int32).toInt := congrArg Int32.toInt c27
                  have so9 := so_lt (c := f 0) (x := z3_23.toInt) (l := x1.toInt.toNat) (k := (z4_32.toInt - x1.toInt).toNat) (n := (x2.toInt - x1.toInt + 1).toNat) (by omega) (by rw [show x1.toInt.toNat + (z4_32.toInt - x1.toInt).toNat = z4_32.toInt.toNat by omega, ← hr20_0]; assumption)
                  have hc49 : f 0 z4_32.toInt.toNat = z3_23 := by rw [← hr20_0]; assumption
                  refine Exists.intro _ (And.intro md_o ?_)
                  refine Exists.intro _ (Exists.intro _ (And.intro (Or.inl (md_a_names D)) (And.intro (by omega) ?_)))
                  have hp_58 : ∀ L, rp (v 0) (f 0) (f 1) L → rp (v20 0) (f20 0) (f20 1) L := fun L h => rp_fr h (by omega) hr20_0 hr20_1
                  refine And.intro (Exists.intro _ md_o) (Exists.intro _ (Exists.intro _ (Exists.intro _ (Exists.intro _ (And.intro (F_X11_lays D v20 f20 hv20 hf20 z3_23 (f20 1 (z4_32).toInt.toNat) (by omega) (by omega)) (And.intro rfl (fun r9 A9 h9 => ?_)))))))
                  obtain ⟨v30, f30, rfl, rfl, hv30, hf30, hx30, hg30_0, hg30_1, by29⟩ := h9
                  have hw30 : f30 2 = f 2 := hx30.trans hw20
                  have hr30_0 : f30 0 = f 0 := hg30_0.trans hr20_0
                  have hr30_1 : f30 1 = f 1 := hg30_1.trans hr20_1
                  have hu31 := hv30
                  unfold md_V at hu31
                  have hb_58 := by29.2
                  have hb9 := by29.2
                  refine hC.1 4 61 _ _ rfl _ _ _ _ _ ?_
                  intro m32 em_61
                  try have e32 : m32.toInt = (z4_32).toInt + (1) := by rw [em_61]; exact pm_addc _ _ (1) rfl (by omega) (by omega)
                  exact ih22 m32 v30 f30 hv30 hf30 hw30 hr30_0 hr30_1 (by omega) (by omega) (by first | (rw [show (m32.toInt - x1.toInt).toNat = (z4_32.toInt - x1.toInt).toNat + 1 by omega, so9.2]; omega) | (rw [show (m32.toInt - x1.toInt).toNat = (z4_32.toInt - x1.toInt).toNat + 1 by omega, so_n (by rw [show x1.toInt.toNat + (z4_32.toInt - x1.toInt).toNat = z4_32.toInt.toNat by omega, ← hr30_0]; assumption)]; exact j2_32)) (by first | (intro L hL; have hl := hL.1; rw [show m32.toInt = z4_32.toInt + 1 by omega, si_s hL (a := x1.toInt) (z := z4_32.toInt) (by omega) (by omega) (by omega), fl_y (by rw [hc49]), ← List.append_assoc, ← List.append_assoc]; have h4 := hb9 _ (j3_32 L hL); rw [lr1, ← List.append_assoc] at h4; rw [hc49]; exact h4) | (intro L hL; have hl := hL.1; rw [show m32.toInt = z4_32.toInt + 1 by omega, si_s hL (a := x1.toInt) (z := z4_32.toInt) (by omega) (by omega) (by omega), fl_n (by rw [← lr0]; assumption)]; exact j3_32 L hL)) (by omega) (by omega)
          exact lp21 (200 - x1.toInt).toNat.succ x1 v8 f8 hv8 hf8 hw8 hr8_0 hr8_1 (by omega) (by omega) (by rw [j2_23, show (x1.toInt - x1.toInt).toNat = 0 by omega, so_0]) (by intro L hL; have hl := hL.1; rw [si_n (L := L) (a := x1.toInt) (b := x1.toInt) (Int.le_refl _)]; show rp _ _ _ (_ ++ (_ ++ [])); rw [List.append_nil]; exact j3_23 L hL) (by omega) (by omega)
    exact lp9 (200 - (0 : Int32).toInt).toNat.succ (0 : Int32) v6 f6 hv6 hf6 hw6 hr6_0 hr6_1 (by omega) (by omega) (by have h9 : ctLt (f 0) (0 : Int32).toInt x1.toInt.toNat (x2.toInt - x1.toInt + 1).toNat = 0 := ctLt_0 _ _ (fun j => (hf 0 j).1) _; rw [h9]; omega) (by intro L hL; have hl := hL.1; have t1 := hb_18 L [] 0 x1.toInt (hp_18 L hL) rfl rfl (by omega) (by omega) (rp_0 (by omega)); rw [List.nil_append] at t1; show rp _ _ _ (si L 0 x1.toInt ++ []); rw [List.append_nil]; exact t1) (by omega) (by omega)
  · skip
    have k0 : (0 : Int32).toInt = 0 := rfl
    refine And.intro (fun c9 => absurd c9 (by decide)) (fun _ => ?_)
    have km1 : (-1 : Int32).toInt = -1 := rfl
    exact ⟨rfl, fun e9 => absurd e9 (by decide), rfl, (-1 : Int32), v, f, rfl, rfl, hv, hf, rfl, by first | trivial | omega | (dsimp only; omega), by intro L hL; have hl := hL.1; rw [ed_sort, if_neg (by omega)]; exact ⟨hL, by show _ = _ + (0 : Int); omega, by show _ = _ + (0 : Int) * _; omega⟩⟩

end
