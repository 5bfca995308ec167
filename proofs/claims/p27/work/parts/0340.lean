section
variable {l : Launch} {g : pm_G} {A0 : pm_H} {h : Nat} {q : Nat → Nat}
set_option maxRecDepth 100000 in
set_option maxHeartbeats 2000000 in
theorem F_X11_copy (D : md_D h q) (v : Nat → Int32) (f : Nat → Nat → Int32) (hv : md_V v) (hf : md_F f) (x1 : Int32) (x2 : Int32) (x3 : Int32) (p0 : (v 4).toInt < 100000) : pm_Mt l g 192 4 0 0 [.ref h, .int x1, .int x2, .int x3] (md A0 g h q v f) (md_Qw A0 g h q f (fun r v2 f2 => ((v2 6).toInt = (v 6).toInt ∧ (v2 4).toInt ≤ (v 4).toInt + 1 ∧ (v 4).toInt ≤ (v2 4).toInt) ∧ (∀ L, rp (v 0) (f 0) (f 1) L → rp (v2 0) (f2 0) (f2 1) ((ed_copy L (v 3) x1 x2 x3).getD L) ∧ (v2 4).toInt = (v 4).toInt + edn (ed_copy L (v 3) x1 x2 x3) ∧ (v2 3).toInt = (v 3).toInt + edn (ed_copy L (v 3) x1 x2 x3) * (x2.toInt - x1.toInt + 1)))) := by
  refine mt_X11_copy rfl (fun J hC => ?_)
  have hv9 := hv
  unfold md_V at hv9
  have rg_x1 := pm_rng x1
  have rg_x2 := pm_rng x2
  have rg_x3 := pm_rng x3
  refine hC.1 0 0 _ _ rfl _ _ _ _ _ ?_
  have hp_3 : ∀ L, rp (v 0) (f 0) (f 1) L → rp (v 0) (f 0) (f 1) L := fun L h => rp_fr h (by omega) rfl rfl
  refine And.intro (Exists.intro _ md_o) (Exists.intro _ (Exists.intro _ (Exists.intro _ (Exists.intro _ (And.intro (c_X11_isSpan D v f hv hf x1 x2 ) (And.intro rfl (fun r9 A9 h9 => ?_)))))))
  rcases h9 with ⟨y1, rfl, rfl, ⟨rfl, by1⟩ | ⟨rfl, by1⟩⟩
  · skip
    have k1 : (1 : Int32).toInt = 1 := rfl
    refine And.intro (fun c9 => absurd c9 (by decide)) (fun _ => ?_)
    have k0 : (0 : Int32).toInt = 0 := rfl
    refine Exists.intro _ (And.intro md_o ?_)
    refine Exists.intro _ (Exists.intro _ (Exists.intro _ (Exists.intro _ (And.intro (c_X11_isIn (md A0 g h q v f) x3 (0 : Int32) (v 0) ) (And.intro rfl (fun r9 A9 h9 => ?_))))))
    rcases h9 with ⟨y2, rfl, rfl, ⟨rfl, by2⟩ | ⟨rfl, by2⟩⟩
    · skip
      refine And.intro (fun c9 => absurd c9 (by decide)) (fun _ => ?_)
      intro m3 em_24
      try have e3 : m3.toInt = (x2).toInt - (x1).toInt := by rw [em_24]; exact pm_sub _ _ (by omega) (by omega)
      intro m4 em_26
      try have e4 : m4.toInt = (m3).toInt + (1) := by rw [em_26]; exact pm_addc _ _ (1) rfl (by omega) (by omega)
      have hp_27 : ∀ L, rp (v 0) (f 0) (f 1) L → rp (v 0) (f 0) (f 1) L := fun L h => rp_fr h (by omega) rfl rfl
      refine And.intro (Exists.intro _ md_o) (Exists.intro _ (Exists.intro _ (Exists.intro _ (Exists.intro _ (And.intro (c_X11_hasRoom D v f hv hf m4 (by omega)) (And.intro rfl (fun r9 A9 h9 => ?_)))))))
      rcases h9 with ⟨y5, rfl, rfl, ⟨rfl, by5⟩ | ⟨rfl, by5⟩⟩
      · skip
        refine And.intro (fun _ => ?_) (fun c9 => absurd c9 (by decide))
        refine hC.1 2 35 _ _ rfl _ _ _ _ _ ?_
        have hp_36 : ∀ L, rp (v 0) (f 0) (f 1) L → rp (v 0) (f 0) (f 1) L := fun L h => rp_fr h (by omega) rfl rfl
        refine And.intro (Exists.intro _ md_o) (Exists.intro _ (Exists.intro _ (Exists.intro _ (Exists.intro _ (And.intro (F_X11_begins D v f hv hf  ) (And.intro rfl (fun r9 A9 h9 => ?_)))))))
        obtain ⟨v7, f7, rfl, rfl, hv7, hf7, hx7, hg7_0, hg7_1, by6⟩ := h9
        have hw7 : f7 2 = f 2 := hx7.trans rfl
        have hr7_0 : f7 0 = f 0 := hg7_0.trans rfl
        have hr7_1 : f7 1 = f 1 := hg7_1.trans rfl
        have hu8 := hv7
        unfold md_V at hu8
        have sq7 : (v7 0).toInt = (v 0).toInt ∧ (v7 3).toInt = (v 3).toInt ∧ (v7 4).toInt = (v 4).toInt ∧ (v7 6).toInt = (v 6).toInt := by omega
        have sp7 := by6.2.2.2.2
        clear by6
        have hp_42 : ∀ L, rp (v 0) (f 0) (f 1) L → rp (v7 0) (f7 0) (f7 1) L := fun L h => rp_fr h (by omega) hr7_0 hr7_1
        refine And.intro (Exists.intro _ md_o) (Exists.intro _ (Exists.intro _ (Exists.intro _ (Exists.intro _ (And.intro (F_X11_laysFrom D v7 f7 hv7 hf7 (0 : Int32) x3 (by omega) (by omega) (by omega) (by omega)) (And.intro rfl (fun r9 A9 h9 => ?_)))))))
        obtain ⟨v10, f10, rfl, rfl, hv10, hf10, hx10, hg10_0, hg10_1, by9⟩ := h9
        have hw10 : f10 2 = f 2 := hx10.trans hw7
        have hr10_0 : f10 0 = f 0 := hg10_0.trans hr7_0
        have hr10_1 : f10 1 = f 1 := hg10_1.trans hr7_1
        have hu11 := hv10
        unfold md_V at hu11
        clear hu8
        have hb_42 := by9.2
        have sq10 : (v10 0).toInt = (v 0).toInt ∧ (v10 1).toInt = (v7 1).toInt ∧ (v10 3).toInt = (v 3).toInt ∧ (v10 4).toInt = (v 4).toInt ∧ (v10 6).toInt = (v 6).toInt := by omega
        have sp10 := by9.1.2.2.2.2.2
        clear by9
        have lp13 : ∀ (n : Nat) (z4_48 : Int32) (v12 : Nat → Int32) (f12 : Nat → Nat → Int32), md_V v12 → md_F f12 → f12 2 = f 2 → f12 0 = f 0 → f12 1 = f 1 → (x1.toInt ≤ z4_48.toInt ∧ z4_48.toInt ≤ x2.toInt + 1) → ((v12 0).toInt = (v 0).toInt ∧ (v12 4).toInt = (v 4).toInt ∧ (v12 2).toInt = x3.toInt + (z4_48.toInt - x1.toInt) ∧ (v12 3).toInt = (v 3).toInt + (z4_48.toInt - x1.toInt)) → (∀ L, rp (v 0) (f 0) (f 1) L → rp (v12 2) (f12 5) (f12 6) (si L 0 x3.toInt ++ nw_l (v 3) ((si L x1.toInt z4_48.toInt).map Prod.fst))) → (v12 6).toInt = (v 6).toInt → 200 - z4_48.toInt < (n : Int) → J 48 [some (.ref h), some (.int x1), some (.int x2), some (.int x3), some (.int z4_48)] [] (md A0 g h q v12 f12) 0 0 := by
          intro n
          induction n with
          | zero =>
            intro z4_48 v12 f12 hv12 hf12 hw12 hr12_0 hr12_1 j0_48 j1_48 j2_48 j3_48 j4_48
            omega
          | succ n ih14 =>
            intro z4_48 v12 f12 hv12 hf12 hw12 hr12_0 hr12_1 j0_48 j1_48 j2_48 j3_48 j4_48
            have lr0 := hr12_0
            have lr1 := hr12_1
            have lv3 : ∃ z9, z9 = v12 3 := ⟨_, rfl⟩
            obtain ⟨g48, eg48⟩ := lv3
            refine hC.1 3 48 _ _ rfl _ _ _ _ _ ?_
            have hu15 := hv12
            unfold md_V at hu15
            refine And.intro (fun c16 => ?_) (fun c16 => ?_)
            · skip
              refine hC.1 4 71 _ _ rfl _ _ _ _ _ ?_
              refine Exists.intro _ (And.intro md_o ?_)
              have hp_77 : ∀ L, rp (v 0) (f 0) (f 1) L → rp (v12 0) (f12 0) (f12 1) L := fun L h => rp_fr h (by omega) hr12_0 hr12_1
              refine And.intro (Exists.intro _ md_o) (Exists.intro _ (Exists.intro _ (Exists.intro _ (Exists.intro _ (And.intro (F_X11_laysFrom D v12 f12 hv12 hf12 x3 (v12 0) (by omega) (by omega) (by omega) (by omega)) (And.intro rfl (fun r9 A9 h9 => ?_)))))))
              obtain ⟨v18, f18, rfl, rfl, hv18, hf18, hx18, hg18_0, hg18_1, by17⟩ := h9
              have hw18 : f18 2 = f 2 := hx18.trans hw12
              have hr18_0 : f18 0 = f 0 := hg18_0.trans hr12_0
              have hr18_1 : f18 1 = f 1 := hg18_1.trans hr12_1
              have hu19 := hv18
              unfold md_V at hu19
              clear hu15
              have hb_77 := by17.2
              have sq18 : (v18 0).toInt = (v12 0).toInt ∧ (v18 1).toInt = (v12 1).toInt ∧ (v18 3).toInt = (v12 3).toInt ∧ (v18 4).toInt = (v12 4).toInt ∧ (v18 6).toInt = (v12 6).toInt := by omega
              have sp18 := by17.1.2.2.2.2.2
              clear by17
              have hp_81 : ∀ L, rp (v 0) (f 0) (f 1) L → rp (v18 0) (f18 0) (f18 1) L := fun L h => rp_fr h (by omega) hr18_0 hr18_1
              refine And.intro (Exists.intro _ md_o) (Exists.intro _ (Exists.intro _ (Exists.intro _ (Exists.intro _ (And.intro (F_X11_ends D v18 f18 hv18 hf18  (by omega)) (And.intro rfl (fun r9 A9 h9 => ?_)))))))
              obtain ⟨y20, v21, f21, rfl, rfl, hv21, hf21, hx21, by20⟩ := h9
              have hw21 : f21 2 = f 2 := hx21.trans hw18
              have hu22 := hv21
              unfold md_V at hu22
              clear hu19
              have hb_81 := by20.2
              have sq21 : (v21 1).toInt = (v12 1).toInt ∧ (v21 2).toInt = (v18 2).toInt ∧ (v21 3).toInt = (v12 3).toInt ∧ (v21 6).toInt = (v12 6).toInt := by omega
              have sp21 := by20.1.2.2.2.2
              clear by20
              exact ⟨rfl, fun e9 => absurd e9 (by decide), rfl, y20, v21, f21, rfl, rfl, hv21, hf21, hw21, by first | omega | (dsimp only; omega) | trivial, by intro L hL; have hl := hL.1; rw [ed_copy, if_pos (by omega)]; have t2 := j2_48 L hL; rw [show z4_48.toInt = x2.toInt + 1 by omega] at t2; have t3 := hb_77 L _ (x3.toInt) L.length (hp_77 L hL) (by omega) (by omega) (by omega) (by omega) t2; exact ⟨hb_81 _ t3, by show _ = _ + (1 : Int); omega, by show _ = _ + (1 : Int) * _; omega⟩⟩
            · skip
              refine Exists.intro _ (And.intro md_o ?_)
              refine Exists.intro _ (Exists.intro _ (And.intro (Or.inl (md_a_colours D)) (And.intro (by omega) ?_)))
              have w23 : (0 : Int) ≤ (f12 0 (z4_48).toInt.toNat).toInt ∧ (f12 0 (z4_48).toInt.toNat).toInt ≤ (23 : Int) := hf12 0 _
              have hp_62 : ∀ L, rp (v 0) (f 0) (f 1) L → rp (v12 0) (f12 0) (f12 1) L := fun L h => rp_fr h (by omega) hr12_0 hr12_1
              refine And.intro (Exists.intro _ md_o) (Exists.intro _ (Exists.intro _ (Exists.intro _ (Exists.intro _ (And.intro (F_X11_laysNew D v12 f12 hv12 hf12 (f12 0 (z4_48).toInt.toNat) (by omega) (by omega) (by omega)) (And.intro rfl (fun r9 A9 h9 => ?_)))))))
              obtain ⟨v25, f25, rfl, rfl, hv25, hf25, hx25, hg25_0, hg25_1, by24⟩ := h9
              have hw25 : f25 2 = f 2 := hx25.trans hw12
              have hr25_0 : f25 0 = f 0 := hg25_0.trans hr12_0
              have hr25_1 : f25 1 = f 1 := hg25_1.trans hr12_1
              have hu26 := hv25
              unfold md_V at hu26
              clear hu15
              have hb_62 := by24.2
              have sq25 : (v25 0).toInt = (v12 0).toInt ∧ (v25 1).toInt = (v12 1).toInt ∧ (v25 4).toInt = (v12 4).toInt ∧ (v25 6).toInt = (v12 6).toInt := by omega
              have sp25 := by24.1.2.2.2.2
              have hb9 := by24.2
              clear by24
              intro m27 em_65
              try have e27 : m27.toInt = (z4_48).toInt + (1) := by rw [em_65]; exact pm_addc _ _ (1) rfl (by omega) (by omega)
              exact ih14 m27 v25 f25 hv25 hf25 hw25 hr25_0 hr25_1 (by omega) (by omega) (by intro L hL; have hl := hL.1; rw [show m27.toInt = z4_48.toInt + 1 by omega, si_s hL (a := x1.toInt) (z := z4_48.toInt) (by omega) (by omega) (by omega), List.map_append, List.map_cons, List.map_nil]; have hk := si_len (L := L) (a := x1.toInt) (b := z4_48.toInt) (by omega) (by omega) (by omega); rw [nw_app (g2 := g48) (by rw [eg48, List.length_map]; omega) (by rw [List.length_map]; omega), ← List.append_assoc]; have h4 := hb9 _ g48 (by rw [eg48]) (j2_48 L hL); rw [lr0] at h4; exact h4) (by omega) (by omega)
        exact lp13 (200 - x1.toInt).toNat.succ x1 v10 f10 hv10 hf10 hw10 hr10_0 hr10_1 (by omega) (by omega) (by intro L hL; have hl := hL.1; rw [si_n (Int.le_refl _)]; have t1 := hb_42 L [] 0 x3.toInt (hp_42 L hL) rfl rfl (by omega) (by omega) (rp_0 (by omega)); rw [List.nil_append] at t1; show rp _ _ _ (si L 0 x3.toInt ++ []); rw [List.append_nil]; exact t1) (by omega) (by omega)
      · skip
        refine And.intro (fun c9 => absurd c9 (by decide)) (fun _ => ?_)
        refine hC.1 1 33 _ _ rfl _ _ _ _ _ ?_
        have km1 : (-1 : Int32).toInt = -1 := rfl
        exact ⟨rfl, fun e9 => absurd e9 (by decide), rfl, (-1 : Int32), v, f, rfl, rfl, hv, hf, rfl, by first | omega | (dsimp only; omega) | trivial, by intro L hL; have hl := hL.1; rw [ed_copy, if_neg (by omega)]; exact ⟨hL, by show _ = _ + (0 : Int); omega, by show _ = _ + (0 : Int) * _; omega⟩⟩
    · skip
      refine And.intro (fun _ => ?_) (fun c9 => absurd c9 (by decide))
      refine hC.1 1 33 _ _ rfl _ _ _ _ _ ?_
      have km1 : (-1 : Int32).toInt = -1 := rfl
      exact ⟨rfl, fun e9 => absurd e9 (by decide), rfl, (-1 : Int32), v, f, rfl, rfl, hv, hf, rfl, by first | omega | (dsimp only; omega) | trivial, by intro L hL; have hl := hL.1; rw [ed_copy, if_neg (by omega)]; exact ⟨hL, by show _ = _ + (0 : Int); omega, by show _ = _ + (0 : Int) * _; omega⟩⟩
  · skip
    have k0 : (0 : Int32).toInt = 0 := rfl
    refine And.intro (fun _ => ?_) (fun c9 => absurd c9 (by decide))
    refine hC.1 1 33 _ _ rfl _ _ _ _ _ ?_
    have km1 : (-1 : Int32).toInt = -1 := rfl
    exact ⟨rfl, fun e9 => absurd e9 (by decide), rfl, (-1 : Int32), v, f, rfl, rfl, hv, hf, rfl, by first | omega | (dsimp only; omega) | trivial, by intro L hL; have hl := hL.1; rw [ed_copy, if_neg (by omega)]; exact ⟨hL, by show _ = _ + (0 : Int); omega, by show _ = _ + (0 : Int) * _; omega⟩⟩

end
