section
variable {l : Launch} {g : pm_G} {A0 : pm_H} {h : Nat} {q : Nat → Nat}
set_option maxRecDepth 100000 in
set_option maxHeartbeats 2000000 in
theorem F_X11_cut (D : md_D h q) (v : Nat → Int32) (f : Nat → Nat → Int32) (hv : md_V v) (hf : md_F f) (x1 : Int32) (x2 : Int32) (p0 : (v 4).toInt < 100000) : pm_Mt l g 187 4 0 0 [.ref h, .int x1, .int x2] (md A0 g h q v f) (md_Qw A0 g h q f (fun r v2 f2 => ((v2 6).toInt = (v 6).toInt ∧ (v2 4).toInt ≤ (v 4).toInt + 1 ∧ (v 4).toInt ≤ (v2 4).toInt) ∧ (∀ L, rp (v 0) (f 0) (f 1) L → rp (v2 0) (f2 0) (f2 1) ((ed_cut L x1 x2).getD L) ∧ (v2 4).toInt = (v 4).toInt + edn (ed_cut L x1 x2) ∧ (v2 3).toInt = (v 3).toInt + edn (ed_cut L x1 x2) * (0)))) := by
  refine mt_X11_cut rfl (fun J hC => ?_)
  have hv9 := hv
  unfold md_V at hv9
  have rg_x1 := pm_rng x1
  have rg_x2 := pm_rng x2
  refine hC.1 0 0 _ _ rfl _ _ _ _ _ ?_
  have hp_3 : ∀ L, rp (v 0) (f 0) (f 1) L → rp (v 0) (f 0) (f 1) L := fun L h => rp_fr h (by omega) rfl rfl
  refine And.intro (Exists.intro _ md_o) (Exists.intro _ (Exists.intro _ (Exists.intro _ (Exists.intro _ (And.intro (c_X11_isSpan D v f hv hf x1 x2 ) (And.intro rfl (fun r9 A9 h9 => ?_)))))))
  rcases h9 with ⟨y1, rfl, rfl, ⟨rfl, by1⟩ | ⟨rfl, by1⟩⟩
  · skip
    have k1 : (1 : Int32).toInt = 1 := rfl
    refine And.intro (fun _ => ?_) (fun c9 => absurd c9 (by decide))
    refine hC.1 1 11 _ _ rfl _ _ _ _ _ ?_
    have hp_12 : ∀ L, rp (v 0) (f 0) (f 1) L → rp (v 0) (f 0) (f 1) L := fun L h => rp_fr h (by omega) rfl rfl
    refine And.intro (Exists.intro _ md_o) (Exists.intro _ (Exists.intro _ (Exists.intro _ (Exists.intro _ (And.intro (F_X11_begins D v f hv hf  ) (And.intro rfl (fun r9 A9 h9 => ?_)))))))
    obtain ⟨v3, f3, rfl, rfl, hv3, hf3, hx3, hg3_0, hg3_1, by2⟩ := h9
    have hw3 : f3 2 = f 2 := hx3.trans rfl
    have hr3_0 : f3 0 = f 0 := hg3_0.trans rfl
    have hr3_1 : f3 1 = f 1 := hg3_1.trans rfl
    have hu4 := hv3
    unfold md_V at hu4
    have sq3 : (v3 0).toInt = (v 0).toInt ∧ (v3 3).toInt = (v 3).toInt ∧ (v3 4).toInt = (v 4).toInt ∧ (v3 6).toInt = (v 6).toInt := by omega
    have sp3 := by2.2.2.2.2
    clear by2
    have k0 : (0 : Int32).toInt = 0 := rfl
    have hp_18 : ∀ L, rp (v 0) (f 0) (f 1) L → rp (v3 0) (f3 0) (f3 1) L := fun L h => rp_fr h (by omega) hr3_0 hr3_1
    refine And.intro (Exists.intro _ md_o) (Exists.intro _ (Exists.intro _ (Exists.intro _ (Exists.intro _ (And.intro (F_X11_laysFrom D v3 f3 hv3 hf3 (0 : Int32) x1 (by omega) (by omega) (by omega) (by omega)) (And.intro rfl (fun r9 A9 h9 => ?_)))))))
    obtain ⟨v6, f6, rfl, rfl, hv6, hf6, hx6, hg6_0, hg6_1, by5⟩ := h9
    have hw6 : f6 2 = f 2 := hx6.trans hw3
    have hr6_0 : f6 0 = f 0 := hg6_0.trans hr3_0
    have hr6_1 : f6 1 = f 1 := hg6_1.trans hr3_1
    have hu7 := hv6
    unfold md_V at hu7
    clear hu4
    have hb_18 := by5.2
    have sq6 : (v6 0).toInt = (v 0).toInt ∧ (v6 1).toInt = (v3 1).toInt ∧ (v6 3).toInt = (v 3).toInt ∧ (v6 4).toInt = (v 4).toInt ∧ (v6 6).toInt = (v 6).toInt := by omega
    have sp6 := by5.1.2.2.2.2.2
    clear by5
    intro m8 em_24
    try have e8 : m8.toInt = (x2).toInt + (1) := by rw [em_24]; exact pm_addc _ _ (1) rfl (by omega) (by omega)
    refine Exists.intro _ (And.intro md_o ?_)
    have hp_29 : ∀ L, rp (v 0) (f 0) (f 1) L → rp (v6 0) (f6 0) (f6 1) L := fun L h => rp_fr h (by omega) hr6_0 hr6_1
    refine And.intro (Exists.intro _ md_o) (Exists.intro _ (Exists.intro _ (Exists.intro _ (Exists.intro _ (And.intro (F_X11_laysFrom D v6 f6 hv6 hf6 m8 (v6 0) (by omega) (by omega) (by omega) (by omega)) (And.intro rfl (fun r9 A9 h9 => ?_)))))))
    obtain ⟨v10, f10, rfl, rfl, hv10, hf10, hx10, hg10_0, hg10_1, by9⟩ := h9
    have hw10 : f10 2 = f 2 := hx10.trans hw6
    have hr10_0 : f10 0 = f 0 := hg10_0.trans hr6_0
    have hr10_1 : f10 1 = f 1 := hg10_1.trans hr6_1
    have hu11 := hv10
    unfold md_V at hu11
    clear hu7
    have hb_29 := by9.2
    have sq10 : (v10 0).toInt = (v 0).toInt ∧ (v10 1).toInt = (v3 1).toInt ∧ (v10 3).toInt = (v 3).toInt ∧ (v10 4).toInt = (v 4).toInt ∧ (v10 6).toInt = (v 6).toInt := by omega
    have sp10 := by9.1.2.2.2.2.2
    clear by9
    have hp_33 : ∀ L, rp (v 0) (f 0) (f 1) L → rp (v10 0) (f10 0) (f10 1) L := fun L h => rp_fr h (by omega) hr10_0 hr10_1
    refine And.intro (Exists.intro _ md_o) (Exists.intro _ (Exists.intro _ (Exists.intro _ (Exists.intro _ (And.intro (F_X11_ends D v10 f10 hv10 hf10  (by omega)) (And.intro rfl (fun r9 A9 h9 => ?_)))))))
    obtain ⟨y12, v13, f13, rfl, rfl, hv13, hf13, hx13, by12⟩ := h9
    have hw13 : f13 2 = f 2 := hx13.trans hw10
    have hu14 := hv13
    unfold md_V at hu14
    clear hu11
    have hb_33 := by12.2
    have sq13 : (v13 1).toInt = (v3 1).toInt ∧ (v13 2).toInt = (v10 2).toInt ∧ (v13 3).toInt = (v 3).toInt ∧ (v13 6).toInt = (v 6).toInt := by omega
    have sp13 := by12.1.2.2.2.2
    clear by12
    exact ⟨rfl, fun e9 => absurd e9 (by decide), rfl, y12, v13, f13, rfl, rfl, hv13, hf13, hw13, by first | omega | (dsimp only; omega) | trivial, by intro L hL; have hl := hL.1; rw [ed_cut, if_pos (by omega)]; have t1 := hb_18 L [] (0) (x1.toInt) (hp_18 L hL) (by omega) (by omega) (by omega) (by omega) (rp_0 (by omega)); have t2 := hb_29 L _ (x2.toInt + 1) (L.length) (hp_29 L hL) (by omega) (by omega) (by omega) (by omega) t1; rw [List.nil_append] at t2; exact ⟨hb_33 _ t2, by show _ = _ + (1 : Int); omega, by show _ = _ + (1 : Int) * _; omega⟩⟩
  · skip
    have k0 : (0 : Int32).toInt = 0 := rfl
    refine And.intro (fun c9 => absurd c9 (by decide)) (fun _ => ?_)
    have km1 : (-1 : Int32).toInt = -1 := rfl
    exact ⟨rfl, fun e9 => absurd e9 (by decide), rfl, (-1 : Int32), v, f, rfl, rfl, hv, hf, rfl, by first | omega | (dsimp only; omega) | trivial, by intro L hL; have hl := hL.1; rw [ed_cut, if_neg (by omega)]; exact ⟨hL, by show _ = _ + (0 : Int); omega, by show _ = _ + (0 : Int) * _; omega⟩⟩

end
