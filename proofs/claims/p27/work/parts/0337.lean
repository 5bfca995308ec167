section
variable {l : Launch} {g : pm_G} {A0 : pm_H} {h : Nat} {q : Nat → Nat}
set_option maxRecDepth 100000 in
set_option maxHeartbeats 2000000 in
theorem F_X11_shift (D : md_D h q) (v : Nat → Int32) (f : Nat → Nat → Int32) (hv : md_V v) (hf : md_F f) (x1 : Int32) (x2 : Int32) (x3 : Int32) (p0 : (v 4).toInt < 100000) : pm_Mt l g 189 4 0 0 [.ref h, .int x1, .int x2, .int x3] (md A0 g h q v f) (md_Qw A0 g h q f (fun r v2 f2 => ((v2 6).toInt = (v 6).toInt ∧ (v2 4).toInt ≤ (v 4).toInt + 1 ∧ (v 4).toInt ≤ (v2 4).toInt) ∧ (∀ L, rp (v 0) (f 0) (f 1) L → rp (v2 0) (f2 0) (f2 1) ((ed_shift L x1 x2 x3).getD L) ∧ (v2 4).toInt = (v 4).toInt + edn (ed_shift L x1 x2 x3) ∧ (v2 3).toInt = (v 3).toInt + edn (ed_shift L x1 x2 x3) * (0)))) := by
  refine mt_X11_shift rfl (fun J hC => ?_)
  have hv9 := hv
  unfold md_V at hv9
  have rg_x1 := pm_rng x1
  have rg_x2 := pm_rng x2
  have rg_x3 := pm_rng x3
  refine hC.1 0 0 _ _ rfl _ _ _ _ _ ?_
  have hp_3 : ∀ L, rp (v 0) (f 0) (f 1) L → rp (v 0) (f 0) (f 1) L := fun L h => rp_fr h (by omega) rfl rfl
  refine And.intro (Exists.intro _ md_o) (Exists.intro _ (Exists.intro _ (Exists.intro _ (Exists.intro _ (And.intro (c_X11_isSpan D v f hv hf x1 x2 ) (And.intro rfl (fun r9 A9 h9 => ?_)))))))
  rcases h9 with ⟨y1, rfl, rfl, ⟨rfl, by1⟩ | ⟨rfl, by1⟩⟩
  · skip
    have k1 : (1 : Int32).toInt = 1 := rfl
    refine And.intro (fun c9 => absurd c9 (by decide)) (fun _ => ?_)
    have k0 : (0 : Int32).toInt = 0 := rfl
    intro m2 em_13
    try have e2 : m2.toInt = (x2).toInt - (x1).toInt := by rw [em_13]; exact pm_sub _ _ (by omega) (by omega)
    intro m3 em_15
    try have e3 : m3.toInt = (m2).toInt + (1) := by rw [em_15]; exact pm_addc _ _ (1) rfl (by omega) (by omega)
    refine Exists.intro _ (Exists.intro _ (Exists.intro _ (Exists.intro _ (And.intro (c_X11_isIn (md A0 g h q v f) x3 (0 : Int32) m3 ) (And.intro rfl (fun r9 A9 h9 => ?_))))))
    rcases h9 with ⟨y4, rfl, rfl, ⟨rfl, by4⟩ | ⟨rfl, by4⟩⟩
    · skip
      refine And.intro (fun _ => ?_) (fun c9 => absurd c9 (by decide))
      refine hC.1 2 24 _ _ rfl _ _ _ _ _ ?_
      have hp_25 : ∀ L, rp (v 0) (f 0) (f 1) L → rp (v 0) (f 0) (f 1) L := fun L h => rp_fr h (by omega) rfl rfl
      refine And.intro (Exists.intro _ md_o) (Exists.intro _ (Exists.intro _ (Exists.intro _ (Exists.intro _ (And.intro (F_X11_begins D v f hv hf  ) (And.intro rfl (fun r9 A9 h9 => ?_)))))))
      obtain ⟨v6, f6, rfl, rfl, hv6, hf6, hx6, hg6_0, hg6_1, by5⟩ := h9
      have hw6 : f6 2 = f 2 := hx6.trans rfl
      have hr6_0 : f6 0 = f 0 := hg6_0.trans rfl
      have hr6_1 : f6 1 = f 1 := hg6_1.trans rfl
      have hu7 := hv6
      unfold md_V at hu7
      have sq6 : (v6 0).toInt = (v 0).toInt ∧ (v6 3).toInt = (v 3).toInt ∧ (v6 4).toInt = (v 4).toInt ∧ (v6 6).toInt = (v 6).toInt := by omega
      have sp6 := by5.2.2.2.2
      clear by5
      have hp_31 : ∀ L, rp (v 0) (f 0) (f 1) L → rp (v6 0) (f6 0) (f6 1) L := fun L h => rp_fr h (by omega) hr6_0 hr6_1
      refine And.intro (Exists.intro _ md_o) (Exists.intro _ (Exists.intro _ (Exists.intro _ (Exists.intro _ (And.intro (F_X11_laysFrom D v6 f6 hv6 hf6 (0 : Int32) x1 (by omega) (by omega) (by omega) (by omega)) (And.intro rfl (fun r9 A9 h9 => ?_)))))))
      obtain ⟨v9, f9, rfl, rfl, hv9, hf9, hx9, hg9_0, hg9_1, by8⟩ := h9
      have hw9 : f9 2 = f 2 := hx9.trans hw6
      have hr9_0 : f9 0 = f 0 := hg9_0.trans hr6_0
      have hr9_1 : f9 1 = f 1 := hg9_1.trans hr6_1
      have hu10 := hv9
      unfold md_V at hu10
      clear hu7
      have hb_31 := by8.2
      have sq9 : (v9 0).toInt = (v 0).toInt ∧ (v9 1).toInt = (v6 1).toInt ∧ (v9 3).toInt = (v 3).toInt ∧ (v9 4).toInt = (v 4).toInt ∧ (v9 6).toInt = (v 6).toInt := by omega
      have sp9 := by8.1.2.2.2.2.2
      clear by8
      intro m11 em_37
      try have e11 : m11.toInt = (x1).toInt + (x3).toInt := by rw [em_37]; exact pm_add _ _ (by omega) (by omega)
      intro m12 em_40
      try have e12 : m12.toInt = (x2).toInt + (1) := by rw [em_40]; exact pm_addc _ _ (1) rfl (by omega) (by omega)
      have hp_41 : ∀ L, rp (v 0) (f 0) (f 1) L → rp (v9 0) (f9 0) (f9 1) L := fun L h => rp_fr h (by omega) hr9_0 hr9_1
      refine And.intro (Exists.intro _ md_o) (Exists.intro _ (Exists.intro _ (Exists.intro _ (Exists.intro _ (And.intro (F_X11_laysFrom D v9 f9 hv9 hf9 m11 m12 (by omega) (by omega) (by omega) (by omega)) (And.intro rfl (fun r9 A9 h9 => ?_)))))))
      obtain ⟨v14, f14, rfl, rfl, hv14, hf14, hx14, hg14_0, hg14_1, by13⟩ := h9
      have hw14 : f14 2 = f 2 := hx14.trans hw9
      have hr14_0 : f14 0 = f 0 := hg14_0.trans hr9_0
      have hr14_1 : f14 1 = f 1 := hg14_1.trans hr9_1
      have hu15 := hv14
      unfold md_V at hu15
      clear hu10
      have hb_41 := by13.2
      have sq14 : (v14 0).toInt = (v 0).toInt ∧ (v14 1).toInt = (v6 1).toInt ∧ (v14 3).toInt = (v 3).toInt ∧ (v14 4).toInt = (v 4).toInt ∧ (v14 6).toInt = (v 6).toInt := by omega
      have sp14 := by13.1.2.2.2.2.2
      clear by13
      intro m16 em_48
      try have e16 : m16.toInt = (x1).toInt + (x3).toInt := by rw [em_48]; exact pm_add _ _ (by omega) (by omega)
      have hp_49 : ∀ L, rp (v 0) (f 0) (f 1) L → rp (v14 0) (f14 0) (f14 1) L := fun L h => rp_fr h (by omega) hr14_0 hr14_1
      refine And.intro (Exists.intro _ md_o) (Exists.intro _ (Exists.intro _ (Exists.intro _ (Exists.intro _ (And.intro (F_X11_laysFrom D v14 f14 hv14 hf14 x1 m16 (by omega) (by omega) (by omega) (by omega)) (And.intro rfl (fun r9 A9 h9 => ?_)))))))
      obtain ⟨v18, f18, rfl, rfl, hv18, hf18, hx18, hg18_0, hg18_1, by17⟩ := h9
      have hw18 : f18 2 = f 2 := hx18.trans hw14
      have hr18_0 : f18 0 = f 0 := hg18_0.trans hr14_0
      have hr18_1 : f18 1 = f 1 := hg18_1.trans hr14_1
      have hu19 := hv18
      unfold md_V at hu19
      clear hu15
      have hb_49 := by17.2
      have sq18 : (v18 0).toInt = (v 0).toInt ∧ (v18 1).toInt = (v6 1).toInt ∧ (v18 3).toInt = (v 3).toInt ∧ (v18 4).toInt = (v 4).toInt ∧ (v18 6).toInt = (v 6).toInt := by omega
      have sp18 := by17.1.2.2.2.2.2
      clear by17
      intro m20 em_55
      try have e20 : m20.toInt = (x2).toInt + (1) := by rw [em_55]; exact pm_addc _ _ (1) rfl (by omega) (by omega)
      refine Exists.intro _ (And.intro md_o ?_)
      have hp_60 : ∀ L, rp (v 0) (f 0) (f 1) L → rp (v18 0) (f18 0) (f18 1) L := fun L h => rp_fr h (by omega) hr18_0 hr18_1
      refine And.intro (Exists.intro _ md_o) (Exists.intro _ (Exists.intro _ (Exists.intro _ (Exists.intro _ (And.intro (F_X11_laysFrom D v18 f18 hv18 hf18 m20 (v18 0) (by omega) (by omega) (by omega) (by omega)) (And.intro rfl (fun r9 A9 h9 => ?_)))))))
      obtain ⟨v22, f22, rfl, rfl, hv22, hf22, hx22, hg22_0, hg22_1, by21⟩ := h9
      have hw22 : f22 2 = f 2 := hx22.trans hw18
      have hr22_0 : f22 0 = f 0 := hg22_0.trans hr18_0
      have hr22_1 : f22 1 = f 1 := hg22_1.trans hr18_1
      have hu23 := hv22
      unfold md_V at hu23
      clear hu19
      have hb_60 := by21.2
      have sq22 : (v22 0).toInt = (v 0).toInt ∧ (v22 1).toInt = (v6 1).toInt ∧ (v22 3).toInt = (v 3).toInt ∧ (v22 4).toInt = (v 4).toInt ∧ (v22 6).toInt = (v 6).toInt := by omega
      have sp22 := by21.1.2.2.2.2.2
      clear by21
      have hp_64 : ∀ L, rp (v 0) (f 0) (f 1) L → rp (v22 0) (f22 0) (f22 1) L := fun L h => rp_fr h (by omega) hr22_0 hr22_1
      refine And.intro (Exists.intro _ md_o) (Exists.intro _ (Exists.intro _ (Exists.intro _ (Exists.intro _ (And.intro (F_X11_ends D v22 f22 hv22 hf22  (by omega)) (And.intro rfl (fun r9 A9 h9 => ?_)))))))
      obtain ⟨y24, v25, f25, rfl, rfl, hv25, hf25, hx25, by24⟩ := h9
      have hw25 : f25 2 = f 2 := hx25.trans hw22
      have hu26 := hv25
      unfold md_V at hu26
      clear hu23
      have hb_64 := by24.2
      have sq25 : (v25 1).toInt = (v6 1).toInt ∧ (v25 2).toInt = (v22 2).toInt ∧ (v25 3).toInt = (v 3).toInt ∧ (v25 6).toInt = (v 6).toInt := by omega
      have sp25 := by24.1.2.2.2.2
      clear by24
      exact ⟨rfl, fun e9 => absurd e9 (by decide), rfl, y24, v25, f25, rfl, rfl, hv25, hf25, hw25, by first | omega | (dsimp only; omega) | trivial, by intro L hL; have hl := hL.1; rw [ed_shift, if_pos (by omega)]; have t1 := hb_31 L [] (0) (x1.toInt) (hp_31 L hL) (by omega) (by omega) (by omega) (by omega) (rp_0 (by omega)); have t2 := hb_41 L _ (x1.toInt + x3.toInt) (x2.toInt + 1) (hp_41 L hL) (by omega) (by omega) (by omega) (by omega) t1; have t3 := hb_49 L _ (x1.toInt) (x1.toInt + x3.toInt) (hp_49 L hL) (by omega) (by omega) (by omega) (by omega) t2; have t4 := hb_60 L _ (x2.toInt + 1) (L.length) (hp_60 L hL) (by omega) (by omega) (by omega) (by omega) t3; rw [List.nil_append] at t4; exact ⟨hb_64 _ t4, by show _ = _ + (1 : Int); omega, by show _ = _ + (1 : Int) * _; omega⟩⟩
    · skip
      refine And.intro (fun c9 => absurd c9 (by decide)) (fun _ => ?_)
      refine hC.1 1 22 _ _ rfl _ _ _ _ _ ?_
      have km1 : (-1 : Int32).toInt = -1 := rfl
      exact ⟨rfl, fun e9 => absurd e9 (by decide), rfl, (-1 : Int32), v, f, rfl, rfl, hv, hf, rfl, by first | omega | (dsimp only; omega) | trivial, by intro L hL; have hl := hL.1; rw [ed_shift, if_neg (by omega)]; exact ⟨hL, by show _ = _ + (0 : Int); omega, by show _ = _ + (0 : Int) * _; omega⟩⟩
  · skip
    have k0 : (0 : Int32).toInt = 0 := rfl
    refine And.intro (fun _ => ?_) (fun c9 => absurd c9 (by decide))
    refine hC.1 1 22 _ _ rfl _ _ _ _ _ ?_
    have km1 : (-1 : Int32).toInt = -1 := rfl
    exact ⟨rfl, fun e9 => absurd e9 (by decide), rfl, (-1 : Int32), v, f, rfl, rfl, hv, hf, rfl, by first | omega | (dsimp only; omega) | trivial, by intro L hL; have hl := hL.1; rw [ed_shift, if_neg (by omega)]; exact ⟨hL, by show _ = _ + (0 : Int); omega, by show _ = _ + (0 : Int) * _; omega⟩⟩

end
