section
variable {l : Launch} {g : pm_G} {A0 : pm_H} {h : Nat} {q : Nat → Nat}
set_option maxRecDepth 100000 in
set_option maxHeartbeats 2000000 in
theorem F_X11_insert (D : md_D h q) (v : Nat → Int32) (f : Nat → Nat → Int32) (hv : md_V v) (hf : md_F f) (x1 : Int32) (x2 : Int32) (p0 : (v 4).toInt < 100000) : pm_Mt l g 183 4 0 0 [.ref h, .int x1, .int x2] (md A0 g h q v f) (md_Qw A0 g h q f (fun r v2 f2 => ((v2 6).toInt = (v 6).toInt ∧ (v2 4).toInt ≤ (v 4).toInt + 1 ∧ (v 4).toInt ≤ (v2 4).toInt) ∧ (∀ L, rp (v 0) (f 0) (f 1) L → rp (v2 0) (f2 0) (f2 1) ((ed_insert L (v 3) x1 x2).getD L) ∧ (v2 4).toInt = (v 4).toInt + edn (ed_insert L (v 3) x1 x2) ∧ (v2 3).toInt = (v 3).toInt + edn (ed_insert L (v 3) x1 x2) * (1)))) := by
  refine mt_X11_insert rfl (fun J hC => ?_)
  have hv9 := hv
  unfold md_V at hv9
  have rg_x1 := pm_rng x1
  have rg_x2 := pm_rng x2
  refine hC.1 0 0 _ _ rfl _ _ _ _ _ ?_
  have k0 : (0 : Int32).toInt = 0 := rfl
  refine Exists.intro _ (And.intro md_o ?_)
  refine Exists.intro _ (Exists.intro _ (Exists.intro _ (Exists.intro _ (And.intro (c_X11_isIn (md A0 g h q v f) x1 (0 : Int32) (v 0) ) (And.intro rfl (fun r9 A9 h9 => ?_))))))
  rcases h9 with ⟨y1, rfl, rfl, ⟨rfl, by1⟩ | ⟨rfl, by1⟩⟩
  · skip
    have k1 : (1 : Int32).toInt = 1 := rfl
    refine And.intro (fun c9 => absurd c9 (by decide)) (fun _ => ?_)
    refine Exists.intro _ (Exists.intro _ (Exists.intro _ (Exists.intro _ (And.intro (c_X11_isColour (md A0 g h q v f) x2 ) (And.intro rfl (fun r9 A9 h9 => ?_))))))
    rcases h9 with ⟨y2, rfl, rfl, ⟨rfl, by2⟩ | ⟨rfl, by2⟩⟩
    · skip
      refine And.intro (fun c9 => absurd c9 (by decide)) (fun _ => ?_)
      have hp_21 : ∀ L, rp (v 0) (f 0) (f 1) L → rp (v 0) (f 0) (f 1) L := fun L h => rp_fr h (by omega) rfl rfl
      refine And.intro (Exists.intro _ md_o) (Exists.intro _ (Exists.intro _ (Exists.intro _ (Exists.intro _ (And.intro (c_X11_hasRoom D v f hv hf (1 : Int32) (by omega)) (And.intro rfl (fun r9 A9 h9 => ?_)))))))
      rcases h9 with ⟨y3, rfl, rfl, ⟨rfl, by3⟩ | ⟨rfl, by3⟩⟩
      · skip
        refine And.intro (fun _ => ?_) (fun c9 => absurd c9 (by decide))
        refine hC.1 2 29 _ _ rfl _ _ _ _ _ ?_
        have hp_30 : ∀ L, rp (v 0) (f 0) (f 1) L → rp (v 0) (f 0) (f 1) L := fun L h => rp_fr h (by omega) rfl rfl
        refine And.intro (Exists.intro _ md_o) (Exists.intro _ (Exists.intro _ (Exists.intro _ (Exists.intro _ (And.intro (F_X11_begins D v f hv hf  ) (And.intro rfl (fun r9 A9 h9 => ?_)))))))
        obtain ⟨v5, f5, rfl, rfl, hv5, hf5, hx5, hg5_0, hg5_1, by4⟩ := h9
        have hw5 : f5 2 = f 2 := hx5.trans rfl
        have hr5_0 : f5 0 = f 0 := hg5_0.trans rfl
        have hr5_1 : f5 1 = f 1 := hg5_1.trans rfl
        have hu6 := hv5
        unfold md_V at hu6
        have hp_36 : ∀ L, rp (v 0) (f 0) (f 1) L → rp (v5 0) (f5 0) (f5 1) L := fun L h => rp_fr h (by omega) hr5_0 hr5_1
        refine And.intro (Exists.intro _ md_o) (Exists.intro _ (Exists.intro _ (Exists.intro _ (Exists.intro _ (And.intro (F_X11_laysFrom D v5 f5 hv5 hf5 (0 : Int32) x1 (by omega) (by omega) (by omega) (by omega)) (And.intro rfl (fun r9 A9 h9 => ?_)))))))
        obtain ⟨v8, f8, rfl, rfl, hv8, hf8, hx8, hg8_0, hg8_1, by7⟩ := h9
        have hw8 : f8 2 = f 2 := hx8.trans hw5
        have hr8_0 : f8 0 = f 0 := hg8_0.trans hr5_0
        have hr8_1 : f8 1 = f 1 := hg8_1.trans hr5_1
        have hu9 := hv8
        unfold md_V at hu9
        have hb_36 := by7.2
        have hp_41 : ∀ L, rp (v 0) (f 0) (f 1) L → rp (v8 0) (f8 0) (f8 1) L := fun L h => rp_fr h (by omega) hr8_0 hr8_1
        refine And.intro (Exists.intro _ md_o) (Exists.intro _ (Exists.intro _ (Exists.intro _ (Exists.intro _ (And.intro (F_X11_laysNew D v8 f8 hv8 hf8 x2 (by omega) (by omega) (by omega)) (And.intro rfl (fun r9 A9 h9 => ?_)))))))
        obtain ⟨v11, f11, rfl, rfl, hv11, hf11, hx11, hg11_0, hg11_1, by10⟩ := h9
        have hw11 : f11 2 = f 2 := hx11.trans hw8
        have hr11_0 : f11 0 = f 0 := hg11_0.trans hr8_0
        have hr11_1 : f11 1 = f 1 := hg11_1.trans hr8_1
        have hu12 := hv11
        unfold md_V at hu12
        have hb_41 := by10.2
        refine Exists.intro _ (And.intro md_o ?_)
        have hp_50 : ∀ L, rp (v 0) (f 0) (f 1) L → rp (v11 0) (f11 0) (f11 1) L := fun L h => rp_fr h (by omega) hr11_0 hr11_1
        refine And.intro (Exists.intro _ md_o) (Exists.intro _ (Exists.intro _ (Exists.intro _ (Exists.intro _ (And.intro (F_X11_laysFrom D v11 f11 hv11 hf11 x1 (v11 0) (by omega) (by omega) (by omega) (by omega)) (And.intro rfl (fun r9 A9 h9 => ?_)))))))
        obtain ⟨v14, f14, rfl, rfl, hv14, hf14, hx14, hg14_0, hg14_1, by13⟩ := h9
        have hw14 : f14 2 = f 2 := hx14.trans hw11
        have hr14_0 : f14 0 = f 0 := hg14_0.trans hr11_0
        have hr14_1 : f14 1 = f 1 := hg14_1.trans hr11_1
        have hu15 := hv14
        unfold md_V at hu15
        have hb_50 := by13.2
        have hp_54 : ∀ L, rp (v 0) (f 0) (f 1) L → rp (v14 0) (f14 0) (f14 1) L := fun L h => rp_fr h (by omega) hr14_0 hr14_1
        refine And.intro (Exists.intro _ md_o) (Exists.intro _ (Exists.intro _ (Exists.intro _ (Exists.intro _ (And.intro (F_X11_ends D v14 f14 hv14 hf14  (by omega)) (And.intro rfl (fun r9 A9 h9 => ?_)))))))
        obtain ⟨y16, v17, f17, rfl, rfl, hv17, hf17, hx17, by16⟩ := h9
        have hw17 : f17 2 = f 2 := hx17.trans hw14
        have hu18 := hv17
        unfold md_V at hu18
        have hb_54 := by16.2
        exact ⟨rfl, fun e9 => absurd e9 (by decide), rfl, y16, v17, f17, rfl, rfl, hv17, hf17, hw17, by first | trivial | omega | (dsimp only; omega), by intro L hL; have hl := hL.1; rw [ed_insert, if_pos (by omega)]; have t1 := hb_36 L [] (0) (x1.toInt) (hp_36 L hL) (by omega) (by omega) (by omega) (by omega) (rp_0 (by omega)); have t2 := hb_41 _ (v 3) (by omega) t1; have t3 := hb_50 L _ (x1.toInt) (L.length) (hp_50 L hL) (by omega) (by omega) (by omega) (by omega) t2; rw [List.nil_append] at t3; exact ⟨hb_54 _ t3, by show _ = _ + (1 : Int); omega, by show _ = _ + (1 : Int) * _; omega⟩⟩
      · skip
        refine And.intro (fun c9 => absurd c9 (by decide)) (fun _ => ?_)
        refine hC.1 1 27 _ _ rfl _ _ _ _ _ ?_
        have km1 : (-1 : Int32).toInt = -1 := rfl
        exact ⟨rfl, fun e9 => absurd e9 (by decide), rfl, (-1 : Int32), v, f, rfl, rfl, hv, hf, rfl, by first | trivial | omega | (dsimp only; omega), by intro L hL; have hl := hL.1; rw [ed_insert, if_neg (by omega)]; exact ⟨hL, by show _ = _ + (0 : Int); omega, by show _ = _ + (0 : Int) * _; omega⟩⟩
    · skip
      refine And.intro (fun _ => ?_) (fun c9 => absurd c9 (by decide))
      refine hC.1 1 27 _ _ rfl _ _ _ _ _ ?_
      have km1 : (-1 : Int32).toInt = -1 := rfl
      exact ⟨rfl, fun e9 => absurd e9 (by decide), rfl, (-1 : Int32), v, f, rfl, rfl, hv, hf, rfl, by first | trivial | omega | (dsimp only; omega), by intro L hL; have hl := hL.1; rw [ed_insert, if_neg (by omega)]; exact ⟨hL, by show _ = _ + (0 : Int); omega, by show _ = _ + (0 : Int) * _; omega⟩⟩
  · skip
    refine And.intro (fun _ => ?_) (fun c9 => absurd c9 (by decide))
    refine hC.1 1 27 _ _ rfl _ _ _ _ _ ?_
    have km1 : (-1 : Int32).toInt = -1 := rfl
    exact ⟨rfl, fun e9 => absurd e9 (by decide), rfl, (-1 : Int32), v, f, rfl, rfl, hv, hf, rfl, by first | trivial | omega | (dsimp only; omega), by intro L hL; have hl := hL.1; rw [ed_insert, if_neg (by omega)]; exact ⟨hL, by show _ = _ + (0 : Int); omega, by show _ = _ + (0 : Int) * _; omega⟩⟩

set_option maxRecDepth 100000 in
set_option maxHeartbeats 2000000 in
theorem F_X11_cut (D : md_D h q) (v : Nat → Int32) (f : Nat → Nat → Int32) (hv : md_V v) (hf : md_F f) (x1 : Int32) (x2 : Int32) (p0 : (v 4).toInt < 100000) : pm_Mt l g 187 4 0 0 [.ref h, .int x1, .int x2] (md A0 g h q v f) (md_Qw A0 g h q f (fun r v2 f2 => ((v2 6).toInt = (v 6).toInt ∧ (v2 4).toInt ≤ (v 4).toInt + 1 ∧ (v 4).toInt ≤ (v2 4).toInt) ∧ (∀ L, rp (v 0) (f 0) (f 1) L → rp (v2 0) (f2 0) (f2 1) ((ed_cut L x1 x2).getD L) ∧ (v2 4).toInt = (v 4).toInt + edn (ed_cut L x1 x2) ∧ (v2 3).toInt = (v 3).toInt + edn (ed_cut L x1 x2) * (0)))) := by
  refine mt_X11_cut rfl (fun J hC => ?_)
  have hv9 := hv
  unfold md_V at hv9
  have rg_x1 := pm_rng x1
  have rg_x2 := pm_rng x2
  refine hC.1 0 0 _ _ rfl _ _ _ _ _ ?_
  have hp_3 : ∀ L, rp (v 0) (f 0) (f 1) L → rp (v 0) (f 0) (f 1) L := fun L h => rp_fr h (by omega) rfl rfl
  refine And.intro (Exists.intro _ md_o) (Exists.intro _ (Exists.intro _ (Exists.intro _ (Exists.intro _ (And.intro (c_X11_isSpan D v f hv hf x1 x2 ) (And.intro rfl (fun r9 A9 h9 => ?_)))))))
  rcases h9 with ⟨y1, rfl, rfl, ⟨rfl, by1⟩ | ⟨rfl, by1⟩⟩
  · skip
    have k1 : (1 : Int32).toInt = 1 := rfl
    refine And.intro (fun _ => ?_) (fun c9 => absurd c9 (by decide))
    refine hC.1 1 11 _ _ rfl _ _ _ _ _ ?_
    have hp_12 : ∀ L, rp (v 0) (f 0) (f 1) L → rp (v 0) (f 0) (f 1) L := fun L h => rp_fr h (by omega) rfl rfl
    refine And.intro (Exists.intro _ md_o) (Exists.intro _ (Exists.intro _ (Exists.intro _ (Exists.intro _ (And.intro (F_X11_begins D v f hv hf  ) (And.intro rfl (fun r9 A9 h9 => ?_)))))))
    obtain ⟨v3, f3, rfl, rfl, hv3, hf3, hx3, hg3_0, hg3_1, by2⟩ := h9
    have hw3 : f3 2 = f 2 := hx3.trans rfl
    have hr3_0 : f3 0 = f 0 := hg3_0.trans rfl
    have hr3_1 : f3 1 = f 1 := hg3_1.trans rfl
    have hu4 := hv3
    unfold md_V at hu4
    have k0 : (0 : Int32).toInt = 0 := rfl
    have hp_18 : ∀ L, rp (v 0) (f 0) (f 1) L → rp (v3 0) (f3 0) (f3 1) L := fun L h => rp_fr h (by omega) hr3_0 hr3_1
    refine And.intro (Exists.intro _ md_o) (Exists.intro _ (Exists.intro _ (Exists.intro _ (Exists.intro _ (And.intro (F_X11_laysFrom D v3 f3 hv3 hf3 (0 : Int32) x1 (by omega) (by omega) (by omega) (by omega)) (And.intro rfl (fun r9 A9 h9 => ?_)))))))
    obtain ⟨v6, f6, rfl, rfl, hv6, hf6, hx6, hg6_0, hg6_1, by5⟩ := h9
    have hw6 : f6 2 = f 2 := hx6.trans hw3
    have hr6_0 : f6 0 = f 0 := hg6_0.trans hr3_0
    have hr6_1 : f6 1 = f 1 := hg6_1.trans hr3_1
    have hu7 := hv6
    unfold md_V at hu7
    have hb_18 := by5.2
    intro m8 em_24
    try have e8 : m8.toInt = (x2).toInt + (1) := by rw [em_24]; exact pm_addc _ _ (1) rfl (by omega) (by omega)
    refine Exists.intro _ (And.intro md_o ?_)
    have hp_29 : ∀ L, rp (v 0) (f 0) (f 1) L → rp (v6 0) (f6 0) (f6 1) L := fun L h => rp_fr h (by omega) hr6_0 hr6_1
    refine And.intro (Exists.intro _ md_o) (Exists.intro _ (Exists.intro _ (Exists.intro _ (Exists.intro _ (And.intro (F_X11_laysFrom D v6 f6 hv6 hf6 m8 (v6 0) (by omega) (by omega) (by omega) (by omega)) (And.intro rfl (fun r9 A9 h9 => ?_)))))))
    obtain ⟨v10, f10, rfl, rfl, hv10, hf10, hx10, hg10_0, hg10_1, by9⟩ := h9
    have hw10 : f10 2 = f 2 := hx10.trans hw6
    have hr10_0 : f10 0 = f 0 := hg10_0.trans hr6_0
    have hr10_1 : f10 1 = f 1 := hg10_1.trans hr6_1
    have hu11 := hv10
    unfold md_V at hu11
    have hb_29 := by9.2
    have hp_33 : ∀ L, rp (v 0) (f 0) (f 1) L → rp (v10 0) (f10 0) (f10 1) L := fun L h => rp_fr h (by omega) hr10_0 hr10_1
    refine And.intro (Exists.intro _ md_o) (Exists.intro _ (Exists.intro _ (Exists.intro _ (Exists.intro _ (And.intro (F_X11_ends D v10 f10 hv10 hf10  (by omega)) (And.intro rfl (fun r9 A9 h9 => ?_)))))))
    obtain ⟨y12, v13, f13, rfl, rfl, hv13, hf13, hx13, by12⟩ := h9
    have hw13 : f13 2 = f 2 := hx13.trans hw10
    have hu14 := hv13
    unfold md_V at hu14
    have hb_33 := by12.2
    exact ⟨rfl, fun e9 => absurd e9 (by decide), rfl, y12, v13, f13, rfl, rfl, hv13, hf13, hw13, by first | trivial | omega | (dsimp only; omega), by intro L hL; have hl := hL.1; rw [ed_cut, if_pos (by omega)]; have t1 := hb_18 L [] (0) (x1.toInt) (hp_18 L hL) (by omega) (by omega) (by omega) (by omega) (rp_0 (by omega)); have t2 := hb_29 L _ (x2.toInt + 1) (L.length) (hp_29 L hL) (by omega) (by omega) (by omega) (by omega) t1; rw [List.nil_append] at t2; exact ⟨hb_33 _ t2, by show _ = _ + (1 : Int); omega, by show _ = _ + (1 : Int) * _; omega⟩⟩
  · skip
    have k0 : (0 : Int32).toInt = 0 := rfl
    refine And.intro (fun c9 => absurd c9 (by decide)) (fun _ => ?_)
    have km1 : (-1 : Int32).toInt = -1 := rfl
    exact ⟨rfl, fun e9 => absurd e9 (by decide), rfl, (-1 : Int32), v, f, rfl, rfl, hv, hf, rfl, by first | trivial | omega | (dsimp only; omega), by intro L hL; have hl := hL.1; rw [ed_cut, if_neg (by omega)]; exact ⟨hL, by show _ = _ + (0 : Int); omega, by show _ = _ + (0 : Int) * _; omega⟩⟩

set_option maxRecDepth 100000 in
set_option maxHeartbeats 2000000 in
theorem F_X11_shift (D : md_D h q) (v : Nat → Int32) (f : Nat → Nat → Int32) (hv : md_V v) (hf : md_F f) (x1 : Int32) (x2 : Int32) (x3 : Int32) (p0 : (v 4).toInt < 100000) : pm_Mt l g 189 4 0 0 [.ref h, .int x1, .int x2, .int x3] (md A0 g h q v f) (md_Qw A0 g h q f (fun r v2 f2 => ((v2 6).toInt = (v 6).toInt ∧ (v2 4).toInt ≤ (v 4).toInt + 1 ∧ (v 4).toInt ≤ (v2 4).toInt) ∧ (∀ L, rp (v 0) (f 0) (f 1) L → rp (v2 0) (f2 0) (f2 1) ((ed_shift L x1 x2 x3).getD L) ∧ (v2 4).toInt = (v 4).toInt + edn (ed_shift L x1 x2 x3) ∧ (v2 3).toInt = (v 3).toInt + edn (ed_shift L x1 x2 x3) * (0)))) := by
  refine mt_X11_shift rfl (fun J hC => ?_)
  have hv9 := hv
  unfold md_V at hv9
  have rg_x1 := pm_rng x1
  have rg_x2 := pm_rng x2
  have rg_x3 := pm_rng x3
  refine hC.1 0 0 _ _ rfl _ _ _ _ _ ?_
  have hp_3 : ∀ L, rp (v 0) (f 0) (f 1) L → rp (v 0) (f 0) (f 1) L := fun L h => rp_fr h (by omega) rfl rfl
  refine And.intro (Exists.intro _ md_o) (Exists.intro _ (Exists.intro _ (Exists.intro _ (Exists.intro _ (And.intro (c_X11_isSpan D v f hv hf x1 x2 ) (And.intro rfl (fun r9 A9 h9 => ?_)))))))
  rcases h9 with ⟨y1, rfl, rfl, ⟨rfl, by1⟩ | ⟨rfl, by1⟩⟩
  · skip
    have k1 : (1 : Int32).toInt = 1 := rfl
    refine And.intro (fun c9 => absurd c9 (by decide)) (fun _ => ?_)
    have k0 : (0 : Int32).toInt = 0 := rfl
    intro m2 em_13
    try have e2 : m2.toInt = (x2).toInt - (x1).toInt := by rw [em_13]; exact pm_sub _ _ (by omega) (by omega)
    intro m3 em_15
    try have e3 : m3.toInt = (m2).toInt + (1) := by rw [em_15]; exact pm_addc _ _ (1) rfl (by omega) (by omega)
    refine Exists.intro _ (Exists.intro _ (Exists.intro _ (Exists.intro _ (And.intro (c_X11_isIn (md A0 g h q v f) x3 (0 : Int32) m3 ) (And.intro rfl (fun r9 A9 h9 => ?_))))))
    rcases h9 with ⟨y4, rfl, rfl, ⟨rfl, by4⟩ | ⟨rfl, by4⟩⟩
    · skip
      refine And.intro (fun _ => ?_) (fun c9 => absurd c9 (by decide))
      refine hC.1 2 24 _ _ rfl _ _ _ _ _ ?_
      have hp_25 : ∀ L, rp (v 0) (f 0) (f 1) L → rp (v 0) (f 0) (f 1) L := fun L h => rp_fr h (by omega) rfl rfl
      refine And.intro (Exists.intro _ md_o) (Exists.intro _ (Exists.intro _ (Exists.intro _ (Exists.intro _ (And.intro (F_X11_begins D v f hv hf  ) (And.intro rfl (fun r9 A9 h9 => ?_)))))))
      obtain ⟨v6, f6, rfl, rfl, hv6, hf6, hx6, hg6_0, hg6_1, by5⟩ := h9
      have hw6 : f6 2 = f 2 := hx6.trans rfl
      have hr6_0 : f6 0 = f 0 := hg6_0.trans rfl
      have hr6_1 : f6 1 = f 1 := hg6_1.trans rfl
      have hu7 := hv6
      unfold md_V at hu7
      have hp_31 : ∀ L, rp (v 0) (f 0) (f 1) L → rp (v6 0) (f6 0) (f6 1) L := fun L h => rp_fr h (by omega) hr6_0 hr6_1
      refine And.intro (Exists.intro _ md_o) (Exists.intro _ (Exists.intro _ (Exists.intro _ (Exists.intro _ (And.intro (F_X11_laysFrom D v6 f6 hv6 hf6 (0 : Int32) x1 (by omega) (by omega) (by omega) (by omega)) (And.intro rfl (fun r9 A9 h9 => ?_)))))))
      obtain ⟨v9, f9, rfl, rfl, hv9, hf9, hx9, hg9_0, hg9_1, by8⟩ := h9
      have hw9 : f9 2 = f 2 := hx9.trans hw6
      have hr9_0 : f9 0 = f 0 := hg9_0.trans hr6_0
      have hr9_1 : f9 1 = f 1 := hg9_1.trans hr6_1
      have hu10 := hv9
      unfold md_V at hu10
      have hb_31 := by8.2
      intro m11 em_37
      try have e11 : m11.toInt = (x1).toInt + (x3).toInt := by rw [em_37]; exact pm_add _ _ (by omega) (by omega)
      intro m12 em_40
      try have e12 : m12.toInt = (x2).toInt + (1) := by rw [em_40]; exact pm_addc _ _ (1) rfl (by omega) (by omega)
      have hp_41 : ∀ L, rp (v 0) (f 0) (f 1) L → rp (v9 0) (f9 0) (f9 1) L := fun L h => rp_fr h (by omega) hr9_0 hr9_1
      refine And.intro (Exists.intro _ md_o) (Exists.intro _ (Exists.intro _ (Exists.intro _ (Exists.intro _ (And.intro (F_X11_laysFrom D v9 f9 hv9 hf9 m11 m12 (by omega) (by omega) (by omega) (by omega)) (And.intro rfl (fun r9 A9 h9 => ?_)))))))
      obtain ⟨v14, f14, rfl, rfl, hv14, hf14, hx14, hg14_0, hg14_1, by13⟩ := h9
      have hw14 : f14 2 = f 2 := hx14.trans hw9
      have hr14_0 : f14 0 = f 0 := hg14_0.trans hr9_0
      have hr14_1 : f14 1 = f 1 := hg14_1.trans hr9_1
      have hu15 := hv14
      unfold md_V at hu15
      have hb_41 := by13.2
      intro m16 em_48
      try have e16 : m16.toInt = (x1).toInt + (x3).toInt := by rw [em_48]; exact pm_add _ _ (by omega) (by omega)
      have hp_49 : ∀ L, rp (v 0) (f 0) (f 1) L → rp (v14 0) (f14 0) (f14 1) L := fun L h => rp_fr h (by omega) hr14_0 hr14_1
      refine And.intro (Exists.intro _ md_o) (Exists.intro _ (Exists.intro _ (Exists.intro _ (Exists.intro _ (And.intro (F_X11_laysFrom D v14 f14 hv14 hf14 x1 m16 (by omega) (by omega) (by omega) (by omega)) (And.intro rfl (fun r9 A9 h9 => ?_)))))))
      obtain ⟨v18, f18, rfl, rfl, hv18, hf18, hx18, hg18_0, hg18_1, by17⟩ := h9
      have hw18 : f18 2 = f 2 := hx18.trans hw14
      have hr18_0 : f18 0 = f 0 := hg18_0.trans hr14_0
      have hr18_1 : f18 1 = f 1 := hg18_1.trans hr14_1
      have hu19 := hv18
      unfold md_V at hu19
      have hb_49 := by17.2
      intro m20 em_55
      try have e20 : m20.toInt = (x2).toInt + (1) := by rw [em_55]; exact pm_addc _ _ (1) rfl (by omega) (by omega)
      refine Exists.intro _ (And.intro md_o ?_)
      have hp_60 : ∀ L, rp (v 0) (f 0) (f 1) L → rp (v18 0) (f18 0) (f18 1) L := fun L h => rp_fr h (by omega) hr18_0 hr18_1
      refine And.intro (Exists.intro _ md_o) (Exists.intro _ (Exists.intro _ (Exists.intro _ (Exists.intro _ (And.intro (F_X11_laysFrom D v18 f18 hv18 hf18 m20 (v18 0) (by omega) (by omega) (by omega) (by omega)) (And.intro rfl (fun r9 A9 h9 => ?_)))))))
      obtain ⟨v22, f22, rfl, rfl, hv22, hf22, hx22, hg22_0, hg22_1, by21⟩ := h9
      have hw22 : f22 2 = f 2 := hx22.trans hw18
      have hr22_0 : f22 0 = f 0 := hg22_0.trans hr18_0
      have hr22_1 : f22 1 = f 1 := hg22_1.trans hr18_1
      have hu23 := hv22
      unfold md_V at hu23
      have hb_60 := by21.2
      have hp_64 : ∀ L, rp (v 0) (f 0) (f 1) L → rp (v22 0) (f22 0) (f22 1) L := fun L h => rp_fr h (by omega) hr22_0 hr22_1
      refine And.intro (Exists.intro _ md_o) (Exists.intro _ (Exists.intro _ (Exists.intro _ (Exists.intro _ (And.intro (F_X11_ends D v22 f22 hv22 hf22  (by omega)) (And.intro rfl (fun r9 A9 h9 => ?_)))))))
      obtain ⟨y24, v25, f25, rfl, rfl, hv25, hf25, hx25, by24⟩ := h9
      have hw25 : f25 2 = f 2 := hx25.trans hw22
      have hu26 := hv25
      unfold md_V at hu26
      have hb_64 := by24.2
      exact ⟨rfl, fun e9 => absurd e9 (by decide), rfl, y24, v25, f25, rfl, rfl, hv25, hf25, hw25, by first | trivial | omega | (dsimp only; omega), by intro L hL; have hl := hL.1; rw [ed_shift, if_pos (by omega)]; have t1 := hb_31 L [] (0) (x1.toInt) (hp_31 L hL) (by omega) (by omega) (by omega) (by omega) (rp_0 (by omega)); have t2 := hb_41 L _ (x1.toInt + x3.toInt) (x2.toInt + 1) (hp_41 L hL) (by omega) (by omega) (by omega) (by omega) t1; have t3 := hb_49 L _ (x1.toInt) (x1.toInt + x3.toInt) (hp_49 L hL) (by omega) (by omega) (by omega) (by omega) t2; have t4 := hb_60 L _ (x2.toInt + 1) (L.length) (hp_60 L hL) (by omega) (by omega) (by omega) (by omega) t3; rw [List.nil_append] at t4; exact ⟨hb_64 _ t4, by show _ = _ + (1 : Int); omega, by show _ = _ + (1 : Int) * _; omega⟩⟩
    · skip
      refine And.intro (fun c9 => absurd c9 (by decide)) (fun _ => ?_)
      refine hC.1 1 22 _ _ rfl _ _ _ _ _ ?_
      have km1 : (-1 : Int32).toInt = -1 := rfl
      exact ⟨rfl, fun e9 => absurd e9 (by decide), rfl, (-1 : Int32), v, f, rfl, rfl, hv, hf, rfl, by first | trivial | omega | (dsimp only; omega), by intro L hL; have hl := hL.1; rw [ed_shift, if_neg (by omega)]; exact ⟨hL, by show _ = _ + (0 : Int); omega, by show _ = _ + (0 : Int) * _; omega⟩⟩
  · skip
    have k0 : (0 : Int32).toInt = 0 := rfl
    refine And.intro (fun _ => ?_) (fun c9 => absurd c9 (by decide))
    refine hC.1 1 22 _ _ rfl _ _ _ _ _ ?_
    have km1 : (-1 : Int32).toInt = -1 := rfl
    exact ⟨rfl, fun e9 => absurd e9 (by decide), rfl, (-1 : Int32), v, f, rfl, rfl, hv, hf, rfl, by first | trivial | omega | (dsimp only; omega), by intro L hL; have hl := hL.1; rw [ed_shift, if_neg (by omega)]; exact ⟨hL, by show _ = _ + (0 : Int); omega, by show _ = _ + (0 : Int) * _; omega⟩⟩

set_option maxRecDepth 100000 in
set_option maxHeartbeats 2000000 in
theorem F_X11_turn (D : md_D h q) (v : Nat → Int32) (f : Nat → Nat → Int32) (hv : md_V v) (hf : md_F f) (x1 : Int32) (x2 : Int32) (p0 : (v 4).toInt < 100000) : pm_Mt l g 188 4 0 0 [.ref h, .int x1, .int x2] (md A0 g h q v f) (md_Qw A0 g h q f (fun r v2 f2 => ((v2 6).toInt = (v 6).toInt ∧ (v2 4).toInt ≤ (v 4).toInt + 1 ∧ (v 4).toInt ≤ (v2 4).toInt) ∧ (∀ L, rp (v 0) (f 0) (f 1) L → rp (v2 0) (f2 0) (f2 1) ((ed_turn L x1 x2).getD L) ∧ (v2 4).toInt = (v 4).toInt + edn (ed_turn L x1 x2) ∧ (v2 3).toInt = (v 3).toInt + edn (ed_turn L x1 x2) * (0)))) := by
  refine mt_X11_turn rfl (fun J hC => ?_)
  have hv9 := hv
  unfold md_V at hv9
  have rg_x1 := pm_rng x1
  have rg_x2 := pm_rng x2
  refine hC.1 0 0 _ _ rfl _ _ _ _ _ ?_
  have hp_3 : ∀ L, rp (v 0) (f 0) (f 1) L → rp (v 0) (f 0) (f 1) L := fun L h => rp_fr h (by omega) rfl rfl
  refine And.intro (Exists.intro _ md_o) (Exists.intro _ (Exists.intro _ (Exists.intro _ (Exists.intro _ (And.intro (c_X11_isSpan D v f hv hf x1 x2 ) (And.intro rfl (fun r9 A9 h9 => ?_)))))))
  rcases h9 with ⟨y1, rfl, rfl, ⟨rfl, by1⟩ | ⟨rfl, by1⟩⟩
  · skip
    have k1 : (1 : Int32).toInt = 1 := rfl
    refine And.intro (fun _ => ?_) (fun c9 => absurd c9 (by decide))
    refine hC.1 1 11 _ _ rfl _ _ _ _ _ ?_
    have hp_12 : ∀ L, rp (v 0) (f 0) (f 1) L → rp (v 0) (f 0) (f 1) L := fun L h => rp_fr h (by omega) rfl rfl
    refine And.intro (Exists.intro _ md_o) (Exists.intro _ (Exists.intro _ (Exists.intro _ (Exists.intro _ (And.intro (F_X11_begins D v f hv hf  ) (And.intro rfl (fun r9 A9 h9 => ?_)))))))
    obtain ⟨v3, f3, rfl, rfl, hv3, hf3, hx3, hg3_0, hg3_1, by2⟩ := h9
    have hw3 : f3 2 = f 2 := hx3.trans rfl
    have hr3_0 : f3 0 = f 0 := hg3_0.trans rfl
    have hr3_1 : f3 1 = f 1 := hg3_1.trans rfl
    have hu4 := hv3
    unfold md_V at hu4
    have k0 : (0 : Int32).toInt = 0 := rfl
    have hp_18 : ∀ L, rp (v 0) (f 0) (f 1) L → rp (v3 0) (f3 0) (f3 1) L := fun L h => rp_fr h (by omega) hr3_0 hr3_1
    refine And.intro (Exists.intro _ md_o) (Exists.intro _ (Exists.intro _ (Exists.intro _ (Exists.intro _ (And.intro (F_X11_laysFrom D v3 f3 hv3 hf3 (0 : Int32) x1 (by omega) (by omega) (by omega) (by omega)) (And.intro rfl (fun r9 A9 h9 => ?_)))))))
    obtain ⟨v6, f6, rfl, rfl, hv6, hf6, hx6, hg6_0, hg6_1, by5⟩ := h9
    have hw6 : f6 2 = f 2 := hx6.trans hw3
    have hr6_0 : f6 0 = f 0 := hg6_0.trans hr3_0
    have hr6_1 : f6 1 = f 1 := hg6_1.trans hr3_1
    have hu7 := hv6
    unfold md_V at hu7
    have hb_18 := by5.2
    have lp9 : ∀ (n : Nat) (z3_23 : Int32) (v8 : Nat → Int32) (f8 : Nat → Nat → Int32), md_V v8 → md_F f8 → f8 2 = f 2 → f8 0 = f 0 → f8 1 = f 1 → (x1.toInt - 1 ≤ z3_23.toInt ∧ z3_23.toInt ≤ x2.toInt) → ((v8 0).toInt = (v 0).toInt ∧ (v8 4).toInt = (v 4).toInt ∧ (v8 3).toInt = (v 3).toInt ∧ (v8 2).toInt = x1.toInt + (x2.toInt - z3_23.toInt)) → (∀ L, rp (v 0) (f 0) (f 1) L → rp (v8 2) (f8 5) (f8 6) (si L 0 x1.toInt ++ (si L (z3_23.toInt + 1) (x2.toInt + 1)).reverse)) → (v8 6).toInt = (v 6).toInt → z3_23.toInt + 1 < (n : Int) → J 23 [some (.ref h), some (.int x1), some (.int x2), some (.int z3_23)] [] (md A0 g h q v8 f8) 0 0 := by
      intro n
      induction n with
      | zero =>
        intro z3_23 v8 f8 hv8 hf8 hw8 hr8_0 hr8_1 j0_23 j1_23 j2_23 j3_23 j4_23
        omega
      | succ n ih10 =>
        intro z3_23 v8 f8 hv8 hf8 hw8 hr8_0 hr8_1 j0_23 j1_23 j2_23 j3_23 j4_23
        have lr0 := hr8_0
        have lr1 := hr8_1
        refine hC.1 2 23 _ _ rfl _ _ _ _ _ ?_
        have hu11 := hv8
        unfold md_V at hu11
        refine And.intro (fun c12 => ?_) (fun c12 => ?_)
        · skip
          refine hC.1 3 50 _ _ rfl _ _ _ _ _ ?_
          intro m13 em_53
          try have e13 : m13.toInt = (x2).toInt + (1) := by rw [em_53]; exact pm_addc _ _ (1) rfl (by omega) (by omega)
          refine Exists.intro _ (And.intro md_o ?_)
          have hp_58 : ∀ L, rp (v 0) (f 0) (f 1) L → rp (v8 0) (f8 0) (f8 1) L := fun L h => rp_fr h (by omega) hr8_0 hr8_1
          refine And.intro (Exists.intro _ md_o) (Exists.intro _ (Exists.intro _ (Exists.intro _ (Exists.intro _ (And.intro (F_X11_laysFrom D v8 f8 hv8 hf8 m13 (v8 0) (by omega) (by omega) (by omega) (by omega)) (And.intro rfl (fun r9 A9 h9 => ?_)))))))
          obtain ⟨v15, f15, rfl, rfl, hv15, hf15, hx15, hg15_0, hg15_1, by14⟩ := h9
          have hw15 : f15 2 = f 2 := hx15.trans hw8
          have hr15_0 : f15 0 = f 0 := hg15_0.trans hr8_0
          have hr15_1 : f15 1 = f 1 := hg15_1.trans hr8_1
          have hu16 := hv15
          unfold md_V at hu16
          have hb_58 := by14.2
          have hp_62 : ∀ L, rp (v 0) (f 0) (f 1) L → rp (v15 0) (f15 0) (f15 1) L := fun L h => rp_fr h (by omega) hr15_0 hr15_1
          refine And.intro (Exists.intro _ md_o) (Exists.intro _ (Exists.intro _ (Exists.intro _ (Exists.intro _ (And.intro (F_X11_ends D v15 f15 hv15 hf15  (by omega)) (And.intro rfl (fun r9 A9 h9 => ?_)))))))
          obtain ⟨y17, v18, f18, rfl, rfl, hv18, hf18, hx18, by17⟩ := h9
          have hw18 : f18 2 = f 2 := hx18.trans hw15
          have hu19 := hv18
          unfold md_V at hu19
          have hb_62 := by17.2
          exact ⟨rfl, fun e9 => absurd e9 (by decide), rfl, y17, v18, f18, rfl, rfl, hv18, hf18, hw18, by first | trivial | omega | (dsimp only; omega), by intro L hL; have hl := hL.1; rw [ed_turn, if_pos (by omega)]; have t2 := j2_23 L hL; rw [show z3_23.toInt + 1 = x1.toInt by omega] at t2; have t3 := hb_58 L _ (x2.toInt + 1) L.length (hp_58 L hL) (by omega) (by omega) (by omega) (by omega) t2; exact ⟨hb_62 _ t3, by show _ = _ + (1 : Int); omega, by show _ = _ + (1 : Int) * _; omega⟩⟩
        · skip
          refine Exists.intro _ (And.intro md_o ?_)
          refine Exists.intro _ (Exists.intro _ (And.intro (Or.inl (md_a_colours D)) (And.intro (by omega) ?_)))
          have w20 : (0 : Int) ≤ (f8 0 (z3_23).toInt.toNat).toInt ∧ (f8 0 (z3_23).toInt.toNat).toInt ≤ (23 : Int) := hf8 0 _
          refine Exists.intro _ (And.intro md_o ?_)
          refine Exists.intro _ (Exists.intro _ (And.intro (Or.inl (md_a_names D)) (And.intro (by omega) ?_)))
          have hp_41 : ∀ L, rp (v 0) (f 0) (f 1) L → rp (v8 0) (f8 0) (f8 1) L := fun L h => rp_fr h (by omega) hr8_0 hr8_1
          refine And.intro (Exists.intro _ md_o) (Exists.intro _ (Exists.intro _ (Exists.intro _ (Exists.intro _ (And.intro (F_X11_lays D v8 f8 hv8 hf8 (f8 0 (z3_23).toInt.toNat) (f8 1 (z3_23).toInt.toNat) (by omega) (by omega)) (And.intro rfl (fun r9 A9 h9 => ?_)))))))
          obtain ⟨v22, f22, rfl, rfl, hv22, hf22, hx22, hg22_0, hg22_1, by21⟩ := h9
          have hw22 : f22 2 = f 2 := hx22.trans hw8
          have hr22_0 : f22 0 = f 0 := hg22_0.trans hr8_0
          have hr22_1 : f22 1 = f 1 := hg22_1.trans hr8_1
          have hu23 := hv22
          unfold md_V at hu23
          have hb_41 := by21.2
          have hb9 := by21.2
          have km1 : (-1 : Int32).toInt = -1 := rfl
          intro m24 em_44
          try have e24 : m24.toInt = (z3_23).toInt + (-1) := by rw [em_44]; exact pm_addc _ _ (-1) rfl (by omega) (by omega)
          exact ih10 m24 v22 f22 hv22 hf22 hw22 hr22_0 hr22_1 (by omega) (by omega) (by intro L hL; have hl := hL.1; rw [show m24.toInt + 1 = z3_23.toInt by omega, si_c hL (a := z3_23.toInt) (b := x2.toInt + 1) (by omega) (by omega) (by omega), List.reverse_cons, ← List.append_assoc]; have h4 := hb9 _ (j2_23 L hL); rw [lr0, lr1] at h4; exact h4) (by omega) (by omega)
    exact lp9 (x2.toInt + 1).toNat.succ x2 v6 f6 hv6 hf6 hw6 hr6_0 hr6_1 (by omega) (by omega) (by intro L hL; have hl := hL.1; rw [si_n (Int.le_refl _), List.reverse_nil, List.append_nil]; have t1 := hb_18 L [] 0 x1.toInt (hp_18 L hL) rfl rfl (by omega) (by omega) (rp_0 (by omega)); rw [List.nil_append] at t1; exact t1) (by omega) (by omega)
  · skip
    have k0 : (0 : Int32).toInt = 0 := rfl
    refine And.intro (fun c9 => absurd c9 (by decide)) (fun _ => ?_)
    have km1 : (-1 : Int32).toInt = -1 := rfl
    exact ⟨rfl, fun e9 => absurd e9 (by decide), rfl, (-1 : Int32), v, f, rfl, rfl, hv, hf, rfl, by first | trivial | omega | (dsimp only; omega), by intro L hL; have hl := hL.1; rw [ed_turn, if_neg (by omega)]; exact ⟨hL, by show _ = _ + (0 : Int); omega, by show _ = _ + (0 : Int) * _; omega⟩⟩

end
