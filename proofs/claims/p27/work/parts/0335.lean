section
variable {l : Launch} {g : pm_G} {A0 : pm_H} {h : Nat} {q : Nat → Nat}
set_option maxRecDepth 100000 in
set_option maxHeartbeats 2000000 in
theorem F_X11_insert (D : md_D h q) (v : Nat → Int32) (f : Nat → Nat → Int32) (hv : md_V v) (hf : md_F f) (x1 : Int32) (x2 : Int32) (p0 : (v 4).toInt < 100000) : pm_Mt l g 183 4 0 0 [.ref h, .int x1, .int x2] (md A0 g h q v f) (md_Qw A0 g h q f (fun r v2 f2 => ((v2 6).toInt = (v 6).toInt ∧ (v2 4).toInt ≤ (v 4).toInt + 1 ∧ (v 4).toInt ≤ (v2 4).toInt) ∧ (∀ L, rp (v 0) (f 0) (f 1) L → rp (v2 0) (f2 0) (f2 1) ((ed_insert L (v 3) x1 x2).getD L) ∧ (v2 4).toInt = (v 4).toInt + edn (ed_insert L (v 3) x1 x2) ∧ (v2 3).toInt = (v 3).toInt + edn (ed_insert L (v 3) x1 x2) * (1)))) := by
  refine mt_X11_insert rfl (fun J hC => ?_)
  have hv9 := hv
  unfold md_V at hv9
  have rg_x1 := pm_rng x1
  have rg_x2 := pm_rng x2
  refine hC.1 0 0 _ _ rfl _ _ _ _ _ ?_
  have k0 : (0 : Int32).toInt = 0 := rfl
  refine Exists.intro _ (And.intro md_o ?_)
  refine Exists.intro _ (Exists.intro _ (Exists.intro _ (Exists.intro _ (And.intro (c_X11_isIn (md A0 g h q v f) x1 (0 : Int32) (v 0) ) (And.intro rfl (fun r9 A9 h9 => ?_))))))
  rcases h9 with ⟨y1, rfl, rfl, ⟨rfl, by1⟩ | ⟨rfl, by1⟩⟩
  · skip
    have k1 : (1 : Int32).toInt = 1 := rfl
    refine And.intro (fun c9 => absurd c9 (by decide)) (fun _ => ?_)
    refine Exists.intro _ (Exists.intro _ (Exists.intro _ (Exists.intro _ (And.intro (c_X11_isColour (md A0 g h q v f) x2 ) (And.intro rfl (fun r9 A9 h9 => ?_))))))
    rcases h9 with ⟨y2, rfl, rfl, ⟨rfl, by2⟩ | ⟨rfl, by2⟩⟩
    · skip
      refine And.intro (fun c9 => absurd c9 (by decide)) (fun _ => ?_)
      have hp_21 : ∀ L, rp (v 0) (f 0) (f 1) L → rp (v 0) (f 0) (f 1) L := fun L h => rp_fr h (by omega) rfl rfl
      refine And.intro (Exists.intro _ md_o) (Exists.intro _ (Exists.intro _ (Exists.intro _ (Exists.intro _ (And.intro (c_X11_hasRoom D v f hv hf (1 : Int32) (by omega)) (And.intro rfl (fun r9 A9 h9 => ?_)))))))
      rcases h9 with ⟨y3, rfl, rfl, ⟨rfl, by3⟩ | ⟨rfl, by3⟩⟩
      · skip
        refine And.intro (fun _ => ?_) (fun c9 => absurd c9 (by decide))
        refine hC.1 2 29 _ _ rfl _ _ _ _ _ ?_
        have hp_30 : ∀ L, rp (v 0) (f 0) (f 1) L → rp (v 0) (f 0) (f 1) L := fun L h => rp_fr h (by omega) rfl rfl
        refine And.intro (Exists.intro _ md_o) (Exists.intro _ (Exists.intro _ (Exists.intro _ (Exists.intro _ (And.intro (F_X11_begins D v f hv hf  ) (And.intro rfl (fun r9 A9 h9 => ?_)))))))
        obtain ⟨v5, f5, rfl, rfl, hv5, hf5, hx5, hg5_0, hg5_1, by4⟩ := h9
        have hw5 : f5 2 = f 2 := hx5.trans rfl
        have hr5_0 : f5 0 = f 0 := hg5_0.trans rfl
        have hr5_1 : f5 1 = f 1 := hg5_1.trans rfl
        have hu6 := hv5
        unfold md_V at hu6
        have sq5 : (v5 0).toInt = (v 0).toInt ∧ (v5 3).toInt = (v 3).toInt ∧ (v5 4).toInt = (v 4).toInt ∧ (v5 6).toInt = (v 6).toInt := by omega
        have sp5 := by4.2.2.2.2
        clear by4
        have hp_36 : ∀ L, rp (v 0) (f 0) (f 1) L → rp (v5 0) (f5 0) (f5 1) L := fun L h => rp_fr h (by omega) hr5_0 hr5_1
        refine And.intro (Exists.intro _ md_o) (Exists.intro _ (Exists.intro _ (Exists.intro _ (Exists.intro _ (And.intro (F_X11_laysFrom D v5 f5 hv5 hf5 (0 : Int32) x1 (by omega) (by omega) (by omega) (by omega)) (And.intro rfl (fun r9 A9 h9 => ?_)))))))
        obtain ⟨v8, f8, rfl, rfl, hv8, hf8, hx8, hg8_0, hg8_1, by7⟩ := h9
        have hw8 : f8 2 = f 2 := hx8.trans hw5
        have hr8_0 : f8 0 = f 0 := hg8_0.trans hr5_0
        have hr8_1 : f8 1 = f 1 := hg8_1.trans hr5_1
        have hu9 := hv8
        unfold md_V at hu9
        clear hu6
        have hb_36 := by7.2
        have sq8 : (v8 0).toInt = (v 0).toInt ∧ (v8 1).toInt = (v5 1).toInt ∧ (v8 3).toInt = (v 3).toInt ∧ (v8 4).toInt = (v 4).toInt ∧ (v8 6).toInt = (v 6).toInt := by omega
        have sp8 := by7.1.2.2.2.2.2
        clear by7
        have hp_41 : ∀ L, rp (v 0) (f 0) (f 1) L → rp (v8 0) (f8 0) (f8 1) L := fun L h => rp_fr h (by omega) hr8_0 hr8_1
        refine And.intro (Exists.intro _ md_o) (Exists.intro _ (Exists.intro _ (Exists.intro _ (Exists.intro _ (And.intro (F_X11_laysNew D v8 f8 hv8 hf8 x2 (by omega) (by omega) (by omega)) (And.intro rfl (fun r9 A9 h9 => ?_)))))))
        obtain ⟨v11, f11, rfl, rfl, hv11, hf11, hx11, hg11_0, hg11_1, by10⟩ := h9
        have hw11 : f11 2 = f 2 := hx11.trans hw8
        have hr11_0 : f11 0 = f 0 := hg11_0.trans hr8_0
        have hr11_1 : f11 1 = f 1 := hg11_1.trans hr8_1
        have hu12 := hv11
        unfold md_V at hu12
        clear hu9
        have hb_41 := by10.2
        have sq11 : (v11 0).toInt = (v 0).toInt ∧ (v11 1).toInt = (v5 1).toInt ∧ (v11 4).toInt = (v 4).toInt ∧ (v11 6).toInt = (v 6).toInt := by omega
        have sp11 := by10.1.2.2.2.2
        clear by10
        refine Exists.intro _ (And.intro md_o ?_)
        have hp_50 : ∀ L, rp (v 0) (f 0) (f 1) L → rp (v11 0) (f11 0) (f11 1) L := fun L h => rp_fr h (by omega) hr11_0 hr11_1
        refine And.intro (Exists.intro _ md_o) (Exists.intro _ (Exists.intro _ (Exists.intro _ (Exists.intro _ (And.intro (F_X11_laysFrom D v11 f11 hv11 hf11 x1 (v11 0) (by omega) (by omega) (by omega) (by omega)) (And.intro rfl (fun r9 A9 h9 => ?_)))))))
        obtain ⟨v14, f14, rfl, rfl, hv14, hf14, hx14, hg14_0, hg14_1, by13⟩ := h9
        have hw14 : f14 2 = f 2 := hx14.trans hw11
        have hr14_0 : f14 0 = f 0 := hg14_0.trans hr11_0
        have hr14_1 : f14 1 = f 1 := hg14_1.trans hr11_1
        have hu15 := hv14
        unfold md_V at hu15
        clear hu12
        have hb_50 := by13.2
        have sq14 : (v14 0).toInt = (v 0).toInt ∧ (v14 1).toInt = (v5 1).toInt ∧ (v14 3).toInt = (v11 3).toInt ∧ (v14 4).toInt = (v 4).toInt ∧ (v14 6).toInt = (v 6).toInt := by omega
        have sp14 := by13.1.2.2.2.2.2
        clear by13
        have hp_54 : ∀ L, rp (v 0) (f 0) (f 1) L → rp (v14 0) (f14 0) (f14 1) L := fun L h => rp_fr h (by omega) hr14_0 hr14_1
        refine And.intro (Exists.intro _ md_o) (Exists.intro _ (Exists.intro _ (Exists.intro _ (Exists.intro _ (And.intro (F_X11_ends D v14 f14 hv14 hf14  (by omega)) (And.intro rfl (fun r9 A9 h9 => ?_)))))))
        obtain ⟨y16, v17, f17, rfl, rfl, hv17, hf17, hx17, by16⟩ := h9
        have hw17 : f17 2 = f 2 := hx17.trans hw14
        have hu18 := hv17
        unfold md_V at hu18
        clear hu15
        have hb_54 := by16.2
        have sq17 : (v17 1).toInt = (v5 1).toInt ∧ (v17 2).toInt = (v14 2).toInt ∧ (v17 3).toInt = (v11 3).toInt ∧ (v17 6).toInt = (v 6).toInt := by omega
        have sp17 := by16.1.2.2.2.2
        clear by16
        exact ⟨rfl, fun e9 => absurd e9 (by decide), rfl, y16, v17, f17, rfl, rfl, hv17, hf17, hw17, by first | omega | (dsimp only; omega) | trivial, by intro L hL; have hl := hL.1; rw [ed_insert, if_pos (by omega)]; have t1 := hb_36 L [] (0) (x1.toInt) (hp_36 L hL) (by omega) (by omega) (by omega) (by omega) (rp_0 (by omega)); have t2 := hb_41 _ (v 3) (by omega) t1; have t3 := hb_50 L _ (x1.toInt) (L.length) (hp_50 L hL) (by omega) (by omega) (by omega) (by omega) t2; rw [List.nil_append] at t3; exact ⟨hb_54 _ t3, by show _ = _ + (1 : Int); omega, by show _ = _ + (1 : Int) * _; omega⟩⟩
      · skip
        refine And.intro (fun c9 => absurd c9 (by decide)) (fun _ => ?_)
        refine hC.1 1 27 _ _ rfl _ _ _ _ _ ?_
        have km1 : (-1 : Int32).toInt = -1 := rfl
        exact ⟨rfl, fun e9 => absurd e9 (by decide), rfl, (-1 : Int32), v, f, rfl, rfl, hv, hf, rfl, by first | omega | (dsimp only; omega) | trivial, by intro L hL; have hl := hL.1; rw [ed_insert, if_neg (by omega)]; exact ⟨hL, by show _ = _ + (0 : Int); omega, by show _ = _ + (0 : Int) * _; omega⟩⟩
    · skip
      refine And.intro (fun _ => ?_) (fun c9 => absurd c9 (by decide))
      refine hC.1 1 27 _ _ rfl _ _ _ _ _ ?_
      have km1 : (-1 : Int32).toInt = -1 := rfl
      exact ⟨rfl, fun e9 => absurd e9 (by decide), rfl, (-1 : Int32), v, f, rfl, rfl, hv, hf, rfl, by first | omega | (dsimp only; omega) | trivial, by intro L hL; have hl := hL.1; rw [ed_insert, if_neg (by omega)]; exact ⟨hL, by show _ = _ + (0 : Int); omega, by show _ = _ + (0 : Int) * _; omega⟩⟩
  · skip
    refine And.intro (fun _ => ?_) (fun c9 => absurd c9 (by decide))
    refine hC.1 1 27 _ _ rfl _ _ _ _ _ ?_
    have km1 : (-1 : Int32).toInt = -1 := rfl
    exact ⟨rfl, fun e9 => absurd e9 (by decide), rfl, (-1 : Int32), v, f, rfl, rfl, hv, hf, rfl, by first | omega | (dsimp only; omega) | trivial, by intro L hL; have hl := hL.1; rw [ed_insert, if_neg (by omega)]; exact ⟨hL, by show _ = _ + (0 : Int); omega, by show _ = _ + (0 : Int) * _; omega⟩⟩

end
