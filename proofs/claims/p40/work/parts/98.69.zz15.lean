section
variable {l : Launch} {g : pm_G} {A0 : pm_H} {h : Nat} {q : Nat → Nat}
set_option maxRecDepth 100000 in
set_option maxHeartbeats 2000000 in
theorem V_X11_ask (D : md_D h q) (v : Nat → Int32) (f : Nat → Nat → Int32) (hv : md_V v) (hf : md_F f) (x1 : Int32) (x2 : Int32)  : pm_Mt l g 275 2 0 0 [.ref h, .int x1, .int x2] (md A0 g h q v f) (md_Qw A0 g h q f (fun r v2 f2 => f2 0 = f 0 ∧ f2 1 = f 1 ∧ f2 12 = f 12 ∧ f2 13 = f 13 ∧ f2 14 = f 14 ∧ f2 15 = f 15 ∧ ((v2 0).toInt = (v 0).toInt ∧ (v2 1).toInt = (v 1).toInt ∧ (v2 2).toInt = (v 2).toInt ∧ (v2 3).toInt = (v 3).toInt ∧ (v2 4).toInt = (v 4).toInt ∧ (v2 5).toInt = (v 5).toInt) ∧ (QST ((v 6).toInt < 30 ∧ (0 ≤ x1.toInt ∧ 0 ≤ nextEq (f 1) x1 0 (v 0).toInt.toNat) ∧ (0 ≤ x2.toInt ∧ 0 ≤ nextEq (f 1) x2 0 (v 0).toInt.toNat)) (-1) x1 x2 (v 6) (v2 6) r (f 7) (f 8) (f 9) (f 10) (f 11) (f2 7) (f2 8) (f2 9) (f2 10) (f2 11)))) := by
  refine mt_X11_ask rfl (fun J hC => ?_)
  have hv9 := hv
  unfold md_V at hv9
  have rg_x1 := pm_rng x1
  have rg_x2 := pm_rng x2
  refine hC.1 0 0 _ _ rfl _ _ _ _ _ ?_
  refine Exists.intro _ (And.intro md_o ?_)
  have k30 : (30 : Int32).toInt = 30 := rfl
  refine And.intro (fun c1 => ?_) (fun c1 => ?_)
  · skip
    refine hC.1 1 35 _ _ rfl _ _ _ _ _ ?_
    have km1 : (-1 : Int32).toInt = -1 := rfl
    refine hC.1 2 36 _ _ rfl _ _ _ _ _ ?_
    exact ⟨rfl, fun e9 => absurd e9 (by decide), rfl, (-1 : Int32), v, f, rfl, rfl, hv, hf, rfl, rfl, rfl, rfl, rfl, rfl, rfl, by first | omega | (dsimp only; omega) | trivial, by first | (exact QST_i yf_9 ⟨fun _ => (by omega), fun _ => trivial⟩) | (exact Or.inl ⟨fun h9 => (by omega), rfl, rfl, rfl, rfl, rfl, rfl, rfl⟩)⟩
  · skip
    refine And.intro (Exists.intro _ md_o) (Exists.intro _ (Exists.intro _ (Exists.intro _ (Exists.intro _ (And.intro (F_X11_place D v f hv hf x1 ) (And.intro rfl (fun r9 A9 h9 => ?_)))))))
    obtain ⟨y2, rfl, rfl, by2⟩ := h9
    have ya_9 := PLN (by omega) by2.2
    refine And.intro (fun c3 => ?_) (fun c3 => ?_)
    · skip
      refine hC.1 1 35 _ _ rfl _ _ _ _ _ ?_
      have km1 : (-1 : Int32).toInt = -1 := rfl
      refine hC.1 2 36 _ _ rfl _ _ _ _ _ ?_
      exact ⟨rfl, fun e9 => absurd e9 (by decide), rfl, (-1 : Int32), v, f, rfl, rfl, hv, hf, rfl, rfl, rfl, rfl, rfl, rfl, rfl, by first | omega | (dsimp only; omega) | trivial, by first | (exact QST_i yf_9 ⟨fun _ => (by omega), fun _ => trivial⟩) | (exact Or.inl ⟨fun h9 => (by omega), rfl, rfl, rfl, rfl, rfl, rfl, rfl⟩)⟩
    · skip
      refine And.intro (Exists.intro _ md_o) (Exists.intro _ (Exists.intro _ (Exists.intro _ (Exists.intro _ (And.intro (F_X11_place D v f hv hf x2 ) (And.intro rfl (fun r9 A9 h9 => ?_)))))))
      obtain ⟨y4, rfl, rfl, by4⟩ := h9
      have yb_9 := PLN (by omega) by4.2
      refine And.intro (fun c5 => ?_) (fun c5 => ?_)
      · skip
        refine hC.1 1 35 _ _ rfl _ _ _ _ _ ?_
        have km1 : (-1 : Int32).toInt = -1 := rfl
        refine hC.1 2 36 _ _ rfl _ _ _ _ _ ?_
        exact ⟨rfl, fun e9 => absurd e9 (by decide), rfl, (-1 : Int32), v, f, rfl, rfl, hv, hf, rfl, rfl, rfl, rfl, rfl, rfl, rfl, by first | omega | (dsimp only; omega) | trivial, by first | (exact QST_i yf_9 ⟨fun _ => (by omega), fun _ => trivial⟩) | (exact Or.inl ⟨fun h9 => (by omega), rfl, rfl, rfl, rfl, rfl, rfl, rfl⟩)⟩
      · skip
        have km1 : (-1 : Int32).toInt = -1 := rfl
        refine And.intro (Exists.intro _ md_o) (Exists.intro _ (Exists.intro _ (Exists.intro _ (Exists.intro _ (And.intro (V_X11_asks D v f hv hf (-1 : Int32) x1 x2 (by omega)) (And.intro rfl (fun r9 A9 h9 => ?_)))))))
        obtain ⟨y6, v7, f7, rfl, rfl, hv7, hf7, hx7, hg7_0, hg7_1, hg7_12, hg7_13, hg7_14, hg7_15, by6⟩ := h9
        have hw7 : f7 2 = f 2 := hx7.trans rfl
        have hr7_0 : f7 0 = f 0 := hg7_0.trans rfl
        have hr7_1 : f7 1 = f 1 := hg7_1.trans rfl
        have hr7_12 : f7 12 = f 12 := hg7_12.trans rfl
        have hr7_13 : f7 13 = f 13 := hg7_13.trans rfl
        have hr7_14 : f7 14 = f 14 := hg7_14.trans rfl
        have hr7_15 : f7 15 = f 15 := hg7_15.trans rfl
        have hu8 := hv7
        unfold md_V at hu8
        have yf_9 := by6.2
        refine hC.1 2 36 _ _ rfl _ _ _ _ _ ?_
        exact ⟨rfl, fun e9 => absurd e9 (by decide), rfl, y6, v7, f7, rfl, rfl, hv7, hf7, hw7, hr7_0, hr7_1, hr7_12, hr7_13, hr7_14, hr7_15, by first | omega | (dsimp only; omega) | trivial, by first | (exact QST_i yf_9 ⟨fun _ => (by omega), fun _ => trivial⟩) | (exact Or.inl ⟨fun h9 => (by omega), rfl, rfl, rfl, rfl, rfl, rfl, rfl⟩)⟩

end
