section
variable {l : Launch} {g : pm_G} {A0 : pm_H} {h : Nat} {q : Nat → Nat}
set_option maxRecDepth 100000 in
set_option maxHeartbeats 2000000 in
theorem V_X11_askOf (D : md_D h q) (v : Nat → Int32) (f : Nat → Nat → Int32) (hv : md_V v) (hf : md_F f) (x1 : Int32) (x2 : Int32) (x3 : Int32)  : pm_Mt l g 277 2 0 0 [.ref h, .int x1, .int x2, .int x3] (md A0 g h q v f) (md_Qw A0 g h q f (fun r v2 f2 => f2 0 = f 0 ∧ f2 1 = f 1 ∧ f2 12 = f 12 ∧ f2 13 = f 13 ∧ f2 14 = f 14 ∧ f2 15 = f 15 ∧ ((v2 0).toInt = (v 0).toInt ∧ (v2 1).toInt = (v 1).toInt ∧ (v2 2).toInt = (v 2).toInt ∧ (v2 3).toInt = (v 3).toInt ∧ (v2 4).toInt = (v 4).toInt ∧ (v2 5).toInt = (v 5).toInt) ∧ (QST ((v 6).toInt < 30 ∧ kno (v 4).toInt x1.toInt ∧ (0 ≤ x2.toInt ∧ 0 ≤ nextEq (rM f x1.toInt) x2 0 (rN f x1.toInt).toInt.toNat) ∧ (0 ≤ x3.toInt ∧ 0 ≤ nextEq (rM f x1.toInt) x3 0 (rN f x1.toInt).toInt.toNat)) x1 x2 x3 (v 6) (v2 6) r (f 7) (f 8) (f 9) (f 10) (f 11) (f2 7) (f2 8) (f2 9) (f2 10) (f2 11)))) := by
  refine mt_X11_askOf rfl (fun J hC => ?_)
  have hv9 := hv
  unfold md_V at hv9
  have rg_x1 := pm_rng x1
  have rg_x2 := pm_rng x2
  have rg_x3 := pm_rng x3
  have rb9 : 0 ≤ (rN f x1.toInt).toInt ∧ (rN f x1.toInt).toInt ≤ 160 := hf 14 _
  refine hC.1 0 0 _ _ rfl _ _ _ _ _ ?_
  refine Exists.intro _ (And.intro md_o ?_)
  have k30 : (30 : Int32).toInt = 30 := rfl
  refine And.intro (fun c1 => ?_) (fun c1 => ?_)
  · skip
    have dc1 : ((v 6)).toInt = ((30 : Int32) : Int32).toInt := congrArg Int32.toInt c1
    refine hC.1 1 43 _ _ rfl _ _ _ _ _ ?_
    have km1 : (-1 : Int32).toInt = -1 := rfl
    exact ⟨rfl, fun e9 => absurd e9 (by decide), rfl, (-1 : Int32), v, f, rfl, rfl, hv, hf, rfl, rfl, rfl, rfl, rfl, rfl, rfl, by first | omega | (dsimp only; omega) | trivial, by first | (exact QST_i yf_9 ⟨fun _ => ⟨by omega, by unfold kno; omega, by omega, by omega⟩, fun _ => trivial⟩) | (exact Or.inl ⟨fun h9 => (by have h8 := h9.2.1; have h7 := h9.2.2; unfold kno at h8; omega), rfl, rfl, rfl, rfl, rfl, rfl, rfl⟩)⟩
  · skip
    have dc1 := pm_neI c1
    refine And.intro (Exists.intro _ md_o) (Exists.intro _ (Exists.intro _ (Exists.intro _ (Exists.intro _ (And.intro (c_X11_isKnown D v f hv hf x1 ) (And.intro rfl (fun r9 A9 h9 => ?_)))))))
    rcases h9 with ⟨y2, rfl, rfl, ⟨rfl, by2⟩ | ⟨rfl, by2⟩⟩
    · skip
      have k1 : (1 : Int32).toInt = 1 := rfl
      refine And.intro (fun c9 => absurd c9 (by decide)) (fun _ => ?_)
      refine And.intro (fun c3 => ?_) (fun c3 => ?_)
      · skip
        refine hC.1 1 43 _ _ rfl _ _ _ _ _ ?_
        have km1 : (-1 : Int32).toInt = -1 := rfl
        exact ⟨rfl, fun e9 => absurd e9 (by decide), rfl, (-1 : Int32), v, f, rfl, rfl, hv, hf, rfl, rfl, rfl, rfl, rfl, rfl, rfl, by first | omega | (dsimp only; omega) | trivial, by first | (exact QST_i yf_9 ⟨fun _ => ⟨by omega, by unfold kno; omega, by omega, by omega⟩, fun _ => trivial⟩) | (exact Or.inl ⟨fun h9 => (by have h8 := h9.2.1; have h7 := h9.2.2; unfold kno at h8; omega), rfl, rfl, rfl, rfl, rfl, rfl, rfl⟩)⟩
      · skip
        refine And.intro (fun c4 => ?_) (fun c4 => ?_)
        · skip
          refine hC.1 1 43 _ _ rfl _ _ _ _ _ ?_
          have km1 : (-1 : Int32).toInt = -1 := rfl
          exact ⟨rfl, fun e9 => absurd e9 (by decide), rfl, (-1 : Int32), v, f, rfl, rfl, hv, hf, rfl, rfl, rfl, rfl, rfl, rfl, rfl, by first | omega | (dsimp only; omega) | trivial, by first | (exact QST_i yf_9 ⟨fun _ => ⟨by omega, by unfold kno; omega, by omega, by omega⟩, fun _ => trivial⟩) | (exact Or.inl ⟨fun h9 => (by have h8 := h9.2.1; have h7 := h9.2.2; unfold kno at h8; omega), rfl, rfl, rfl, rfl, rfl, rfl, rfl⟩)⟩
        · skip
          refine And.intro (Exists.intro _ md_o) (Exists.intro _ (Exists.intro _ (Exists.intro _ (Exists.intro _ (And.intro (F_X11_wasPlace D v f hv hf x1 x2 (by omega)) (And.intro rfl (fun r9 A9 h9 => ?_)))))))
          obtain ⟨y5, rfl, rfl, by5⟩ := h9
          have ya_9 := by5.2
          refine And.intro (fun c6 => ?_) (fun c6 => ?_)
          · skip
            refine hC.1 1 43 _ _ rfl _ _ _ _ _ ?_
            have km1 : (-1 : Int32).toInt = -1 := rfl
            exact ⟨rfl, fun e9 => absurd e9 (by decide), rfl, (-1 : Int32), v, f, rfl, rfl, hv, hf, rfl, rfl, rfl, rfl, rfl, rfl, rfl, by first | omega | (dsimp only; omega) | trivial, by first | (exact QST_i yf_9 ⟨fun _ => ⟨by omega, by unfold kno; omega, by omega, by omega⟩, fun _ => trivial⟩) | (exact Or.inl ⟨fun h9 => (by have h8 := h9.2.1; have h7 := h9.2.2; unfold kno at h8; omega), rfl, rfl, rfl, rfl, rfl, rfl, rfl⟩)⟩
          · skip
            refine And.intro (Exists.intro _ md_o) (Exists.intro _ (Exists.intro _ (Exists.intro _ (Exists.intro _ (And.intro (F_X11_wasPlace D v f hv hf x1 x3 (by omega)) (And.intro rfl (fun r9 A9 h9 => ?_)))))))
            obtain ⟨y7, rfl, rfl, by7⟩ := h9
            have yb_9 := by7.2
            refine And.intro (fun c8 => ?_) (fun c8 => ?_)
            · skip
              refine hC.1 2 45 _ _ rfl _ _ _ _ _ ?_
              refine And.intro (Exists.intro _ md_o) (Exists.intro _ (Exists.intro _ (Exists.intro _ (Exists.intro _ (And.intro (V_X11_asks D v f hv hf x1 x2 x3 (by omega)) (And.intro rfl (fun r9 A9 h9 => ?_)))))))
              obtain ⟨y9, v10, f10, rfl, rfl, hv10, hf10, hx10, hg10_0, hg10_1, hg10_12, hg10_13, hg10_14, hg10_15, by9⟩ := h9
              have hw10 : f10 2 = f 2 := hx10.trans rfl
              have hr10_0 : f10 0 = f 0 := hg10_0.trans rfl
              have hr10_1 : f10 1 = f 1 := hg10_1.trans rfl
              have hr10_12 : f10 12 = f 12 := hg10_12.trans rfl
              have hr10_13 : f10 13 = f 13 := hg10_13.trans rfl
              have hr10_14 : f10 14 = f 14 := hg10_14.trans rfl
              have hr10_15 : f10 15 = f 15 := hg10_15.trans rfl
              have hu11 := hv10
              unfold md_V at hu11
              have yf_9 := by9.2
              exact ⟨rfl, fun e9 => absurd e9 (by decide), rfl, y9, v10, f10, rfl, rfl, hv10, hf10, hw10, hr10_0, hr10_1, hr10_12, hr10_13, hr10_14, hr10_15, by first | omega | (dsimp only; omega) | trivial, by first | (exact QST_i yf_9 ⟨fun _ => ⟨by omega, by unfold kno; omega, by omega, by omega⟩, fun _ => trivial⟩) | (exact Or.inl ⟨fun h9 => (by have h8 := h9.2.1; have h7 := h9.2.2; unfold kno at h8; omega), rfl, rfl, rfl, rfl, rfl, rfl, rfl⟩)⟩
            · skip
              refine hC.1 1 43 _ _ rfl _ _ _ _ _ ?_
              have km1 : (-1 : Int32).toInt = -1 := rfl
              exact ⟨rfl, fun e9 => absurd e9 (by decide), rfl, (-1 : Int32), v, f, rfl, rfl, hv, hf, rfl, rfl, rfl, rfl, rfl, rfl, rfl, by first | omega | (dsimp only; omega) | trivial, by first | (exact QST_i yf_9 ⟨fun _ => ⟨by omega, by unfold kno; omega, by omega, by omega⟩, fun _ => trivial⟩) | (exact Or.inl ⟨fun h9 => (by have h8 := h9.2.1; have h7 := h9.2.2; unfold kno at h8; omega), rfl, rfl, rfl, rfl, rfl, rfl, rfl⟩)⟩
    · skip
      have k0 : (0 : Int32).toInt = 0 := rfl
      refine And.intro (fun _ => ?_) (fun c9 => absurd c9 (by decide))
      refine hC.1 1 43 _ _ rfl _ _ _ _ _ ?_
      have km1 : (-1 : Int32).toInt = -1 := rfl
      exact ⟨rfl, fun e9 => absurd e9 (by decide), rfl, (-1 : Int32), v, f, rfl, rfl, hv, hf, rfl, rfl, rfl, rfl, rfl, rfl, rfl, by first | omega | (dsimp only; omega) | trivial, by first | (exact QST_i yf_9 ⟨fun _ => ⟨by omega, by unfold kno; omega, by omega, by omega⟩, fun _ => trivial⟩) | (exact Or.inl ⟨fun h9 => (by have h8 := h9.2.1; have h7 := h9.2.2; unfold kno at h8; omega), rfl, rfl, rfl, rfl, rfl, rfl, rfl⟩)⟩

end
