section
variable {l : Launch} {g : pm_G} {A0 : pm_H} {h : Nat} {q : Nat → Nat}
set_option maxRecDepth 100000 in
set_option maxHeartbeats 2000000 in
theorem V_X11_placeBy (D : md_D h q) (v : Nat → Int32) (f : Nat → Nat → Int32) (hv : md_V v) (hf : md_F f) (x1 : Int32) (x2 : Int32)  : pm_Mt l g 279 2 0 0 [.ref h, .int x1, .int x2] (md A0 g h q v f) (md_Qp (md A0 g h q v f) (fun r => (-1 ≤ r.toInt ∧ r.toInt < 160 ∧ (0 ≤ r.toInt → x1.toInt = -1 ∨ 0 ≤ x1.toInt)) ∧ PBR (v 0).toInt (f 1) (v 4).toInt (rNi f) (rM f) x1 x2 r.toInt)) := by
  refine mt_X11_placeBy rfl (fun J hC => ?_)
  have hv9 := hv
  unfold md_V at hv9
  have rg_x1 := pm_rng x1
  have rg_x2 := pm_rng x2
  have rb9 : 0 ≤ (rN f x1.toInt).toInt ∧ (rN f x1.toInt).toInt ≤ 160 := hf 14 _
  refine hC.1 0 0 _ _ rfl _ _ _ _ _ ?_
  have km1 : (-1 : Int32).toInt = -1 := rfl
  refine And.intro (fun c1 => ?_) (fun c1 => ?_)
  · skip
    have dc1 := pm_neI c1
    refine hC.1 1 13 _ _ rfl _ _ _ _ _ ?_
    refine And.intro (Exists.intro _ md_o) (Exists.intro _ (Exists.intro _ (Exists.intro _ (Exists.intro _ (And.intro (c_X11_isKnown D v f hv hf x1 ) (And.intro rfl (fun r9 A9 h9 => ?_)))))))
    rcases h9 with ⟨y2, rfl, rfl, ⟨rfl, by2⟩ | ⟨rfl, by2⟩⟩
    · skip
      have k1 : (1 : Int32).toInt = 1 := rfl
      refine And.intro (fun c9 => absurd c9 (by decide)) (fun _ => ?_)
      refine And.intro (Exists.intro _ md_o) (Exists.intro _ (Exists.intro _ (Exists.intro _ (Exists.intro _ (And.intro (F_X11_wasPlace D v f hv hf x1 x2 (by omega)) (And.intro rfl (fun r9 A9 h9 => ?_)))))))
      obtain ⟨y3, rfl, rfl, by3⟩ := h9
      have yq_9 := by3.2
      have yq_8 := by3.1
      refine hC.1 3 31 _ _ rfl _ _ _ _ _ ?_
      exact ⟨rfl, fun e9 => absurd e9 (by decide), rfl, y3, rfl, rfl, by first | (exact ⟨by omega, Or.inl ⟨by omega, yp_9⟩⟩) | (exact ⟨by omega, Or.inr (Or.inl ⟨by omega, by unfold kno; omega, yq_9⟩)⟩) | (exact ⟨by omega, Or.inr (Or.inr ⟨by omega, by unfold kno; omega, rfl⟩)⟩)⟩
    · skip
      have k0 : (0 : Int32).toInt = 0 := rfl
      refine And.intro (fun _ => ?_) (fun c9 => absurd c9 (by decide))
      refine hC.1 2 30 _ _ rfl _ _ _ _ _ ?_
      refine hC.1 3 31 _ _ rfl _ _ _ _ _ ?_
      exact ⟨rfl, fun e9 => absurd e9 (by decide), rfl, (-1 : Int32), rfl, rfl, by first | (exact ⟨by omega, Or.inl ⟨by omega, yp_9⟩⟩) | (exact ⟨by omega, Or.inr (Or.inl ⟨by omega, by unfold kno; omega, yq_9⟩)⟩) | (exact ⟨by omega, Or.inr (Or.inr ⟨by omega, by unfold kno; omega, rfl⟩)⟩)⟩
  · skip
    have dc1 : (x1).toInt = ((-1 : Int32) : Int32).toInt := congrArg Int32.toInt c1
    refine And.intro (Exists.intro _ md_o) (Exists.intro _ (Exists.intro _ (Exists.intro _ (Exists.intro _ (And.intro (F_X11_placeOf D v f hv hf x2 ) (And.intro rfl (fun r9 A9 h9 => ?_)))))))
    obtain ⟨y4, rfl, rfl, by4⟩ := h9
    have yp_9 := FST_n (by omega) by4.2
    have yp_8 := by4.1
    refine hC.1 3 31 _ _ rfl _ _ _ _ _ ?_
    exact ⟨rfl, fun e9 => absurd e9 (by decide), rfl, y4, rfl, rfl, by first | (exact ⟨by omega, Or.inl ⟨by omega, yp_9⟩⟩) | (exact ⟨by omega, Or.inr (Or.inl ⟨by omega, by unfold kno; omega, yq_9⟩)⟩) | (exact ⟨by omega, Or.inr (Or.inr ⟨by omega, by unfold kno; omega, rfl⟩)⟩)⟩

end
