section
variable {l : Launch} {g : pm_G} {A0 : pm_H} {h : Nat} {q : Nat → Nat}
set_option maxRecDepth 100000 in
set_option maxHeartbeats 2000000 in
theorem V_X11_setBy (D : md_D h q) (v : Nat → Int32) (f : Nat → Nat → Int32) (hv : md_V v) (hf : md_F f) (x1 : Int32) (x2 : Int32) (x3 : Int32) (p0 : x1.toInt = -1 ∨ 0 ≤ x1.toInt) (p1 : 0 ≤ x2.toInt ∧ x2.toInt ≤ 160) (p2 : -1 ≤ x3.toInt ∧ x3.toInt < 160) : pm_Mt l g 280 2 0 0 [.ref h, .int x1, .int x2, .int x3] (md A0 g h q v f) (md_Qp (md A0 g h q v f) (fun r => (x1.toInt = -1 → r = sS (f 0) x2.toInt x3.toInt) ∧ (¬ x1.toInt = -1 → r = sS (rC f x1.toInt) x2.toInt x3.toInt))) := by
  refine mt_X11_setBy rfl (fun J hC => ?_)
  have hv9 := hv
  unfold md_V at hv9
  have rg_x1 := pm_rng x1
  have rg_x2 := pm_rng x2
  have rg_x3 := pm_rng x3
  refine hC.1 0 0 _ _ rfl _ _ _ _ _ ?_
  have km1 : (-1 : Int32).toInt = -1 := rfl
  refine And.intro (fun c1 => ?_) (fun c1 => ?_)
  · skip
    have dc1 := pm_neI c1
    refine hC.1 1 14 _ _ rfl _ _ _ _ _ ?_
    refine And.intro (Exists.intro _ md_o) (Exists.intro _ (Exists.intro _ (Exists.intro _ (Exists.intro _ (And.intro (F_X11_wasSet D v f hv hf x1 x2 x3 (by omega) (by omega) (by omega)) (And.intro rfl (fun r9 A9 h9 => ?_)))))))
    obtain ⟨y2, rfl, rfl, by2⟩ := h9
    have yq_9 := by2
    refine hC.1 2 21 _ _ rfl _ _ _ _ _ ?_
    exact ⟨rfl, fun e9 => absurd e9 (by decide), rfl, y2, rfl, rfl, by first | (exact ⟨fun _ => yp_9, fun h9 => absurd (by omega) h9⟩) | (exact ⟨fun h9 => absurd h9 (by omega), fun _ => yq_9⟩)⟩
  · skip
    have dc1 : (x1).toInt = ((-1 : Int32) : Int32).toInt := congrArg Int32.toInt c1
    refine And.intro (Exists.intro _ md_o) (Exists.intro _ (Exists.intro _ (Exists.intro _ (Exists.intro _ (And.intro (c_X11_setOf D v f hv hf x2 x3 (by omega) (by omega)) (And.intro rfl (fun r9 A9 h9 => ?_)))))))
    obtain ⟨y3, rfl, rfl, by3⟩ := h9
    have yp_9 := by3
    refine hC.1 2 21 _ _ rfl _ _ _ _ _ ?_
    exact ⟨rfl, fun e9 => absurd e9 (by decide), rfl, y3, rfl, rfl, by first | (exact ⟨fun _ => yp_9, fun h9 => absurd (by omega) h9⟩) | (exact ⟨fun h9 => absurd h9 (by omega), fun _ => yq_9⟩)⟩

end
