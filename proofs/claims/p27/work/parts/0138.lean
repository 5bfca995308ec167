section
variable {l : Launch} {g : pm_G} {A0 : pm_H} {h : Nat} {q : Nat → Nat}
set_option maxRecDepth 100000 in
set_option maxHeartbeats 2000000 in
theorem c_X11_hasRoom (D : md_D h q) (v : Nat → Int32) (f : Nat → Nat → Int32) (hv : md_V v) (hf : md_F f) (x1 : Int32) (p0 : -1000000 ≤ x1.toInt ∧ x1.toInt ≤ 1000000) : pm_Mt l g 184 0 0 0 [.ref h, .int x1] (md A0 g h q v f) (md_Qp (md A0 g h q v f) (fun r => (r = 1 ∧ ((v 0).toInt + x1.toInt ≤ 160 ∧ (v 3).toInt + x1.toInt ≤ 10000)) ∨ (r = 0 ∧ (¬ ((v 0).toInt + x1.toInt ≤ 160 ∧ (v 3).toInt + x1.toInt ≤ 10000))))) := by
  refine mt_X11_hasRoom rfl (fun J hC => ?_)
  have hv9 := hv
  unfold md_V at hv9
  have rg_x1 := pm_rng x1
  refine hC.1 0 0 _ _ rfl _ _ _ _ _ ?_
  refine Exists.intro _ (And.intro md_o ?_)
  intro m1 em_5
  try have e1 : m1.toInt = ((v 0)).toInt + (x1).toInt := by rw [em_5]; exact pm_add _ _ (by omega) (by omega)
  have k160 : (160 : Int32).toInt = 160 := rfl
  refine And.intro (fun c2 => ?_) (fun c2 => ?_)
  · skip
    refine hC.1 1 28 _ _ rfl _ _ _ _ _ ?_
    have k0 : (0 : Int32).toInt = 0 := rfl
    refine hC.1 2 29 _ _ rfl _ _ _ _ _ ?_
    exact ⟨rfl, fun _ => (by decide), rfl, (0 : Int32), rfl, rfl, Or.inr ⟨rfl, by first | omega | (dsimp only; omega) | trivial⟩⟩
  · skip
    refine Exists.intro _ (And.intro md_o ?_)
    intro m3 em_17
    try have e3 : m3.toInt = ((v 3)).toInt + (x1).toInt := by rw [em_17]; exact pm_add _ _ (by omega) (by omega)
    have k10000 : (10000 : Int32).toInt = 10000 := rfl
    refine And.intro (fun c4 => ?_) (fun c4 => ?_)
    · skip
      refine hC.1 1 28 _ _ rfl _ _ _ _ _ ?_
      have k0 : (0 : Int32).toInt = 0 := rfl
      refine hC.1 2 29 _ _ rfl _ _ _ _ _ ?_
      exact ⟨rfl, fun _ => (by decide), rfl, (0 : Int32), rfl, rfl, Or.inr ⟨rfl, by first | omega | (dsimp only; omega) | trivial⟩⟩
    · skip
      have k1 : (1 : Int32).toInt = 1 := rfl
      refine hC.1 2 29 _ _ rfl _ _ _ _ _ ?_
      exact ⟨rfl, fun _ => (by decide), rfl, (1 : Int32), rfl, rfl, Or.inl ⟨rfl, by first | omega | (dsimp only; omega) | trivial⟩⟩

set_option maxRecDepth 100000 in
set_option maxHeartbeats 2000000 in
theorem c_X11_reportKey (D : md_D h q) (v : Nat → Int32) (f : Nat → Nat → Int32) (hv : md_V v) (hf : md_F f) (x1 : Int32) (p0 : 0 ≤ x1.toInt ∧ x1.toInt < 160) : pm_Mt l g 219 1 0 0 [.ref h, .int x1] (md A0 g h q v f) (md_Qp (md A0 g h q v f) (fun r => True)) := by
  refine mt_X11_reportKey rfl (fun J hC => ?_)
  have hv9 := hv
  unfold md_V at hv9
  have rg_x1 := pm_rng x1
  refine hC.1 0 0 _ _ rfl _ _ _ _ _ ?_
  refine And.intro (Exists.intro _ md_o) (Exists.intro _ (Exists.intro _ (Exists.intro _ (Exists.intro _ (And.intro (c_X11_ahead D v f hv hf x1 (by omega)) (And.intro rfl (fun r9 A9 h9 => ?_)))))))
  obtain ⟨y1, rfl, rfl, by1⟩ := h9
  refine And.intro (fun c2 => ?_) (fun c2 => ?_)
  · skip
    refine hC.1 1 16 _ _ rfl _ _ _ _ _ ?_
    refine And.intro (Exists.intro _ md_o) (Exists.intro _ (Exists.intro _ (Exists.intro _ (Exists.intro _ (And.intro (c_X11_ahead D v f hv hf x1 (by omega)) (And.intro rfl (fun r9 A9 h9 => ?_)))))))
    obtain ⟨y3, rfl, rfl, by3⟩ := h9
    refine hC.1 2 21 _ _ rfl _ _ _ _ _ ?_
    exact ⟨rfl, fun e9 => absurd e9 (by decide), rfl, y3, rfl, rfl, by exact True.intro⟩
  · skip
    have k160 : (160 : Int32).toInt = 160 := rfl
    intro m4 em_12
    try have e4 : m4.toInt = (x1).toInt - (160) := by rw [em_12]; exact pm_subc _ _ (160) rfl (by omega) (by omega)
    refine hC.1 2 21 _ _ rfl _ _ _ _ _ ?_
    exact ⟨rfl, fun e9 => absurd e9 (by decide), rfl, m4, rfl, rfl, by exact True.intro⟩

end
