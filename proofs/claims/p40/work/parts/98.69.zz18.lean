section
variable {l : Launch} {g : pm_G} {A0 : pm_H} {h : Nat} {q : Nat → Nat}
set_option maxRecDepth 100000 in
set_option maxHeartbeats 2000000 in
theorem V_X11_about (D : md_D h q) (v : Nat → Int32) (f : Nat → Nat → Int32) (hv : md_V v) (hf : md_F f) (x1 : Int32)  : pm_Mt l g 205 1 0 0 [.ref h, .int x1] (md A0 g h q v f) (md_Qp (md A0 g h q v f) (fun r => r.toInt = ABT (v 0) (v 3) (v 4) (v 5) (v 6) (f 0) x1.toInt)) := by
  refine mt_X11_about rfl (fun J hC => ?_)
  have hv9 := hv
  unfold md_V at hv9
  have rg_x1 := pm_rng x1
  refine hC.1 0 0 _ _ rfl _ _ _ _ _ ?_
  refine pm_swc 6 rfl (by decide) ?_ ?_
  · intro _
    refine hC.1 7 80 _ _ rfl _ _ _ _ _ ?_
    have km1 : (-1 : Int32).toInt = -1 := rfl
    exact ⟨rfl, fun e9 => absurd e9 (by decide), rfl, (-1 : Int32), rfl, rfl, by first | (exact (ABT_0 (by omega)).symm) | (rw [ABT_1 (by omega)]; refine yb_9.trans ?_; rw [ys_9, set_24 (fun j9 => hf 0 j9)]; unfold sS; congr 3 <;> omega) | (exact (ABT_2 (by omega)).symm) | (exact (ABT_3 (by omega)).symm) | (exact (ABT_4 (by omega)).symm) | (exact (ABT_5 (by omega)).symm) | (exact (ABT_d (by omega)).symm)⟩
  · intro i9 hi9 he9
    rcases (show i9 = 0 ∨ i9 = 1 ∨ i9 = 2 ∨ i9 = 3 ∨ i9 = 4 ∨ i9 = 5 by omega) with rfl | rfl | rfl | rfl | rfl | rfl
    · skip
      refine hC.1 1 40 _ _ rfl _ _ _ _ _ ?_
      refine Exists.intro _ (And.intro md_o ?_)
      exact ⟨rfl, fun e9 => absurd e9 (by decide), rfl, (v 0), rfl, rfl, by first | (exact (ABT_0 (by omega)).symm) | (rw [ABT_1 (by omega)]; refine yb_9.trans ?_; rw [ys_9, set_24 (fun j9 => hf 0 j9)]; unfold sS; congr 3 <;> omega) | (exact (ABT_2 (by omega)).symm) | (exact (ABT_3 (by omega)).symm) | (exact (ABT_4 (by omega)).symm) | (exact (ABT_5 (by omega)).symm) | (exact (ABT_d (by omega)).symm)⟩
    · skip
      refine hC.1 2 45 _ _ rfl _ _ _ _ _ ?_
      have k0 : (0 : Int32).toInt = 0 := rfl
      refine Exists.intro _ (And.intro md_o ?_)
      have k1 : (1 : Int32).toInt = 1 := rfl
      intro m3 em_52
      try have e3 : m3.toInt = ((v 0)).toInt - (1) := by rw [em_52]; exact pm_subc _ _ (1) rfl (by omega) (by omega)
      refine And.intro (Exists.intro _ md_o) (Exists.intro _ (Exists.intro _ (Exists.intro _ (Exists.intro _ (And.intro (c_X11_setOf D v f hv hf (0 : Int32) m3 (by omega) (by omega)) (And.intro rfl (fun r9 A9 h9 => ?_)))))))
      obtain ⟨y4, rfl, rfl, by4⟩ := h9
      have ys_9 := by4
      refine Exists.intro _ (Exists.intro _ (Exists.intro _ (Exists.intro _ (And.intro (F_X11_bits (md A0 g h q v f) y4 ) (And.intro rfl (fun r9 A9 h9 => ?_))))))
      obtain ⟨y5, rfl, rfl, by5⟩ := h9
      have yb_9 := by5
      exact ⟨rfl, fun e9 => absurd e9 (by decide), rfl, y5, rfl, rfl, by first | (exact (ABT_0 (by omega)).symm) | (rw [ABT_1 (by omega)]; refine yb_9.trans ?_; rw [ys_9, set_24 (fun j9 => hf 0 j9)]; unfold sS; congr 3 <;> omega) | (exact (ABT_2 (by omega)).symm) | (exact (ABT_3 (by omega)).symm) | (exact (ABT_4 (by omega)).symm) | (exact (ABT_5 (by omega)).symm) | (exact (ABT_d (by omega)).symm)⟩
    · skip
      refine hC.1 3 60 _ _ rfl _ _ _ _ _ ?_
      refine Exists.intro _ (And.intro md_o ?_)
      exact ⟨rfl, fun e9 => absurd e9 (by decide), rfl, (v 3), rfl, rfl, by first | (exact (ABT_0 (by omega)).symm) | (rw [ABT_1 (by omega)]; refine yb_9.trans ?_; rw [ys_9, set_24 (fun j9 => hf 0 j9)]; unfold sS; congr 3 <;> omega) | (exact (ABT_2 (by omega)).symm) | (exact (ABT_3 (by omega)).symm) | (exact (ABT_4 (by omega)).symm) | (exact (ABT_5 (by omega)).symm) | (exact (ABT_d (by omega)).symm)⟩
    · skip
      refine hC.1 4 65 _ _ rfl _ _ _ _ _ ?_
      refine Exists.intro _ (And.intro md_o ?_)
      exact ⟨rfl, fun e9 => absurd e9 (by decide), rfl, (v 4), rfl, rfl, by first | (exact (ABT_0 (by omega)).symm) | (rw [ABT_1 (by omega)]; refine yb_9.trans ?_; rw [ys_9, set_24 (fun j9 => hf 0 j9)]; unfold sS; congr 3 <;> omega) | (exact (ABT_2 (by omega)).symm) | (exact (ABT_3 (by omega)).symm) | (exact (ABT_4 (by omega)).symm) | (exact (ABT_5 (by omega)).symm) | (exact (ABT_d (by omega)).symm)⟩
    · skip
      refine hC.1 5 70 _ _ rfl _ _ _ _ _ ?_
      refine Exists.intro _ (And.intro md_o ?_)
      exact ⟨rfl, fun e9 => absurd e9 (by decide), rfl, (v 5), rfl, rfl, by first | (exact (ABT_0 (by omega)).symm) | (rw [ABT_1 (by omega)]; refine yb_9.trans ?_; rw [ys_9, set_24 (fun j9 => hf 0 j9)]; unfold sS; congr 3 <;> omega) | (exact (ABT_2 (by omega)).symm) | (exact (ABT_3 (by omega)).symm) | (exact (ABT_4 (by omega)).symm) | (exact (ABT_5 (by omega)).symm) | (exact (ABT_d (by omega)).symm)⟩
    · skip
      refine hC.1 6 75 _ _ rfl _ _ _ _ _ ?_
      refine Exists.intro _ (And.intro md_o ?_)
      exact ⟨rfl, fun e9 => absurd e9 (by decide), rfl, (v 6), rfl, rfl, by first | (exact (ABT_0 (by omega)).symm) | (rw [ABT_1 (by omega)]; refine yb_9.trans ?_; rw [ys_9, set_24 (fun j9 => hf 0 j9)]; unfold sS; congr 3 <;> omega) | (exact (ABT_2 (by omega)).symm) | (exact (ABT_3 (by omega)).symm) | (exact (ABT_4 (by omega)).symm) | (exact (ABT_5 (by omega)).symm) | (exact (ABT_d (by omega)).symm)⟩

end
