section
variable {l : Launch} {g : pm_G} {A0 : pm_H} {h : Nat} {q : Nat → Nat}
set_option maxRecDepth 100000 in
set_option maxHeartbeats 2000000 in
theorem c_X11_at (D : md_D h q) (v : Nat → Int32) (f : Nat → Nat → Int32) (hv : md_V v) (hf : md_F f) (x1 : Int32) (x2 : Int32)  : pm_Mt l g 195 2 0 0 [.ref h, .int x1, .int x2] (md A0 g h q v f) (md_Qp (md A0 g h q v f) (fun r => True)) := by
  refine mt_X11_at rfl (fun J hC => ?_)
  have hv9 := hv
  unfold md_V at hv9
  have rg_x1 := pm_rng x1
  have rg_x2 := pm_rng x2
  have lt9 := nextEq_lt (f 0) (f 0 x1.toInt.toNat) (x1.toInt + 1).toNat ((v 0).toInt - (x1.toInt + 1)).toNat
  refine hC.1 0 0 _ _ rfl _ _ _ _ _ ?_
  refine And.intro (Exists.intro _ md_o) (Exists.intro _ (Exists.intro _ (Exists.intro _ (Exists.intro _ (And.intro (c_X11_isPlace D v f hv hf x1 ) (And.intro rfl (fun r9 A9 h9 => ?_)))))))
  rcases h9 with ⟨y1, rfl, rfl, ⟨rfl, by1⟩ | ⟨rfl, by1⟩⟩
  · skip
    have k1 : (1 : Int32).toInt = 1 := rfl
    refine And.intro (fun _ => ?_) (fun c9 => absurd c9 (by decide))
    refine hC.1 1 10 _ _ rfl _ _ _ _ _ ?_
    refine pm_swc 4 rfl (by decide) ?_ ?_
    · intro _
      refine hC.1 8 83 _ _ rfl _ _ _ _ _ ?_
      have km1 : (-1 : Int32).toInt = -1 := rfl
      exact ⟨rfl, fun e9 => absurd e9 (by decide), rfl, (-1 : Int32), rfl, rfl, by exact True.intro⟩
    · intro i9 hi9 he9
      rcases (show i9 = 0 ∨ i9 = 1 ∨ i9 = 2 ∨ i9 = 3 by omega) with rfl | rfl | rfl | rfl
      · skip
        refine hC.1 2 40 _ _ rfl _ _ _ _ _ ?_
        refine Exists.intro _ (And.intro md_o ?_)
        refine Exists.intro _ (Exists.intro _ (And.intro (Or.inl (md_a_colours D)) (And.intro (by omega) ?_)))
        have w4 : (0 : Int) ≤ (f 0 (x1).toInt.toNat).toInt ∧ (f 0 (x1).toInt.toNat).toInt ≤ (23 : Int) := hf 0 _
        exact ⟨rfl, fun e9 => absurd e9 (by decide), rfl, (f 0 (x1).toInt.toNat), rfl, rfl, by exact True.intro⟩
      · skip
        refine hC.1 3 47 _ _ rfl _ _ _ _ _ ?_
        refine Exists.intro _ (And.intro md_o ?_)
        refine Exists.intro _ (Exists.intro _ (And.intro (Or.inl (md_a_names D)) (And.intro (by omega) ?_)))
        exact ⟨rfl, fun e9 => absurd e9 (by decide), rfl, (f 1 (x1).toInt.toNat), rfl, rfl, by exact True.intro⟩
      · skip
        refine hC.1 4 54 _ _ rfl _ _ _ _ _ ?_
        refine And.intro (Exists.intro _ md_o) (Exists.intro _ (Exists.intro _ (Exists.intro _ (Exists.intro _ (And.intro (c_X11_bondOf D v f hv hf x1 (by omega)) (And.intro rfl (fun r9 A9 h9 => ?_)))))))
        obtain ⟨y5, rfl, rfl, by5⟩ := h9
        exact ⟨rfl, fun e9 => absurd e9 (by decide), rfl, y5, rfl, rfl, by exact True.intro⟩
      · skip
        refine hC.1 5 60 _ _ rfl _ _ _ _ _ ?_
        refine And.intro (Exists.intro _ md_o) (Exists.intro _ (Exists.intro _ (Exists.intro _ (Exists.intro _ (And.intro (c_X11_behind D v f hv hf x1 (by omega)) (And.intro rfl (fun r9 A9 h9 => ?_)))))))
        obtain ⟨y6, rfl, rfl, by6⟩ := h9
        refine And.intro (fun c7 => ?_) (fun c7 => ?_)
        · skip
          refine hC.1 6 72 _ _ rfl _ _ _ _ _ ?_
          refine Exists.intro _ (And.intro md_o ?_)
          refine And.intro (Exists.intro _ md_o) (Exists.intro _ (Exists.intro _ (Exists.intro _ (Exists.intro _ (And.intro (c_X11_behind D v f hv hf x1 (by omega)) (And.intro rfl (fun r9 A9 h9 => ?_)))))))
          obtain ⟨y8, rfl, rfl, by8⟩ := h9
          refine Exists.intro _ (Exists.intro _ (And.intro (Or.inl (md_a_names D)) (And.intro (by omega) ?_)))
          refine hC.1 7 82 _ _ rfl _ _ _ _ _ ?_
          exact ⟨rfl, fun e9 => absurd e9 (by decide), rfl, (f 1 (y8).toInt.toNat), rfl, rfl, by exact True.intro⟩
        · skip
          have km1 : (-1 : Int32).toInt = -1 := rfl
          refine hC.1 7 82 _ _ rfl _ _ _ _ _ ?_
          exact ⟨rfl, fun e9 => absurd e9 (by decide), rfl, (-1 : Int32), rfl, rfl, by exact True.intro⟩
  · skip
    have k0 : (0 : Int32).toInt = 0 := rfl
    refine And.intro (fun c9 => absurd c9 (by decide)) (fun _ => ?_)
    have km1 : (-1 : Int32).toInt = -1 := rfl
    exact ⟨rfl, fun e9 => absurd e9 (by decide), rfl, (-1 : Int32), rfl, rfl, by exact True.intro⟩

end
