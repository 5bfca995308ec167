section
variable {l : Launch} {g : pm_G} {A0 : pm_H} {h : Nat} {q : Nat → Nat}
set_option maxRecDepth 100000 in
set_option maxHeartbeats 2000000 in
theorem c_X11_isAhead (D : md_D h q) (v : Nat → Int32) (f : Nat → Nat → Int32) (hv : md_V v) (hf : md_F f) (x1 : Int32) (x2 : Int32) (x3 : Int32) (x4 : Int32) (x5 : Int32) (p0 : 0 ≤ x1.toInt ∧ x1.toInt ≤ 23) (p1 : 0 ≤ x2.toInt ∧ x2.toInt ≤ 23) (p2 : 0 ≤ x3.toInt ∧ x3.toInt ≤ 160) (p3 : -1 ≤ x4.toInt ∧ x4.toInt < 160) : pm_Mt l g 222 1 0 0 [.ref h, .int x1, .int x2, .int x3, .int x4, .int x5] (md A0 g h q v f) (md_Qp (md A0 g h q v f) (fun r => (r = 1 ∧ (True)) ∨ (r = 0 ∧ (True)))) := by
  refine mt_X11_isAhead rfl (fun J hC => ?_)
  have hv9 := hv
  unfold md_V at hv9
  have rg_x1 := pm_rng x1
  have rg_x2 := pm_rng x2
  have rg_x3 := pm_rng x3
  have rg_x4 := pm_rng x4
  have rg_x5 := pm_rng x5
  refine hC.1 0 0 _ _ rfl _ _ _ _ _ ?_
  have k3 : (3 : Int32).toInt = 3 := rfl
  refine And.intro (fun c1 => ?_) (fun c1 => ?_)
  · skip
    have dc1 := pm_neI c1
    refine hC.1 1 15 _ _ rfl _ _ _ _ _ ?_
    have k4 : (4 : Int32).toInt = 4 := rfl
    refine And.intro (fun c2 => ?_) (fun c2 => ?_)
    · skip
      have dc2 := pm_neI c2
      refine hC.1 2 32 _ _ rfl _ _ _ _ _ ?_
      have k0 : (0 : Int32).toInt = 0 := rfl
      refine hC.1 3 33 _ _ rfl _ _ _ _ _ ?_
      refine And.intro (fun c3 => ?_) (fun c3 => ?_)
      · skip
        have dc3 := pm_neI c3
        refine hC.1 4 50 _ _ rfl _ _ _ _ _ ?_
        refine And.intro (fun c4 => ?_) (fun c4 => ?_)
        · skip
          have dc4 := pm_neI c4
          refine hC.1 5 67 _ _ rfl _ _ _ _ _ ?_
          refine hC.1 6 68 _ _ rfl _ _ _ _ _ ?_
          refine And.intro (fun _ => ?_) (fun c9 => absurd c9 (by decide))
          refine hC.1 8 92 _ _ rfl _ _ _ _ _ ?_
          refine And.intro (fun c5 => ?_) (fun c5 => ?_)
          · skip
            refine hC.1 9 101 _ _ rfl _ _ _ _ _ ?_
            refine hC.1 10 102 _ _ rfl _ _ _ _ _ ?_
            exact ⟨rfl, fun _ => (by decide), rfl, (0 : Int32), rfl, rfl, Or.inr ⟨rfl, by first | omega | (dsimp only; omega) | trivial⟩⟩
          · skip
            have k1 : (1 : Int32).toInt = 1 := rfl
            refine hC.1 10 102 _ _ rfl _ _ _ _ _ ?_
            exact ⟨rfl, fun _ => (by decide), rfl, (1 : Int32), rfl, rfl, Or.inl ⟨rfl, by first | omega | (dsimp only; omega) | trivial⟩⟩
        · skip
          have dc4 : (x5).toInt = ((4 : Int32) : Int32).toInt := congrArg Int32.toInt c4
          refine And.intro (Exists.intro _ md_o) (Exists.intro _ (Exists.intro _ (Exists.intro _ (Exists.intro _ (And.intro (c_X11_timesIn D v f hv hf x3 x4 x2 (by omega) (by omega)) (And.intro rfl (fun r9 A9 h9 => ?_)))))))
          obtain ⟨y6, rfl, rfl, by6⟩ := h9
          refine hC.1 6 68 _ _ rfl _ _ _ _ _ ?_
          refine And.intro (fun c7 => ?_) (fun c7 => ?_)
          · skip
            have dc7 : ((0 : Int32)).toInt = (y6 : Int32).toInt := congrArg Int32.toInt c7
            refine hC.1 8 92 _ _ rfl _ _ _ _ _ ?_
            refine And.intro (fun c8 => ?_) (fun c8 => ?_)
            · skip
              refine hC.1 9 101 _ _ rfl _ _ _ _ _ ?_
              refine hC.1 10 102 _ _ rfl _ _ _ _ _ ?_
              exact ⟨rfl, fun _ => (by decide), rfl, (0 : Int32), rfl, rfl, Or.inr ⟨rfl, by first | omega | (dsimp only; omega) | trivial⟩⟩
            · skip
              have k1 : (1 : Int32).toInt = 1 := rfl
              refine hC.1 10 102 _ _ rfl _ _ _ _ _ ?_
              exact ⟨rfl, fun _ => (by decide), rfl, (1 : Int32), rfl, rfl, Or.inl ⟨rfl, by first | omega | (dsimp only; omega) | trivial⟩⟩
          · skip
            have dc7 := pm_neI c7
            refine And.intro (fun c9 => ?_) (fun c9 => ?_)
            · skip
              refine hC.1 7 88 _ _ rfl _ _ _ _ _ ?_
              refine hC.1 10 102 _ _ rfl _ _ _ _ _ ?_
              exact ⟨rfl, fun _ => (by decide), rfl, (0 : Int32), rfl, rfl, Or.inr ⟨rfl, by first | omega | (dsimp only; omega) | trivial⟩⟩
            · skip
              have k1 : (1 : Int32).toInt = 1 := rfl
              refine hC.1 10 102 _ _ rfl _ _ _ _ _ ?_
              exact ⟨rfl, fun _ => (by decide), rfl, (1 : Int32), rfl, rfl, Or.inl ⟨rfl, by first | omega | (dsimp only; omega) | trivial⟩⟩
      · skip
        have dc3 : (x5).toInt = ((3 : Int32) : Int32).toInt := congrArg Int32.toInt c3
        refine Exists.intro _ (And.intro md_o ?_)
        refine Exists.intro _ (Exists.intro _ (And.intro (Or.inl (md_a_weights D)) (And.intro (by omega) ?_)))
        refine hC.1 6 68 _ _ rfl _ _ _ _ _ ?_
        refine And.intro (fun c10 => ?_) (fun c10 => ?_)
        · skip
          have dc10 : ((0 : Int32)).toInt = ((f 2 (x2).toInt.toNat) : Int32).toInt := congrArg Int32.toInt c10
          refine hC.1 8 92 _ _ rfl _ _ _ _ _ ?_
          refine And.intro (fun c11 => ?_) (fun c11 => ?_)
          · skip
            refine hC.1 9 101 _ _ rfl _ _ _ _ _ ?_
            refine hC.1 10 102 _ _ rfl _ _ _ _ _ ?_
            exact ⟨rfl, fun _ => (by decide), rfl, (0 : Int32), rfl, rfl, Or.inr ⟨rfl, by first | omega | (dsimp only; omega) | trivial⟩⟩
          · skip
            have k1 : (1 : Int32).toInt = 1 := rfl
            refine hC.1 10 102 _ _ rfl _ _ _ _ _ ?_
            exact ⟨rfl, fun _ => (by decide), rfl, (1 : Int32), rfl, rfl, Or.inl ⟨rfl, by first | omega | (dsimp only; omega) | trivial⟩⟩
        · skip
          have dc10 := pm_neI c10
          refine And.intro (fun c12 => ?_) (fun c12 => ?_)
          · skip
            refine hC.1 7 88 _ _ rfl _ _ _ _ _ ?_
            refine hC.1 10 102 _ _ rfl _ _ _ _ _ ?_
            exact ⟨rfl, fun _ => (by decide), rfl, (0 : Int32), rfl, rfl, Or.inr ⟨rfl, by first | omega | (dsimp only; omega) | trivial⟩⟩
          · skip
            have k1 : (1 : Int32).toInt = 1 := rfl
            refine hC.1 10 102 _ _ rfl _ _ _ _ _ ?_
            exact ⟨rfl, fun _ => (by decide), rfl, (1 : Int32), rfl, rfl, Or.inl ⟨rfl, by first | omega | (dsimp only; omega) | trivial⟩⟩
    · skip
      have dc2 : (x5).toInt = ((4 : Int32) : Int32).toInt := congrArg Int32.toInt c2
      refine And.intro (Exists.intro _ md_o) (Exists.intro _ (Exists.intro _ (Exists.intro _ (Exists.intro _ (And.intro (c_X11_timesIn D v f hv hf x3 x4 x1 (by omega) (by omega)) (And.intro rfl (fun r9 A9 h9 => ?_)))))))
      obtain ⟨y13, rfl, rfl, by13⟩ := h9
      refine hC.1 3 33 _ _ rfl _ _ _ _ _ ?_
      refine And.intro (fun c14 => ?_) (fun c14 => ?_)
      · skip
        have dc14 := pm_neI c14
        refine hC.1 4 50 _ _ rfl _ _ _ _ _ ?_
        refine And.intro (fun c15 => ?_) (fun c15 => ?_)
        · skip
          have dc15 := pm_neI c15
          refine hC.1 5 67 _ _ rfl _ _ _ _ _ ?_
          have k0 : (0 : Int32).toInt = 0 := rfl
          refine hC.1 6 68 _ _ rfl _ _ _ _ _ ?_
          refine And.intro (fun c16 => ?_) (fun c16 => ?_)
          · skip
            have dc16 : (y13).toInt = ((0 : Int32) : Int32).toInt := congrArg Int32.toInt c16
            refine hC.1 8 92 _ _ rfl _ _ _ _ _ ?_
            refine And.intro (fun c17 => ?_) (fun c17 => ?_)
            · skip
              refine hC.1 9 101 _ _ rfl _ _ _ _ _ ?_
              refine hC.1 10 102 _ _ rfl _ _ _ _ _ ?_
              exact ⟨rfl, fun _ => (by decide), rfl, (0 : Int32), rfl, rfl, Or.inr ⟨rfl, by first | omega | (dsimp only; omega) | trivial⟩⟩
            · skip
              have k1 : (1 : Int32).toInt = 1 := rfl
              refine hC.1 10 102 _ _ rfl _ _ _ _ _ ?_
              exact ⟨rfl, fun _ => (by decide), rfl, (1 : Int32), rfl, rfl, Or.inl ⟨rfl, by first | omega | (dsimp only; omega) | trivial⟩⟩
          · skip
            have dc16 := pm_neI c16
            refine And.intro (fun c18 => ?_) (fun c18 => ?_)
            · skip
              refine hC.1 7 88 _ _ rfl _ _ _ _ _ ?_
              refine hC.1 10 102 _ _ rfl _ _ _ _ _ ?_
              exact ⟨rfl, fun _ => (by decide), rfl, (0 : Int32), rfl, rfl, Or.inr ⟨rfl, by first | omega | (dsimp only; omega) | trivial⟩⟩
            · skip
              have k1 : (1 : Int32).toInt = 1 := rfl
              refine hC.1 10 102 _ _ rfl _ _ _ _ _ ?_
              exact ⟨rfl, fun _ => (by decide), rfl, (1 : Int32), rfl, rfl, Or.inl ⟨rfl, by first | omega | (dsimp only; omega) | trivial⟩⟩
        · skip
          have dc15 : (x5).toInt = ((4 : Int32) : Int32).toInt := congrArg Int32.toInt c15
          refine And.intro (Exists.intro _ md_o) (Exists.intro _ (Exists.intro _ (Exists.intro _ (Exists.intro _ (And.intro (c_X11_timesIn D v f hv hf x3 x4 x2 (by omega) (by omega)) (And.intro rfl (fun r9 A9 h9 => ?_)))))))
          obtain ⟨y19, rfl, rfl, by19⟩ := h9
          refine hC.1 6 68 _ _ rfl _ _ _ _ _ ?_
          refine And.intro (fun c20 => ?_) (fun c20 => ?_)
          · skip
            have dc20 : (y13).toInt = (y19 : Int32).toInt := congrArg Int32.toInt c20
            refine hC.1 8 92 _ _ rfl _ _ _ _ _ ?_
            refine And.intro (fun c21 => ?_) (fun c21 => ?_)
            · skip
              refine hC.1 9 101 _ _ rfl _ _ _ _ _ ?_
              have k0 : (0 : Int32).toInt = 0 := rfl
              refine hC.1 10 102 _ _ rfl _ _ _ _ _ ?_
              exact ⟨rfl, fun _ => (by decide), rfl, (0 : Int32), rfl, rfl, Or.inr ⟨rfl, by first | omega | (dsimp only; omega) | trivial⟩⟩
            · skip
              have k1 : (1 : Int32).toInt = 1 := rfl
              refine hC.1 10 102 _ _ rfl _ _ _ _ _ ?_
              exact ⟨rfl, fun _ => (by decide), rfl, (1 : Int32), rfl, rfl, Or.inl ⟨rfl, by first | omega | (dsimp only; omega) | trivial⟩⟩
          · skip
            have dc20 := pm_neI c20
            refine And.intro (fun c22 => ?_) (fun c22 => ?_)
            · skip
              refine hC.1 7 88 _ _ rfl _ _ _ _ _ ?_
              have k0 : (0 : Int32).toInt = 0 := rfl
              refine hC.1 10 102 _ _ rfl _ _ _ _ _ ?_
              exact ⟨rfl, fun _ => (by decide), rfl, (0 : Int32), rfl, rfl, Or.inr ⟨rfl, by first | omega | (dsimp only; omega) | trivial⟩⟩
            · skip
              have k1 : (1 : Int32).toInt = 1 := rfl
              refine hC.1 10 102 _ _ rfl _ _ _ _ _ ?_
              exact ⟨rfl, fun _ => (by decide), rfl, (1 : Int32), rfl, rfl, Or.inl ⟨rfl, by first | omega | (dsimp only; omega) | trivial⟩⟩
      · skip
        have dc14 : (x5).toInt = ((3 : Int32) : Int32).toInt := congrArg Int32.toInt c14
        refine Exists.intro _ (And.intro md_o ?_)
        refine Exists.intro _ (Exists.intro _ (And.intro (Or.inl (md_a_weights D)) (And.intro (by omega) ?_)))
        refine hC.1 6 68 _ _ rfl _ _ _ _ _ ?_
        refine And.intro (fun c23 => ?_) (fun c23 => ?_)
        · skip
          have dc23 : (y13).toInt = ((f 2 (x2).toInt.toNat) : Int32).toInt := congrArg Int32.toInt c23
          refine hC.1 8 92 _ _ rfl _ _ _ _ _ ?_
          refine And.intro (fun c24 => ?_) (fun c24 => ?_)
          · skip
            refine hC.1 9 101 _ _ rfl _ _ _ _ _ ?_
            have k0 : (0 : Int32).toInt = 0 := rfl
            refine hC.1 10 102 _ _ rfl _ _ _ _ _ ?_
            exact ⟨rfl, fun _ => (by decide), rfl, (0 : Int32), rfl, rfl, Or.inr ⟨rfl, by first | omega | (dsimp only; omega) | trivial⟩⟩
          · skip
            have k1 : (1 : Int32).toInt = 1 := rfl
            refine hC.1 10 102 _ _ rfl _ _ _ _ _ ?_
            exact ⟨rfl, fun _ => (by decide), rfl, (1 : Int32), rfl, rfl, Or.inl ⟨rfl, by first | omega | (dsimp only; omega) | trivial⟩⟩
        · skip
          have dc23 := pm_neI c23
          refine And.intro (fun c25 => ?_) (fun c25 => ?_)
          · skip
            refine hC.1 7 88 _ _ rfl _ _ _ _ _ ?_
            have k0 : (0 : Int32).toInt = 0 := rfl
            refine hC.1 10 102 _ _ rfl _ _ _ _ _ ?_
            exact ⟨rfl, fun _ => (by decide), rfl, (0 : Int32), rfl, rfl, Or.inr ⟨rfl, by first | omega | (dsimp only; omega) | trivial⟩⟩
          · skip
            have k1 : (1 : Int32).toInt = 1 := rfl
            refine hC.1 10 102 _ _ rfl _ _ _ _ _ ?_
            exact ⟨rfl, fun _ => (by decide), rfl, (1 : Int32), rfl, rfl, Or.inl ⟨rfl, by first | omega | (dsimp only; omega) | trivial⟩⟩
  · skip
    have dc1 : (x5).toInt = ((3 : Int32) : Int32).toInt := congrArg Int32.toInt c1
    refine Exists.intro _ (And.intro md_o ?_)
    refine Exists.intro _ (Exists.intro _ (And.intro (Or.inl (md_a_weights D)) (And.intro (by omega) ?_)))
    refine hC.1 3 33 _ _ rfl _ _ _ _ _ ?_
    refine And.intro (fun c26 => ?_) (fun c26 => ?_)
    · skip
      have dc26 := pm_neI c26
      refine hC.1 4 50 _ _ rfl _ _ _ _ _ ?_
      have k4 : (4 : Int32).toInt = 4 := rfl
      refine And.intro (fun c27 => ?_) (fun c27 => ?_)
      · skip
        have dc27 := pm_neI c27
        refine hC.1 5 67 _ _ rfl _ _ _ _ _ ?_
        have k0 : (0 : Int32).toInt = 0 := rfl
        refine hC.1 6 68 _ _ rfl _ _ _ _ _ ?_
        refine And.intro (fun c28 => ?_) (fun c28 => ?_)
        · skip
          have dc28 : ((f 2 (x1).toInt.toNat)).toInt = ((0 : Int32) : Int32).toInt := congrArg Int32.toInt c28
          refine hC.1 8 92 _ _ rfl _ _ _ _ _ ?_
          refine And.intro (fun c29 => ?_) (fun c29 => ?_)
          · skip
            refine hC.1 9 101 _ _ rfl _ _ _ _ _ ?_
            refine hC.1 10 102 _ _ rfl _ _ _ _ _ ?_
            exact ⟨rfl, fun _ => (by decide), rfl, (0 : Int32), rfl, rfl, Or.inr ⟨rfl, by first | omega | (dsimp only; omega) | trivial⟩⟩
          · skip
            have k1 : (1 : Int32).toInt = 1 := rfl
            refine hC.1 10 102 _ _ rfl _ _ _ _ _ ?_
            exact ⟨rfl, fun _ => (by decide), rfl, (1 : Int32), rfl, rfl, Or.inl ⟨rfl, by first | omega | (dsimp only; omega) | trivial⟩⟩
        · skip
          have dc28 := pm_neI c28
          refine And.intro (fun c30 => ?_) (fun c30 => ?_)
          · skip
            refine hC.1 7 88 _ _ rfl _ _ _ _ _ ?_
            refine hC.1 10 102 _ _ rfl _ _ _ _ _ ?_
            exact ⟨rfl, fun _ => (by decide), rfl, (0 : Int32), rfl, rfl, Or.inr ⟨rfl, by first | omega | (dsimp only; omega) | trivial⟩⟩
          · skip
            have k1 : (1 : Int32).toInt = 1 := rfl
            refine hC.1 10 102 _ _ rfl _ _ _ _ _ ?_
            exact ⟨rfl, fun _ => (by decide), rfl, (1 : Int32), rfl, rfl, Or.inl ⟨rfl, by first | omega | (dsimp only; omega) | trivial⟩⟩
      · skip
        have dc27 : (x5).toInt = ((4 : Int32) : Int32).toInt := congrArg Int32.toInt c27
        refine And.intro (Exists.intro _ md_o) (Exists.intro _ (Exists.intro _ (Exists.intro _ (Exists.intro _ (And.intro (c_X11_timesIn D v f hv hf x3 x4 x2 (by omega) (by omega)) (And.intro rfl (fun r9 A9 h9 => ?_)))))))
        obtain ⟨y31, rfl, rfl, by31⟩ := h9
        refine hC.1 6 68 _ _ rfl _ _ _ _ _ ?_
        refine And.intro (fun c32 => ?_) (fun c32 => ?_)
        · skip
          have dc32 : ((f 2 (x1).toInt.toNat)).toInt = (y31 : Int32).toInt := congrArg Int32.toInt c32
          refine hC.1 8 92 _ _ rfl _ _ _ _ _ ?_
          refine And.intro (fun c33 => ?_) (fun c33 => ?_)
          · skip
            refine hC.1 9 101 _ _ rfl _ _ _ _ _ ?_
            have k0 : (0 : Int32).toInt = 0 := rfl
            refine hC.1 10 102 _ _ rfl _ _ _ _ _ ?_
            exact ⟨rfl, fun _ => (by decide), rfl, (0 : Int32), rfl, rfl, Or.inr ⟨rfl, by first | omega | (dsimp only; omega) | trivial⟩⟩
          · skip
            have k1 : (1 : Int32).toInt = 1 := rfl
            refine hC.1 10 102 _ _ rfl _ _ _ _ _ ?_
            exact ⟨rfl, fun _ => (by decide), rfl, (1 : Int32), rfl, rfl, Or.inl ⟨rfl, by first | omega | (dsimp only; omega) | trivial⟩⟩
        · skip
          have dc32 := pm_neI c32
          refine And.intro (fun c34 => ?_) (fun c34 => ?_)
          · skip
            refine hC.1 7 88 _ _ rfl _ _ _ _ _ ?_
            have k0 : (0 : Int32).toInt = 0 := rfl
            refine hC.1 10 102 _ _ rfl _ _ _ _ _ ?_
            exact ⟨rfl, fun _ => (by decide), rfl, (0 : Int32), rfl, rfl, Or.inr ⟨rfl, by first | omega | (dsimp only; omega) | trivial⟩⟩
          · skip
            have k1 : (1 : Int32).toInt = 1 := rfl
            refine hC.1 10 102 _ _ rfl _ _ _ _ _ ?_
            exact ⟨rfl, fun _ => (by decide), rfl, (1 : Int32), rfl, rfl, Or.inl ⟨rfl, by first | omega | (dsimp only; omega) | trivial⟩⟩
    · skip
      have dc26 : (x5).toInt = ((3 : Int32) : Int32).toInt := congrArg Int32.toInt c26
      refine Exists.intro _ (And.intro md_o ?_)
      refine Exists.intro _ (Exists.intro _ (And.intro (Or.inl (md_a_weights D)) (And.intro (by omega) ?_)))
      refine hC.1 6 68 _ _ rfl _ _ _ _ _ ?_
      refine And.intro (fun c35 => ?_) (fun c35 => ?_)
      · skip
        have dc35 : ((f 2 (x1).toInt.toNat)).toInt = ((f 2 (x2).toInt.toNat) : Int32).toInt := congrArg Int32.toInt c35
        refine hC.1 8 92 _ _ rfl _ _ _ _ _ ?_
        refine And.intro (fun c36 => ?_) (fun c36 => ?_)
        · skip
          refine hC.1 9 101 _ _ rfl _ _ _ _ _ ?_
          have k0 : (0 : Int32).toInt = 0 := rfl
          refine hC.1 10 102 _ _ rfl _ _ _ _ _ ?_
          exact ⟨rfl, fun _ => (by decide), rfl, (0 : Int32), rfl, rfl, Or.inr ⟨rfl, by first | omega | (dsimp only; omega) | trivial⟩⟩
        · skip
          have k1 : (1 : Int32).toInt = 1 := rfl
          refine hC.1 10 102 _ _ rfl _ _ _ _ _ ?_
          exact ⟨rfl, fun _ => (by decide), rfl, (1 : Int32), rfl, rfl, Or.inl ⟨rfl, by first | omega | (dsimp only; omega) | trivial⟩⟩
      · skip
        have dc35 := pm_neI c35
        refine And.intro (fun c37 => ?_) (fun c37 => ?_)
        · skip
          refine hC.1 7 88 _ _ rfl _ _ _ _ _ ?_
          have k0 : (0 : Int32).toInt = 0 := rfl
          refine hC.1 10 102 _ _ rfl _ _ _ _ _ ?_
          exact ⟨rfl, fun _ => (by decide), rfl, (0 : Int32), rfl, rfl, Or.inr ⟨rfl, by first | omega | (dsimp only; omega) | trivial⟩⟩
        · skip
          have k1 : (1 : Int32).toInt = 1 := rfl
          refine hC.1 10 102 _ _ rfl _ _ _ _ _ ?_
          exact ⟨rfl, fun _ => (by decide), rfl, (1 : Int32), rfl, rfl, Or.inl ⟨rfl, by first | omega | (dsimp only; omega) | trivial⟩⟩

end
