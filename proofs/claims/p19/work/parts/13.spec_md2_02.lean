section
section
variable {l : Launch} {g : pm_G} {A0 : pm_H} {h : Nat} {q : Nat → Nat}
set_option maxRecDepth 100000 in
set_option maxHeartbeats 2000000 in
theorem c_X11_both (D : md_D h q) (v : Nat → Int32) (f : Nat → Nat → Int32) (hv : md_V v) (hf : md_F f) (x1 : Int32) (x2 : Int32) (x3 : Int32) (x4 : Int32) (x5 : Int32)  : pm_Mt l g 224 1 0 0 [.ref h, .int x1, .int x2, .int x3, .int x4, .int x5] (md A0 g h q v f) (md_Qp (md A0 g h q v f) (fun r => True)) := by
  refine mt_X11_both rfl (fun J hC => ?_)
  have hv9 := hv
  unfold md_V at hv9
  have rg_x1 := pm_rng x1
  have rg_x2 := pm_rng x2
  have rg_x3 := pm_rng x3
  have rg_x4 := pm_rng x4
  have rg_x5 := pm_rng x5
  refine hC.1 0 0 _ _ rfl _ _ _ _ _ ?_
  refine And.intro (Exists.intro _ md_o) (Exists.intro _ (Exists.intro _ (Exists.intro _ (Exists.intro _ (And.intro (c_X11_isSpan D v f hv hf x1 x2 ) (And.intro rfl (fun r9 A9 h9 => ?_)))))))
  rcases h9 with ⟨y1, rfl, rfl, ⟨rfl, by1⟩ | ⟨rfl, by1⟩⟩
  · skip
    have k1 : (1 : Int32).toInt = 1 := rfl
    refine And.intro (fun c9 => absurd c9 (by decide)) (fun _ => ?_)
    refine And.intro (Exists.intro _ md_o) (Exists.intro _ (Exists.intro _ (Exists.intro _ (Exists.intro _ (And.intro (c_X11_isSpan D v f hv hf x3 x4 ) (And.intro rfl (fun r9 A9 h9 => ?_)))))))
    rcases h9 with ⟨y2, rfl, rfl, ⟨rfl, by2⟩ | ⟨rfl, by2⟩⟩
    · skip
      refine And.intro (fun _ => ?_) (fun c9 => absurd c9 (by decide))
      refine hC.1 2 21 _ _ rfl _ _ _ _ _ ?_
      refine And.intro (Exists.intro _ md_o) (Exists.intro _ (Exists.intro _ (Exists.intro _ (Exists.intro _ (And.intro (c_X11_setOf D v f hv hf x1 x2 (by omega) (by omega)) (And.intro rfl (fun r9 A9 h9 => ?_)))))))
      obtain ⟨y3, rfl, rfl, by3⟩ := h9
      refine And.intro (Exists.intro _ md_o) (Exists.intro _ (Exists.intro _ (Exists.intro _ (Exists.intro _ (And.intro (c_X11_setOf D v f hv hf x3 x4 (by omega) (by omega)) (And.intro rfl (fun r9 A9 h9 => ?_)))))))
      obtain ⟨y4, rfl, rfl, by4⟩ := h9
      refine And.intro (fun c5 => ?_) (fun c5 => ?_)
      · skip
        have dc5 := pm_neI c5
        have k0 : (0 : Int32).toInt = 0 := rfl
        refine hC.1 3 54 _ _ rfl _ _ _ _ _ ?_
        refine And.intro (fun c6 => ?_) (fun c6 => ?_)
        · skip
          have dc6 := pm_neI c6
          refine hC.1 4 73 _ _ rfl _ _ _ _ _ ?_
          have k2 : (2 : Int32).toInt = 2 := rfl
          refine And.intro (fun c7 => ?_) (fun c7 => ?_)
          · skip
            have dc7 := pm_neI c7
            refine hC.1 5 90 _ _ rfl _ _ _ _ _ ?_
            have km1 : (-1 : Int32).toInt = -1 := rfl
            refine hC.1 6 91 _ _ rfl _ _ _ _ _ ?_
            exact ⟨rfl, fun e9 => absurd e9 (by decide), rfl, (-1 : Int32), rfl, rfl, by exact True.intro⟩
          · skip
            have dc7 : (x5).toInt = ((2 : Int32) : Int32).toInt := congrArg Int32.toInt c7
            refine Exists.intro _ (Exists.intro _ (Exists.intro _ (Exists.intro _ (And.intro (c_X11_bits (md A0 g h q v f) (y3 ||| y4) ) (And.intro rfl (fun r9 A9 h9 => ?_))))))
            obtain ⟨y8, rfl, rfl, by8⟩ := h9
            refine hC.1 6 91 _ _ rfl _ _ _ _ _ ?_
            exact ⟨rfl, fun e9 => absurd e9 (by decide), rfl, y8, rfl, rfl, by exact True.intro⟩
        · skip
          have dc6 : (x5).toInt = ((1 : Int32) : Int32).toInt := congrArg Int32.toInt c6
          have km1 : (-1 : Int32).toInt = -1 := rfl
          refine Exists.intro _ (Exists.intro _ (Exists.intro _ (Exists.intro _ (And.intro (c_X11_bits (md A0 g h q v f) (y3 &&& (y4 ^^^ (-1 : Int32))) ) (And.intro rfl (fun r9 A9 h9 => ?_))))))
          obtain ⟨y9, rfl, rfl, by9⟩ := h9
          refine hC.1 6 91 _ _ rfl _ _ _ _ _ ?_
          exact ⟨rfl, fun e9 => absurd e9 (by decide), rfl, y9, rfl, rfl, by exact True.intro⟩
      · skip
        have dc5 : (x5).toInt = (0 : Int32).toInt := congrArg Int32.toInt c5
        have k0 : (0 : Int32).toInt = 0 := rfl
        refine Exists.intro _ (Exists.intro _ (Exists.intro _ (Exists.intro _ (And.intro (c_X11_bits (md A0 g h q v f) (y3 &&& y4) ) (And.intro rfl (fun r9 A9 h9 => ?_))))))
        obtain ⟨y10, rfl, rfl, by10⟩ := h9
        refine hC.1 6 91 _ _ rfl _ _ _ _ _ ?_
        exact ⟨rfl, fun e9 => absurd e9 (by decide), rfl, y10, rfl, rfl, by exact True.intro⟩
    · skip
      have k0 : (0 : Int32).toInt = 0 := rfl
      refine And.intro (fun c9 => absurd c9 (by decide)) (fun _ => ?_)
      refine hC.1 1 19 _ _ rfl _ _ _ _ _ ?_
      have km1 : (-1 : Int32).toInt = -1 := rfl
      exact ⟨rfl, fun e9 => absurd e9 (by decide), rfl, (-1 : Int32), rfl, rfl, by exact True.intro⟩
  · skip
    have k0 : (0 : Int32).toInt = 0 := rfl
    refine And.intro (fun _ => ?_) (fun c9 => absurd c9 (by decide))
    refine hC.1 1 19 _ _ rfl _ _ _ _ _ ?_
    have km1 : (-1 : Int32).toInt = -1 := rfl
    exact ⟨rfl, fun e9 => absurd e9 (by decide), rfl, (-1 : Int32), rfl, rfl, by exact True.intro⟩

set_option maxRecDepth 100000 in
set_option maxHeartbeats 2000000 in
theorem c_X11_close (D : md_D h q) (v : Nat → Int32) (f : Nat → Nat → Int32) (hv : md_V v) (hf : md_F f) (x1 : Int32) (x2 : Int32) (x3 : Int32)  : pm_Mt l g 225 1 0 0 [.ref h, .int x1, .int x2, .int x3] (md A0 g h q v f) (md_Qp (md A0 g h q v f) (fun r => True)) := by
  refine mt_X11_close rfl (fun J hC => ?_)
  have hv9 := hv
  unfold md_V at hv9
  have rg_x1 := pm_rng x1
  have rg_x2 := pm_rng x2
  have rg_x3 := pm_rng x3
  refine hC.1 0 0 _ _ rfl _ _ _ _ _ ?_
  refine And.intro (Exists.intro _ md_o) (Exists.intro _ (Exists.intro _ (Exists.intro _ (Exists.intro _ (And.intro (c_X11_isSpan D v f hv hf x1 x2 ) (And.intro rfl (fun r9 A9 h9 => ?_)))))))
  rcases h9 with ⟨y1, rfl, rfl, ⟨rfl, by1⟩ | ⟨rfl, by1⟩⟩
  · skip
    have k1 : (1 : Int32).toInt = 1 := rfl
    refine And.intro (fun c9 => absurd c9 (by decide)) (fun _ => ?_)
    have k0 : (0 : Int32).toInt = 0 := rfl
    refine Exists.intro _ (Exists.intro _ (Exists.intro _ (Exists.intro _ (And.intro (c_X11_isIn (md A0 g h q v f) x3 (0 : Int32) (1 : Int32) ) (And.intro rfl (fun r9 A9 h9 => ?_))))))
    rcases h9 with ⟨y2, rfl, rfl, ⟨rfl, by2⟩ | ⟨rfl, by2⟩⟩
    · skip
      refine And.intro (fun _ => ?_) (fun c9 => absurd c9 (by decide))
      refine hC.1 2 20 _ _ rfl _ _ _ _ _ ?_
      have km1 : (-1 : Int32).toInt = -1 := rfl
      have lp3 : ∀ (n : Nat) (z4_26 : Int32) (z5_26 : Int32), (x1.toInt ≤ z5_26.toInt ∧ z5_26.toInt ≤ x2.toInt + 1) → (-1 ≤ z4_26.toInt ∧ z4_26.toInt ≤ x2.toInt) → 200 - z5_26.toInt < (n : Int) → J 26 [some (.ref h), some (.int x1), some (.int x2), some (.int x3), some (.int z4_26), some (.int z5_26)] [] (md A0 g h q v f) 0 0 := by
        intro n
        induction n with
        | zero =>
          intro z4_26 z5_26 j0_26 j1_26 j2_26
          omega
        | succ n ih4 =>
          intro z4_26 z5_26 j0_26 j1_26 j2_26
          refine hC.1 3 26 _ _ rfl _ _ _ _ _ ?_
          refine And.intro (fun c5 => ?_) (fun c5 => ?_)
          · skip
            refine hC.1 6 78 _ _ rfl _ _ _ _ _ ?_
            refine And.intro (fun c6 => ?_) (fun c6 => ?_)
            · skip
              refine hC.1 7 87 _ _ rfl _ _ _ _ _ ?_
              refine And.intro (fun c7 => ?_) (fun c7 => ?_)
              · skip
                have dc7 := pm_neI c7
                refine hC.1 8 103 _ _ rfl _ _ _ _ _ ?_
                refine And.intro (Exists.intro _ md_o) (Exists.intro _ (Exists.intro _ (Exists.intro _ (Exists.intro _ (And.intro (c_X11_ahead D v f hv hf z4_26 (by omega)) (And.intro rfl (fun r9 A9 h9 => ?_)))))))
                obtain ⟨y8, rfl, rfl, by8⟩ := h9
                refine hC.1 9 109 _ _ rfl _ _ _ _ _ ?_
                exact ⟨rfl, fun e9 => absurd e9 (by decide), rfl, y8, rfl, rfl, by exact True.intro⟩
              · skip
                have dc7 : (x3).toInt = (0 : Int32).toInt := congrArg Int32.toInt c7
                refine And.intro (Exists.intro _ md_o) (Exists.intro _ (Exists.intro _ (Exists.intro _ (Exists.intro _ (And.intro (c_X11_ahead D v f hv hf z4_26 (by omega)) (And.intro rfl (fun r9 A9 h9 => ?_)))))))
                obtain ⟨y9, rfl, rfl, by9⟩ := h9
                intro m10 em_99
                try have e10 : m10.toInt = (z4_26).toInt - (y9).toInt := by rw [em_99]; exact pm_sub _ _ (by omega) (by omega)
                refine hC.1 9 109 _ _ rfl _ _ _ _ _ ?_
                exact ⟨rfl, fun e9 => absurd e9 (by decide), rfl, m10, rfl, rfl, by exact True.intro⟩
            · skip
              refine hC.1 9 109 _ _ rfl _ _ _ _ _ ?_
              exact ⟨rfl, fun e9 => absurd e9 (by decide), rfl, (-1 : Int32), rfl, rfl, by exact True.intro⟩
          · skip
            refine And.intro (Exists.intro _ md_o) (Exists.intro _ (Exists.intro _ (Exists.intro _ (Exists.intro _ (And.intro (c_X11_ahead D v f hv hf z5_26 (by omega)) (And.intro rfl (fun r9 A9 h9 => ?_)))))))
            obtain ⟨y11, rfl, rfl, by11⟩ := h9
            refine And.intro (fun c12 => ?_) (fun c12 => ?_)
            · skip
              refine hC.1 5 72 _ _ rfl _ _ _ _ _ ?_
              intro m13 em_72
              try have e13 : m13.toInt = (z5_26).toInt + (1) := by rw [em_72]; exact pm_addc _ _ (1) rfl (by omega) (by omega)
              exact ih4 z4_26 m13 (by omega) (by omega) (by omega)
            · skip
              refine And.intro (fun c14 => ?_) (fun c14 => ?_)
              · skip
                refine hC.1 4 68 _ _ rfl _ _ _ _ _ ?_
                refine hC.1 5 72 _ _ rfl _ _ _ _ _ ?_
                intro m15 em_72
                try have e15 : m15.toInt = (z5_26).toInt + (1) := by rw [em_72]; exact pm_addc _ _ (1) rfl (by omega) (by omega)
                exact ih4 z5_26 m15 (by omega) (by omega) (by omega)
              · skip
                refine And.intro (Exists.intro _ md_o) (Exists.intro _ (Exists.intro _ (Exists.intro _ (Exists.intro _ (And.intro (c_X11_ahead D v f hv hf z5_26 (by omega)) (And.intro rfl (fun r9 A9 h9 => ?_)))))))
                obtain ⟨y16, rfl, rfl, by16⟩ := h9
                intro m17 em_55
                try have e17 : m17.toInt = (z5_26).toInt - (y16).toInt := by rw [em_55]; exact pm_sub _ _ (by omega) (by omega)
                refine And.intro (Exists.intro _ md_o) (Exists.intro _ (Exists.intro _ (Exists.intro _ (Exists.intro _ (And.intro (c_X11_ahead D v f hv hf z4_26 (by omega)) (And.intro rfl (fun r9 A9 h9 => ?_)))))))
                obtain ⟨y18, rfl, rfl, by18⟩ := h9
                intro m19 em_64
                try have e19 : m19.toInt = (z4_26).toInt - (y18).toInt := by rw [em_64]; exact pm_sub _ _ (by omega) (by omega)
                refine And.intro (fun c20 => ?_) (fun c20 => ?_)
                · skip
                  refine hC.1 5 72 _ _ rfl _ _ _ _ _ ?_
                  intro m21 em_72
                  try have e21 : m21.toInt = (z5_26).toInt + (1) := by rw [em_72]; exact pm_addc _ _ (1) rfl (by omega) (by omega)
                  exact ih4 z4_26 m21 (by omega) (by omega) (by omega)
                · skip
                  refine hC.1 4 68 _ _ rfl _ _ _ _ _ ?_
                  refine hC.1 5 72 _ _ rfl _ _ _ _ _ ?_
                  intro m22 em_72
                  try have e22 : m22.toInt = (z5_26).toInt + (1) := by rw [em_72]; exact pm_addc _ _ (1) rfl (by omega) (by omega)
                  exact ih4 z5_26 m22 (by omega) (by omega) (by omega)
      exact lp3 (200 - x1.toInt).toNat.succ (-1 : Int32) x1 (by omega) (by omega) (by omega)
    · skip
      refine And.intro (fun c9 => absurd c9 (by decide)) (fun _ => ?_)
      refine hC.1 1 18 _ _ rfl _ _ _ _ _ ?_
      have km1 : (-1 : Int32).toInt = -1 := rfl
      exact ⟨rfl, fun e9 => absurd e9 (by decide), rfl, (-1 : Int32), rfl, rfl, by exact True.intro⟩
  · skip
    have k0 : (0 : Int32).toInt = 0 := rfl
    refine And.intro (fun _ => ?_) (fun c9 => absurd c9 (by decide))
    refine hC.1 1 18 _ _ rfl _ _ _ _ _ ?_
    have km1 : (-1 : Int32).toInt = -1 := rfl
    exact ⟨rfl, fun e9 => absurd e9 (by decide), rfl, (-1 : Int32), rfl, rfl, by exact True.intro⟩

set_option maxRecDepth 100000 in
set_option maxHeartbeats 2000000 in
theorem c_X11_isKnown (D : md_D h q) (v : Nat → Int32) (f : Nat → Nat → Int32) (hv : md_V v) (hf : md_F f) (x1 : Int32)  : pm_Mt l g 227 0 0 0 [.ref h, .int x1] (md A0 g h q v f) (md_Qp (md A0 g h q v f) (fun r => (r = 1 ∧ (0 ≤ x1.toInt ∧ x1.toInt ≤ (v 4).toInt ∧ x1.toInt > (v 4).toInt - 40)) ∨ (r = 0 ∧ (¬ (0 ≤ x1.toInt ∧ x1.toInt ≤ (v 4).toInt ∧ x1.toInt > (v 4).toInt - 40))))) := by
  refine mt_X11_isKnown rfl (fun J hC => ?_)
  have hv9 := hv
  unfold md_V at hv9
  have rg_x1 := pm_rng x1
  refine hC.1 0 0 _ _ rfl _ _ _ _ _ ?_
  refine And.intro (fun c1 => ?_) (fun c1 => ?_)
  · skip
    refine hC.1 1 27 _ _ rfl _ _ _ _ _ ?_
    have k0 : (0 : Int32).toInt = 0 := rfl
    refine hC.1 2 28 _ _ rfl _ _ _ _ _ ?_
    exact ⟨rfl, fun _ => (by decide), rfl, (0 : Int32), rfl, rfl, Or.inr ⟨rfl, by first | omega | (dsimp only; omega) | trivial⟩⟩
  · skip
    refine Exists.intro _ (And.intro md_o ?_)
    refine And.intro (fun c2 => ?_) (fun c2 => ?_)
    · skip
      refine hC.1 1 27 _ _ rfl _ _ _ _ _ ?_
      have k0 : (0 : Int32).toInt = 0 := rfl
      refine hC.1 2 28 _ _ rfl _ _ _ _ _ ?_
      exact ⟨rfl, fun _ => (by decide), rfl, (0 : Int32), rfl, rfl, Or.inr ⟨rfl, by first | omega | (dsimp only; omega) | trivial⟩⟩
    · skip
      refine Exists.intro _ (And.intro md_o ?_)
      have k40 : (40 : Int32).toInt = 40 := rfl
      intro m3 em_19
      try have e3 : m3.toInt = ((v 4)).toInt - (40) := by rw [em_19]; exact pm_subc _ _ (40) rfl (by omega) (by omega)
      refine And.intro (fun c4 => ?_) (fun c4 => ?_)
      · skip
        refine hC.1 1 27 _ _ rfl _ _ _ _ _ ?_
        have k0 : (0 : Int32).toInt = 0 := rfl
        refine hC.1 2 28 _ _ rfl _ _ _ _ _ ?_
        exact ⟨rfl, fun _ => (by decide), rfl, (0 : Int32), rfl, rfl, Or.inr ⟨rfl, by first | omega | (dsimp only; omega) | trivial⟩⟩
      · skip
        have k1 : (1 : Int32).toInt = 1 := rfl
        refine hC.1 2 28 _ _ rfl _ _ _ _ _ ?_
        exact ⟨rfl, fun _ => (by decide), rfl, (1 : Int32), rfl, rfl, Or.inl ⟨rfl, by first | omega | (dsimp only; omega) | trivial⟩⟩

set_option maxRecDepth 100000 in
set_option maxHeartbeats 2000000 in
theorem c_X11_wasColour (D : md_D h q) (v : Nat → Int32) (f : Nat → Nat → Int32) (hv : md_V v) (hf : md_F f) (x1 : Int32) (x2 : Int32) (p0 : 0 ≤ x1.toInt) (p1 : 0 ≤ x2.toInt ∧ x2.toInt < 160) : pm_Mt l g 228 0 0 0 [.ref h, .int x1, .int x2] (md A0 g h q v f) (md_Qp (md A0 g h q v f) (fun r => 0 ≤ r.toInt ∧ r.toInt ≤ 23)) := by
  refine mt_X11_wasColour rfl (fun J hC => ?_)
  have hv9 := hv
  unfold md_V at hv9
  have rg_x1 := pm_rng x1
  have rg_x2 := pm_rng x2
  refine hC.1 0 0 _ _ rfl _ _ _ _ _ ?_
  refine Exists.intro _ (And.intro md_o ?_)
  have k160 : (160 : Int32).toInt = 160 := rfl
  have k40 : (40 : Int32).toInt = 40 := rfl
  refine And.intro (by decide) ?_
  intro m1 em_10
  try have e1 := pm_rem x1 (40 : Int32) (by omega) (by omega)
  try rw [← em_10] at e1
  intro m2 em_11
  try have e2 : m2.toInt = (160) * (m1).toInt := by rw [em_11]; exact pm_mulk _ _ (160) rfl (by omega) (by omega)
  intro m3 em_13
  try have e3 : m3.toInt = (m2).toInt + (x2).toInt := by rw [em_13]; exact pm_add _ _ (by omega) (by omega)
  refine Exists.intro _ (Exists.intro _ (And.intro (Or.inl (md_a_wasColours D)) (And.intro (by omega) ?_)))
  have w4 : (0 : Int) ≤ (f 12 (m3).toInt.toNat).toInt ∧ (f 12 (m3).toInt.toNat).toInt ≤ (23 : Int) := hf 12 _
  exact ⟨rfl, fun e9 => absurd e9 (by decide), rfl, (f 12 (m3).toInt.toNat), rfl, rfl, by first | omega | (dsimp only; omega) | trivial⟩

set_option maxRecDepth 100000 in
set_option maxHeartbeats 2000000 in
theorem c_X11_wasName (D : md_D h q) (v : Nat → Int32) (f : Nat → Nat → Int32) (hv : md_V v) (hf : md_F f) (x1 : Int32) (x2 : Int32) (p0 : 0 ≤ x1.toInt) (p1 : 0 ≤ x2.toInt ∧ x2.toInt < 160) : pm_Mt l g 229 0 0 0 [.ref h, .int x1, .int x2] (md A0 g h q v f) (md_Qp (md A0 g h q v f) (fun r => True)) := by
  refine mt_X11_wasName rfl (fun J hC => ?_)
  have hv9 := hv
  unfold md_V at hv9
  have rg_x1 := pm_rng x1
  have rg_x2 := pm_rng x2
  refine hC.1 0 0 _ _ rfl _ _ _ _ _ ?_
  refine Exists.intro _ (And.intro md_o ?_)
  have k160 : (160 : Int32).toInt = 160 := rfl
  have k40 : (40 : Int32).toInt = 40 := rfl
  refine And.intro (by decide) ?_
  intro m1 em_10
  try have e1 := pm_rem x1 (40 : Int32) (by omega) (by omega)
  try rw [← em_10] at e1
  intro m2 em_11
  try have e2 : m2.toInt = (160) * (m1).toInt := by rw [em_11]; exact pm_mulk _ _ (160) rfl (by omega) (by omega)
  intro m3 em_13
  try have e3 : m3.toInt = (m2).toInt + (x2).toInt := by rw [em_13]; exact pm_add _ _ (by omega) (by omega)
  refine Exists.intro _ (Exists.intro _ (And.intro (Or.inl (md_a_wasNames D)) (And.intro (by omega) ?_)))
  exact ⟨rfl, fun e9 => absurd e9 (by decide), rfl, (f 13 (m3).toInt.toNat), rfl, rfl, by exact True.intro⟩

set_option maxRecDepth 100000 in
set_option maxHeartbeats 2000000 in
theorem c_X11_wasBond (D : md_D h q) (v : Nat → Int32) (f : Nat → Nat → Int32) (hv : md_V v) (hf : md_F f) (x1 : Int32) (x2 : Int32) (p0 : 0 ≤ x1.toInt) (p1 : 0 ≤ x2.toInt ∧ x2.toInt < 160) : pm_Mt l g 230 1 0 0 [.ref h, .int x1, .int x2] (md A0 g h q v f) (md_Qp (md A0 g h q v f) (fun r => True)) := by
  refine mt_X11_wasBond rfl (fun J hC => ?_)
  have hv9 := hv
  unfold md_V at hv9
  have rg_x1 := pm_rng x1
  have rg_x2 := pm_rng x2
  refine hC.1 0 0 _ _ rfl _ _ _ _ _ ?_
  have k1 : (1 : Int32).toInt = 1 := rfl
  intro m1 em_2
  try have e1 : m1.toInt = (x2).toInt - (1) := by rw [em_2]; exact pm_subc _ _ (1) rfl (by omega) (by omega)
  have lp2 : ∀ (n : Nat) (z3_4 : Int32), (-1 ≤ z3_4.toInt ∧ z3_4.toInt < 160) → z3_4.toInt + 1 < (n : Int) → J 4 [some (.ref h), some (.int x1), some (.int x2), some (.int z3_4)] [] (md A0 g h q v f) 0 0 := by
    intro n
    induction n with
    | zero =>
      intro z3_4 j0_4 j1_4
      omega
    | succ n ih3 =>
      intro z3_4 j0_4 j1_4
      refine hC.1 1 4 _ _ rfl _ _ _ _ _ ?_
      refine And.intro (fun c4 => ?_) (fun c4 => ?_)
      · skip
        refine hC.1 3 36 _ _ rfl _ _ _ _ _ ?_
        have km1 : (-1 : Int32).toInt = -1 := rfl
        exact ⟨rfl, fun e9 => absurd e9 (by decide), rfl, (-1 : Int32), rfl, rfl, by exact True.intro⟩
      · skip
        refine And.intro (Exists.intro _ md_o) (Exists.intro _ (Exists.intro _ (Exists.intro _ (Exists.intro _ (And.intro (c_X11_wasColour D v f hv hf x1 z3_4 (by omega) (by omega)) (And.intro rfl (fun r9 A9 h9 => ?_)))))))
        obtain ⟨y5, rfl, rfl, by5⟩ := h9
        refine And.intro (Exists.intro _ md_o) (Exists.intro _ (Exists.intro _ (Exists.intro _ (Exists.intro _ (And.intro (c_X11_wasColour D v f hv hf x1 x2 (by omega) (by omega)) (And.intro rfl (fun r9 A9 h9 => ?_)))))))
        obtain ⟨y6, rfl, rfl, by6⟩ := h9
        refine And.intro (fun c7 => ?_) (fun c7 => ?_)
        · skip
          have dc7 := pm_neI c7
          refine hC.1 2 30 _ _ rfl _ _ _ _ _ ?_
          have km1 : (-1 : Int32).toInt = -1 := rfl
          intro m8 em_30
          try have e8 : m8.toInt = (z3_4).toInt + (-1) := by rw [em_30]; exact pm_addc _ _ (-1) rfl (by omega) (by omega)
          exact ih3 m8 (by omega) (by omega)
        · skip
          have dc7 : (y5).toInt = (y6 : Int32).toInt := congrArg Int32.toInt c7
          refine And.intro (Exists.intro _ md_o) (Exists.intro _ (Exists.intro _ (Exists.intro _ (Exists.intro _ (And.intro (c_X11_wasName D v f hv hf x1 z3_4 (by omega) (by omega)) (And.intro rfl (fun r9 A9 h9 => ?_)))))))
          obtain ⟨y9, rfl, rfl, by9⟩ := h9
          exact ⟨rfl, fun e9 => absurd e9 (by decide), rfl, y9, rfl, rfl, by exact True.intro⟩
  exact lp2 (m1.toInt + 1).toNat.succ m1 (by omega) (by omega)

set_option maxRecDepth 100000 in
set_option maxHeartbeats 2000000 in
theorem c_X11_wasPlace (D : md_D h q) (v : Nat → Int32) (f : Nat → Nat → Int32) (hv : md_V v) (hf : md_F f) (x1 : Int32) (x2 : Int32) (p0 : 0 ≤ x1.toInt) : pm_Mt l g 236 1 0 0 [.ref h, .int x1, .int x2] (md A0 g h q v f) (md_Qp (md A0 g h q v f) (fun r => -1 ≤ r.toInt ∧ r.toInt < 160)) := by
  refine mt_X11_wasPlace rfl (fun J hC => ?_)
  have hv9 := hv
  unfold md_V at hv9
  have rg_x1 := pm_rng x1
  have rg_x2 := pm_rng x2
  refine hC.1 0 0 _ _ rfl _ _ _ _ _ ?_
  have k0 : (0 : Int32).toInt = 0 := rfl
  have lp1 : ∀ (n : Nat) (z3_2 : Int32), (0 ≤ z3_2.toInt ∧ z3_2.toInt ≤ 160) → 200 - z3_2.toInt < (n : Int) → J 2 [some (.ref h), some (.int x1), some (.int x2), some (.int z3_2)] [] (md A0 g h q v f) 0 0 := by
    intro n
    induction n with
    | zero =>
      intro z3_2 j0_2 j1_2
      omega
    | succ n ih2 =>
      intro z3_2 j0_2 j1_2
      refine hC.1 1 2 _ _ rfl _ _ _ _ _ ?_
      refine Exists.intro _ (And.intro md_o ?_)
      have k40 : (40 : Int32).toInt = 40 := rfl
      refine And.intro (by decide) ?_
      intro m3 em_10
      try have e3 := pm_rem x1 (40 : Int32) (by omega) (by omega)
      try rw [← em_10] at e3
      refine Exists.intro _ (Exists.intro _ (And.intro (Or.inl (md_a_wasMany D)) (And.intro (by omega) ?_)))
      have w4 : (0 : Int) ≤ (f 14 (m3).toInt.toNat).toInt ∧ (f 14 (m3).toInt.toNat).toInt ≤ (160 : Int) := hf 14 _
      refine And.intro (fun c5 => ?_) (fun c5 => ?_)
      · skip
        refine hC.1 3 33 _ _ rfl _ _ _ _ _ ?_
        have km1 : (-1 : Int32).toInt = -1 := rfl
        exact ⟨rfl, fun e9 => absurd e9 (by decide), rfl, (-1 : Int32), rfl, rfl, by first | omega | (dsimp only; omega) | trivial⟩
      · skip
        refine And.intro (Exists.intro _ md_o) (Exists.intro _ (Exists.intro _ (Exists.intro _ (Exists.intro _ (And.intro (c_X11_wasName D v f hv hf x1 z3_2 (by omega) (by omega)) (And.intro rfl (fun r9 A9 h9 => ?_)))))))
        obtain ⟨y6, rfl, rfl, by6⟩ := h9
        refine And.intro (fun c7 => ?_) (fun c7 => ?_)
        · skip
          have dc7 := pm_neI c7
          refine hC.1 2 27 _ _ rfl _ _ _ _ _ ?_
          have k1 : (1 : Int32).toInt = 1 := rfl
          intro m8 em_27
          try have e8 : m8.toInt = (z3_2).toInt + (1) := by rw [em_27]; exact pm_addc _ _ (1) rfl (by omega) (by omega)
          exact ih2 m8 (by omega) (by omega)
        · skip
          have dc7 : (y6).toInt = (x2 : Int32).toInt := congrArg Int32.toInt c7
          exact ⟨rfl, fun e9 => absurd e9 (by decide), rfl, z3_2, rfl, rfl, by first | omega | (dsimp only; omega) | trivial⟩
  exact lp1 (200 - (0 : Int32).toInt).toNat.succ (0 : Int32) (by omega) (by omega)

set_option maxRecDepth 100000 in
set_option maxHeartbeats 2000000 in
theorem c_X11_wasSet (D : md_D h q) (v : Nat → Int32) (f : Nat → Nat → Int32) (hv : md_V v) (hf : md_F f) (x1 : Int32) (x2 : Int32) (x3 : Int32) (p0 : 0 ≤ x1.toInt) (p1 : 0 ≤ x2.toInt ∧ x2.toInt ≤ 160) (p2 : -1 ≤ x3.toInt ∧ x3.toInt < 160) : pm_Mt l g 232 1 0 0 [.ref h, .int x1, .int x2, .int x3] (md A0 g h q v f) (md_Qp (md A0 g h q v f) (fun r => True)) := by
  refine mt_X11_wasSet rfl (fun J hC => ?_)
  have hv9 := hv
  unfold md_V at hv9
  have rg_x1 := pm_rng x1
  have rg_x2 := pm_rng x2
  have rg_x3 := pm_rng x3
  refine hC.1 0 0 _ _ rfl _ _ _ _ _ ?_
  have k0 : (0 : Int32).toInt = 0 := rfl
  have lp1 : ∀ (n : Nat) (z4_6 : Int32) (z5_6 : Int32), (0 ≤ z5_6.toInt ∧ z5_6.toInt ≤ 161) → 200 - z5_6.toInt < (n : Int) → J 6 [some (.ref h), some (.int x1), some (.int x2), some (.int x3), some (.int z4_6), some (.int z5_6)] [] (md A0 g h q v f) 0 0 := by
    intro n
    induction n with
    | zero =>
      intro z4_6 z5_6 j0_6 j1_6
      omega
    | succ n ih2 =>
      intro z4_6 z5_6 j0_6 j1_6
      refine hC.1 1 6 _ _ rfl _ _ _ _ _ ?_
      refine And.intro (fun c3 => ?_) (fun c3 => ?_)
      · skip
        refine hC.1 2 32 _ _ rfl _ _ _ _ _ ?_
        exact ⟨rfl, fun e9 => absurd e9 (by decide), rfl, z4_6, rfl, rfl, by exact True.intro⟩
      · skip
        have k1 : (1 : Int32).toInt = 1 := rfl
        refine And.intro (Exists.intro _ md_o) (Exists.intro _ (Exists.intro _ (Exists.intro _ (Exists.intro _ (And.intro (c_X11_wasColour D v f hv hf x1 z5_6 (by omega) (by omega)) (And.intro rfl (fun r9 A9 h9 => ?_)))))))
        obtain ⟨y4, rfl, rfl, by4⟩ := h9
        intro m5 em_26
        try have e5 : m5.toInt = (z5_6).toInt + (1) := by rw [em_26]; exact pm_addc _ _ (1) rfl (by omega) (by omega)
        exact ih2 (z4_6 ||| ((1 : Int32) <<< (y4 &&& 31))) m5 (by omega) (by omega)
  exact lp1 (200 - x2.toInt).toNat.succ (0 : Int32) x2 (by omega) (by omega)

set_option maxRecDepth 100000 in
set_option maxHeartbeats 2000000 in
theorem c_X11_was (D : md_D h q) (v : Nat → Int32) (f : Nat → Nat → Int32) (hv : md_V v) (hf : md_F f) (x1 : Int32) (x2 : Int32) (x3 : Int32)  : pm_Mt l g 226 2 0 0 [.ref h, .int x1, .int x2, .int x3] (md A0 g h q v f) (md_Qp (md A0 g h q v f) (fun r => True)) := by
  refine mt_X11_was rfl (fun J hC => ?_)
  have hv9 := hv
  unfold md_V at hv9
  have rg_x1 := pm_rng x1
  have rg_x2 := pm_rng x2
  have rg_x3 := pm_rng x3
  refine hC.1 0 0 _ _ rfl _ _ _ _ _ ?_
  refine And.intro (Exists.intro _ md_o) (Exists.intro _ (Exists.intro _ (Exists.intro _ (Exists.intro _ (And.intro (c_X11_isKnown D v f hv hf x1 ) (And.intro rfl (fun r9 A9 h9 => ?_)))))))
  rcases h9 with ⟨y1, rfl, rfl, ⟨rfl, by1⟩ | ⟨rfl, by1⟩⟩
  · skip
    have k1 : (1 : Int32).toInt = 1 := rfl
    refine And.intro (fun _ => ?_) (fun c9 => absurd c9 (by decide))
    refine hC.1 1 10 _ _ rfl _ _ _ _ _ ?_
    refine Exists.intro _ (And.intro md_o ?_)
    have k40 : (40 : Int32).toInt = 40 := rfl
    refine And.intro (by decide) ?_
    intro m2 em_17
    try have e2 := pm_rem x1 (40 : Int32) (by omega) (by omega)
    try rw [← em_17] at e2
    refine Exists.intro _ (Exists.intro _ (And.intro (Or.inl (md_a_wasMany D)) (And.intro (by omega) ?_)))
    have w3 : (0 : Int) ≤ (f 14 (m2).toInt.toNat).toInt ∧ (f 14 (m2).toInt.toNat).toInt ≤ (160 : Int) := hf 14 _
    have km1 : (-1 : Int32).toInt = -1 := rfl
    refine And.intro (fun c4 => ?_) (fun c4 => ?_)
    · skip
      have dc4 := pm_neI c4
      refine hC.1 2 29 _ _ rfl _ _ _ _ _ ?_
      have k0 : (0 : Int32).toInt = 0 := rfl
      intro m5 em_34
      try have e5 : m5.toInt = ((f 14 (m2).toInt.toNat)).toInt - (1) := by rw [em_34]; exact pm_subc _ _ (1) rfl (by omega) (by omega)
      refine Exists.intro _ (Exists.intro _ (Exists.intro _ (Exists.intro _ (And.intro (c_X11_isIn (md A0 g h q v f) x2 (0 : Int32) m5 ) (And.intro rfl (fun r9 A9 h9 => ?_))))))
      rcases h9 with ⟨y6, rfl, rfl, ⟨rfl, by6⟩ | ⟨rfl, by6⟩⟩
      · skip
        refine And.intro (fun _ => ?_) (fun c9 => absurd c9 (by decide))
        refine hC.1 3 43 _ _ rfl _ _ _ _ _ ?_
        refine And.intro (fun c7 => ?_) (fun c7 => ?_)
        · skip
          have dc7 := pm_neI c7
          refine hC.1 4 56 _ _ rfl _ _ _ _ _ ?_
          refine And.intro (fun c8 => ?_) (fun c8 => ?_)
          · skip
            have dc8 := pm_neI c8
            refine hC.1 5 70 _ _ rfl _ _ _ _ _ ?_
            have k2 : (2 : Int32).toInt = 2 := rfl
            refine And.intro (fun c9 => ?_) (fun c9 => ?_)
            · skip
              have dc9 := pm_neI c9
              refine hC.1 6 84 _ _ rfl _ _ _ _ _ ?_
              refine hC.1 7 85 _ _ rfl _ _ _ _ _ ?_
              exact ⟨rfl, fun e9 => absurd e9 (by decide), rfl, (-1 : Int32), rfl, rfl, by exact True.intro⟩
            · skip
              have dc9 : (x3).toInt = ((2 : Int32) : Int32).toInt := congrArg Int32.toInt c9
              refine And.intro (Exists.intro _ md_o) (Exists.intro _ (Exists.intro _ (Exists.intro _ (Exists.intro _ (And.intro (c_X11_wasBond D v f hv hf x1 x2 (by omega) (by omega)) (And.intro rfl (fun r9 A9 h9 => ?_)))))))
              obtain ⟨y10, rfl, rfl, by10⟩ := h9
              refine hC.1 7 85 _ _ rfl _ _ _ _ _ ?_
              exact ⟨rfl, fun e9 => absurd e9 (by decide), rfl, y10, rfl, rfl, by exact True.intro⟩
          · skip
            have dc8 : (x3).toInt = ((1 : Int32) : Int32).toInt := congrArg Int32.toInt c8
            refine And.intro (Exists.intro _ md_o) (Exists.intro _ (Exists.intro _ (Exists.intro _ (Exists.intro _ (And.intro (c_X11_wasName D v f hv hf x1 x2 (by omega) (by omega)) (And.intro rfl (fun r9 A9 h9 => ?_)))))))
            obtain ⟨y11, rfl, rfl, by11⟩ := h9
            refine hC.1 7 85 _ _ rfl _ _ _ _ _ ?_
            exact ⟨rfl, fun e9 => absurd e9 (by decide), rfl, y11, rfl, rfl, by exact True.intro⟩
        · skip
          have dc7 : (x3).toInt = (0 : Int32).toInt := congrArg Int32.toInt c7
          refine And.intro (Exists.intro _ md_o) (Exists.intro _ (Exists.intro _ (Exists.intro _ (Exists.intro _ (And.intro (c_X11_wasColour D v f hv hf x1 x2 (by omega) (by omega)) (And.intro rfl (fun r9 A9 h9 => ?_)))))))
          obtain ⟨y12, rfl, rfl, by12⟩ := h9
          refine hC.1 7 85 _ _ rfl _ _ _ _ _ ?_
          exact ⟨rfl, fun e9 => absurd e9 (by decide), rfl, y12, rfl, rfl, by exact True.intro⟩
      · skip
        refine And.intro (fun c9 => absurd c9 (by decide)) (fun _ => ?_)
        exact ⟨rfl, fun e9 => absurd e9 (by decide), rfl, (-1 : Int32), rfl, rfl, by exact True.intro⟩
    · skip
      have dc4 : (x2).toInt = ((-1 : Int32) : Int32).toInt := congrArg Int32.toInt c4
      exact ⟨rfl, fun e9 => absurd e9 (by decide), rfl, (f 14 (m2).toInt.toNat), rfl, rfl, by exact True.intro⟩
  · skip
    have k0 : (0 : Int32).toInt = 0 := rfl
    refine And.intro (fun c9 => absurd c9 (by decide)) (fun _ => ?_)
    have km1 : (-1 : Int32).toInt = -1 := rfl
    exact ⟨rfl, fun e9 => absurd e9 (by decide), rfl, (-1 : Int32), rfl, rfl, by exact True.intro⟩

set_option maxRecDepth 100000 in
set_option maxHeartbeats 2000000 in
theorem c_X11_counted (D : md_D h q) (v : Nat → Int32) (f : Nat → Nat → Int32) (hv : md_V v) (hf : md_F f) (x1 : Int32) (x2 : Int32) (x3 : Int32)  : pm_Mt l g 231 2 0 0 [.ref h, .int x1, .int x2, .int x3] (md A0 g h q v f) (md_Qp (md A0 g h q v f) (fun r => True)) := by
  refine mt_X11_counted rfl (fun J hC => ?_)
  have hv9 := hv
  unfold md_V at hv9
  have rg_x1 := pm_rng x1
  have rg_x2 := pm_rng x2
  have rg_x3 := pm_rng x3
  refine hC.1 0 0 _ _ rfl _ _ _ _ _ ?_
  refine And.intro (Exists.intro _ md_o) (Exists.intro _ (Exists.intro _ (Exists.intro _ (Exists.intro _ (And.intro (c_X11_isKnown D v f hv hf x1 ) (And.intro rfl (fun r9 A9 h9 => ?_)))))))
  rcases h9 with ⟨y1, rfl, rfl, ⟨rfl, by1⟩ | ⟨rfl, by1⟩⟩
  · skip
    have k1 : (1 : Int32).toInt = 1 := rfl
    refine And.intro (fun c9 => absurd c9 (by decide)) (fun _ => ?_)
    refine And.intro (fun c2 => ?_) (fun c2 => ?_)
    · skip
      refine hC.1 1 43 _ _ rfl _ _ _ _ _ ?_
      have km1 : (-1 : Int32).toInt = -1 := rfl
      refine hC.1 2 44 _ _ rfl _ _ _ _ _ ?_
      exact ⟨rfl, fun e9 => absurd e9 (by decide), rfl, (-1 : Int32), rfl, rfl, by exact True.intro⟩
    · skip
      refine And.intro (fun c3 => ?_) (fun c3 => ?_)
      · skip
        refine hC.1 1 43 _ _ rfl _ _ _ _ _ ?_
        have km1 : (-1 : Int32).toInt = -1 := rfl
        refine hC.1 2 44 _ _ rfl _ _ _ _ _ ?_
        exact ⟨rfl, fun e9 => absurd e9 (by decide), rfl, (-1 : Int32), rfl, rfl, by exact True.intro⟩
      · skip
        refine Exists.intro _ (And.intro md_o ?_)
        have k40 : (40 : Int32).toInt = 40 := rfl
        refine And.intro (by decide) ?_
        intro m4 em_25
        try have e4 := pm_rem x1 (40 : Int32) (by omega) (by omega)
        try rw [← em_25] at e4
        refine Exists.intro _ (Exists.intro _ (And.intro (Or.inl (md_a_wasMany D)) (And.intro (by omega) ?_)))
        have w5 : (0 : Int) ≤ (f 14 (m4).toInt.toNat).toInt ∧ (f 14 (m4).toInt.toNat).toInt ≤ (160 : Int) := hf 14 _
        refine And.intro (fun c6 => ?_) (fun c6 => ?_)
        · skip
          refine hC.1 1 43 _ _ rfl _ _ _ _ _ ?_
          have km1 : (-1 : Int32).toInt = -1 := rfl
          refine hC.1 2 44 _ _ rfl _ _ _ _ _ ?_
          exact ⟨rfl, fun e9 => absurd e9 (by decide), rfl, (-1 : Int32), rfl, rfl, by exact True.intro⟩
        · skip
          refine And.intro (Exists.intro _ md_o) (Exists.intro _ (Exists.intro _ (Exists.intro _ (Exists.intro _ (And.intro (c_X11_wasSet D v f hv hf x1 x2 x3 (by omega) (by omega) (by omega)) (And.intro rfl (fun r9 A9 h9 => ?_)))))))
          obtain ⟨y7, rfl, rfl, by7⟩ := h9
          refine Exists.intro _ (Exists.intro _ (Exists.intro _ (Exists.intro _ (And.intro (c_X11_bits (md A0 g h q v f) y7 ) (And.intro rfl (fun r9 A9 h9 => ?_))))))
          obtain ⟨y8, rfl, rfl, by8⟩ := h9
          refine hC.1 2 44 _ _ rfl _ _ _ _ _ ?_
          exact ⟨rfl, fun e9 => absurd e9 (by decide), rfl, y8, rfl, rfl, by exact True.intro⟩
  · skip
    have k0 : (0 : Int32).toInt = 0 := rfl
    refine And.intro (fun _ => ?_) (fun c9 => absurd c9 (by decide))
    refine hC.1 1 43 _ _ rfl _ _ _ _ _ ?_
    have km1 : (-1 : Int32).toInt = -1 := rfl
    refine hC.1 2 44 _ _ rfl _ _ _ _ _ ?_
    exact ⟨rfl, fun e9 => absurd e9 (by decide), rfl, (-1 : Int32), rfl, rfl, by exact True.intro⟩

set_option maxRecDepth 100000 in
set_option maxHeartbeats 2000000 in
theorem c_X11_touched (D : md_D h q) (v : Nat → Int32) (f : Nat → Nat → Int32) (hv : md_V v) (hf : md_F f) (x1 : Int32)  : pm_Mt l g 233 1 0 0 [.ref h, .int x1] (md A0 g h q v f) (md_Qp (md A0 g h q v f) (fun r => True)) := by
  refine mt_X11_touched rfl (fun J hC => ?_)
  have hv9 := hv
  unfold md_V at hv9
  have rg_x1 := pm_rng x1
  refine hC.1 0 0 _ _ rfl _ _ _ _ _ ?_
  refine And.intro (fun c1 => ?_) (fun c1 => ?_)
  · skip
    refine hC.1 1 24 _ _ rfl _ _ _ _ _ ?_
    have km1 : (-1 : Int32).toInt = -1 := rfl
    refine hC.1 2 25 _ _ rfl _ _ _ _ _ ?_
    exact ⟨rfl, fun e9 => absurd e9 (by decide), rfl, (-1 : Int32), rfl, rfl, by exact True.intro⟩
  · skip
    refine And.intro (Exists.intro _ md_o) (Exists.intro _ (Exists.intro _ (Exists.intro _ (Exists.intro _ (And.intro (c_X11_isKnown D v f hv hf x1 ) (And.intro rfl (fun r9 A9 h9 => ?_)))))))
    rcases h9 with ⟨y2, rfl, rfl, ⟨rfl, by2⟩ | ⟨rfl, by2⟩⟩
    · skip
      have k1 : (1 : Int32).toInt = 1 := rfl
      refine And.intro (fun c9 => absurd c9 (by decide)) (fun _ => ?_)
      refine Exists.intro _ (And.intro md_o ?_)
      have k40 : (40 : Int32).toInt = 40 := rfl
      refine And.intro (by decide) ?_
      intro m3 em_19
      try have e3 := pm_rem x1 (40 : Int32) (by omega) (by omega)
      try rw [← em_19] at e3
      refine Exists.intro _ (Exists.intro _ (And.intro (Or.inl (md_a_wasTouched D)) (And.intro (by omega) ?_)))
      refine hC.1 2 25 _ _ rfl _ _ _ _ _ ?_
      exact ⟨rfl, fun e9 => absurd e9 (by decide), rfl, (f 15 (m3).toInt.toNat), rfl, rfl, by exact True.intro⟩
    · skip
      have k0 : (0 : Int32).toInt = 0 := rfl
      refine And.intro (fun _ => ?_) (fun c9 => absurd c9 (by decide))
      refine hC.1 1 24 _ _ rfl _ _ _ _ _ ?_
      have km1 : (-1 : Int32).toInt = -1 := rfl
      refine hC.1 2 25 _ _ rfl _ _ _ _ _ ?_
      exact ⟨rfl, fun e9 => absurd e9 (by decide), rfl, (-1 : Int32), rfl, rfl, by exact True.intro⟩

set_option maxRecDepth 100000 in
set_option maxHeartbeats 2000000 in
theorem c_X11_hadBond (D : md_D h q) (v : Nat → Int32) (f : Nat → Nat → Int32) (hv : md_V v) (hf : md_F f) (x1 : Int32) (x2 : Int32) (x3 : Int32) (p0 : 0 ≤ x1.toInt) : pm_Mt l g 235 2 0 0 [.ref h, .int x1, .int x2, .int x3] (md A0 g h q v f) (md_Qp (md A0 g h q v f) (fun r => (r = 1 ∧ (True)) ∨ (r = 0 ∧ (True)))) := by
  refine mt_X11_hadBond rfl (fun J hC => ?_)
  have hv9 := hv
  unfold md_V at hv9
  have rg_x1 := pm_rng x1
  have rg_x2 := pm_rng x2
  have rg_x3 := pm_rng x3
  refine hC.1 0 0 _ _ rfl _ _ _ _ _ ?_
  refine And.intro (Exists.intro _ md_o) (Exists.intro _ (Exists.intro _ (Exists.intro _ (Exists.intro _ (And.intro (c_X11_wasPlace D v f hv hf x1 x2 (by omega)) (And.intro rfl (fun r9 A9 h9 => ?_)))))))
  obtain ⟨y1, rfl, rfl, by1⟩ := h9
  refine And.intro (fun c2 => ?_) (fun c2 => ?_)
  · skip
    refine hC.1 1 28 _ _ rfl _ _ _ _ _ ?_
    have k0 : (0 : Int32).toInt = 0 := rfl
    refine hC.1 2 29 _ _ rfl _ _ _ _ _ ?_
    exact ⟨rfl, fun _ => (by decide), rfl, (0 : Int32), rfl, rfl, Or.inr ⟨rfl, by first | omega | (dsimp only; omega) | trivial⟩⟩
  · skip
    refine And.intro (Exists.intro _ md_o) (Exists.intro _ (Exists.intro _ (Exists.intro _ (Exists.intro _ (And.intro (c_X11_wasBond D v f hv hf x1 y1 (by omega) (by omega)) (And.intro rfl (fun r9 A9 h9 => ?_)))))))
    obtain ⟨y3, rfl, rfl, by3⟩ := h9
    refine And.intro (fun c4 => ?_) (fun c4 => ?_)
    · skip
      have dc4 := pm_neI c4
      refine hC.1 1 28 _ _ rfl _ _ _ _ _ ?_
      have k0 : (0 : Int32).toInt = 0 := rfl
      refine hC.1 2 29 _ _ rfl _ _ _ _ _ ?_
      exact ⟨rfl, fun _ => (by decide), rfl, (0 : Int32), rfl, rfl, Or.inr ⟨rfl, by first | omega | (dsimp only; omega) | trivial⟩⟩
    · skip
      have dc4 : (y3).toInt = (x3 : Int32).toInt := congrArg Int32.toInt c4
      have k1 : (1 : Int32).toInt = 1 := rfl
      refine hC.1 2 29 _ _ rfl _ _ _ _ _ ?_
      exact ⟨rfl, fun _ => (by decide), rfl, (1 : Int32), rfl, rfl, Or.inl ⟨rfl, by first | omega | (dsimp only; omega) | trivial⟩⟩

end
end
section
section
variable {l : Launch} {g : pm_G} {A0 : pm_H} {h : Nat} {q : Nat → Nat}
set_option maxRecDepth 100000 in
set_option maxHeartbeats 2000000 in
theorem c_X11_isAhead (D : md_D h q) (v : Nat → Int32) (f : Nat → Nat → Int32) (hv : md_V v) (hf : md_F f) (x1 : Int32) (x2 : Int32) (x3 : Int32) (x4 : Int32) (x5 : Int32) (p0 : 0 ≤ x1.toInt ∧ x1.toInt ≤ 23) (p1 : 0 ≤ x2.toInt ∧ x2.toInt ≤ 23) (p2 : 0 ≤ x3.toInt ∧ x3.toInt ≤ 160) (p3 : -1 ≤ x4.toInt ∧ x4.toInt < 160) : pm_Mt l g 222 1 0 0 [.ref h, .int x1, .int x2, .int x3, .int x4, .int x5] (md A0 g h q v f) (md_Qp (md A0 g h q v f) (fun r => (r = 1 ∧ (True)) ∨ (r = 0 ∧ (True)))) := by
  refine mt_X11_isAhead rfl (fun J hC => ?_)
  have hv9 := hv
  unfold md_V at hv9
  have rg_x1 := pm_rng x1
  have rg_x2 := pm_rng x2
  have rg_x3 := pm_rng x3
  have rg_x4 := pm_rng x4
  have rg_x5 := pm_rng x5
  refine hC.1 0 0 _ _ rfl _ _ _ _ _ ?_
  have k3 : (3 : Int32).toInt = 3 := rfl
  refine And.intro (fun c1 => ?_) (fun c1 => ?_)
  · skip
    have dc1 := pm_neI c1
    refine hC.1 1 15 _ _ rfl _ _ _ _ _ ?_
    have k4 : (4 : Int32).toInt = 4 := rfl
    refine And.intro (fun c2 => ?_) (fun c2 => ?_)
    · skip
      have dc2 := pm_neI c2
      refine hC.1 2 32 _ _ rfl _ _ _ _ _ ?_
      have k0 : (0 : Int32).toInt = 0 := rfl
      refine hC.1 3 33 _ _ rfl _ _ _ _ _ ?_
      refine And.intro (fun c3 => ?_) (fun c3 => ?_)
      · skip
        have dc3 := pm_neI c3
        refine hC.1 4 50 _ _ rfl _ _ _ _ _ ?_
        refine And.intro (fun c4 => ?_) (fun c4 => ?_)
        · skip
          have dc4 := pm_neI c4
          refine hC.1 5 67 _ _ rfl _ _ _ _ _ ?_
          refine hC.1 6 68 _ _ rfl _ _ _ _ _ ?_
          refine And.intro (fun _ => ?_) (fun c9 => absurd c9 (by decide))
          refine hC.1 8 92 _ _ rfl _ _ _ _ _ ?_
          refine And.intro (fun c5 => ?_) (fun c5 => ?_)
          · skip
            refine hC.1 9 101 _ _ rfl _ _ _ _ _ ?_
            refine hC.1 10 102 _ _ rfl _ _ _ _ _ ?_
            exact ⟨rfl, fun _ => (by decide), rfl, (0 : Int32), rfl, rfl, Or.inr ⟨rfl, by first | omega | (dsimp only; omega) | trivial⟩⟩
          · skip
            have k1 : (1 : Int32).toInt = 1 := rfl
            refine hC.1 10 102 _ _ rfl _ _ _ _ _ ?_
            exact ⟨rfl, fun _ => (by decide), rfl, (1 : Int32), rfl, rfl, Or.inl ⟨rfl, by first | omega | (dsimp only; omega) | trivial⟩⟩
        · skip
          have dc4 : (x5).toInt = ((4 : Int32) : Int32).toInt := congrArg Int32.toInt c4
          refine And.intro (Exists.intro _ md_o) (Exists.intro _ (Exists.intro _ (Exists.intro _ (Exists.intro _ (And.intro (c_X11_timesIn D v f hv hf x3 x4 x2 (by omega) (by omega)) (And.intro rfl (fun r9 A9 h9 => ?_)))))))
          obtain ⟨y6, rfl, rfl, by6⟩ := h9
          refine hC.1 6 68 _ _ rfl _ _ _ _ _ ?_
          refine And.intro (fun c7 => ?_) (fun c7 => ?_)
          · skip
            have dc7 : ((0 : Int32)).toInt = (y6 : Int32).toInt := congrArg Int32.toInt c7
            refine hC.1 8 92 _ _ rfl _ _ _ _ _ ?_
            refine And.intro (fun c8 => ?_) (fun c8 => ?_)
            · skip
              refine hC.1 9 101 _ _ rfl _ _ _ _ _ ?_
              refine hC.1 10 102 _ _ rfl _ _ _ _ _ ?_
              exact ⟨rfl, fun _ => (by decide), rfl, (0 : Int32), rfl, rfl, Or.inr ⟨rfl, by first | omega | (dsimp only; omega) | trivial⟩⟩
            · skip
              have k1 : (1 : Int32).toInt = 1 := rfl
              refine hC.1 10 102 _ _ rfl _ _ _ _ _ ?_
              exact ⟨rfl, fun _ => (by decide), rfl, (1 : Int32), rfl, rfl, Or.inl ⟨rfl, by first | omega | (dsimp only; omega) | trivial⟩⟩
          · skip
            have dc7 := pm_neI c7
            refine And.intro (fun c9 => ?_) (fun c9 => ?_)
            · skip
              refine hC.1 7 88 _ _ rfl _ _ _ _ _ ?_
              refine hC.1 10 102 _ _ rfl _ _ _ _ _ ?_
              exact ⟨rfl, fun _ => (by decide), rfl, (0 : Int32), rfl, rfl, Or.inr ⟨rfl, by first | omega | (dsimp only; omega) | trivial⟩⟩
            · skip
              have k1 : (1 : Int32).toInt = 1 := rfl
              refine hC.1 10 102 _ _ rfl _ _ _ _ _ ?_
              exact ⟨rfl, fun _ => (by decide), rfl, (1 : Int32), rfl, rfl, Or.inl ⟨rfl, by first | omega | (dsimp only; omega) | trivial⟩⟩
      · skip
        have dc3 : (x5).toInt = ((3 : Int32) : Int32).toInt := congrArg Int32.toInt c3
        refine Exists.intro _ (And.intro md_o ?_)
        refine Exists.intro _ (Exists.intro _ (And.intro (Or.inl (md_a_weights D)) (And.intro (by omega) ?_)))
        refine hC.1 6 68 _ _ rfl _ _ _ _ _ ?_
        refine And.intro (fun c10 => ?_) (fun c10 => ?_)
        · skip
          have dc10 : ((0 : Int32)).toInt = ((f 2 (x2).toInt.toNat) : Int32).toInt := congrArg Int32.toInt c10
          refine hC.1 8 92 _ _ rfl _ _ _ _ _ ?_
          refine And.intro (fun c11 => ?_) (fun c11 => ?_)
          · skip
            refine hC.1 9 101 _ _ rfl _ _ _ _ _ ?_
            refine hC.1 10 102 _ _ rfl _ _ _ _ _ ?_
            exact ⟨rfl, fun _ => (by decide), rfl, (0 : Int32), rfl, rfl, Or.inr ⟨rfl, by first | omega | (dsimp only; omega) | trivial⟩⟩
          · skip
            have k1 : (1 : Int32).toInt = 1 := rfl
            refine hC.1 10 102 _ _ rfl _ _ _ _ _ ?_
            exact ⟨rfl, fun _ => (by decide), rfl, (1 : Int32), rfl, rfl, Or.inl ⟨rfl, by first | omega | (dsimp only; omega) | trivial⟩⟩
        · skip
          have dc10 := pm_neI c10
          refine And.intro (fun c12 => ?_) (fun c12 => ?_)
          · skip
            refine hC.1 7 88 _ _ rfl _ _ _ _ _ ?_
            refine hC.1 10 102 _ _ rfl _ _ _ _ _ ?_
            exact ⟨rfl, fun _ => (by decide), rfl, (0 : Int32), rfl, rfl, Or.inr ⟨rfl, by first | omega | (dsimp only; omega) | trivial⟩⟩
          · skip
            have k1 : (1 : Int32).toInt = 1 := rfl
            refine hC.1 10 102 _ _ rfl _ _ _ _ _ ?_
            exact ⟨rfl, fun _ => (by decide), rfl, (1 : Int32), rfl, rfl, Or.inl ⟨rfl, by first | omega | (dsimp only; omega) | trivial⟩⟩
    · skip
      have dc2 : (x5).toInt = ((4 : Int32) : Int32).toInt := congrArg Int32.toInt c2
      refine And.intro (Exists.intro _ md_o) (Exists.intro _ (Exists.intro _ (Exists.intro _ (Exists.intro _ (And.intro (c_X11_timesIn D v f hv hf x3 x4 x1 (by omega) (by omega)) (And.intro rfl (fun r9 A9 h9 => ?_)))))))
      obtain ⟨y13, rfl, rfl, by13⟩ := h9
      refine hC.1 3 33 _ _ rfl _ _ _ _ _ ?_
      refine And.intro (fun c14 => ?_) (fun c14 => ?_)
      · skip
        have dc14 := pm_neI c14
        refine hC.1 4 50 _ _ rfl _ _ _ _ _ ?_
        refine And.intro (fun c15 => ?_) (fun c15 => ?_)
        · skip
          have dc15 := pm_neI c15
          refine hC.1 5 67 _ _ rfl _ _ _ _ _ ?_
          have k0 : (0 : Int32).toInt = 0 := rfl
          refine hC.1 6 68 _ _ rfl _ _ _ _ _ ?_
          refine And.intro (fun c16 => ?_) (fun c16 => ?_)
          · skip
            have dc16 : (y13).toInt = ((0 : Int32) : Int32).toInt := congrArg Int32.toInt c16
            refine hC.1 8 92 _ _ rfl _ _ _ _ _ ?_
            refine And.intro (fun c17 => ?_) (fun c17 => ?_)
            · skip
              refine hC.1 9 101 _ _ rfl _ _ _ _ _ ?_
              refine hC.1 10 102 _ _ rfl _ _ _ _ _ ?_
              exact ⟨rfl, fun _ => (by decide), rfl, (0 : Int32), rfl, rfl, Or.inr ⟨rfl, by first | omega | (dsimp only; omega) | trivial⟩⟩
            · skip
              have k1 : (1 : Int32).toInt = 1 := rfl
              refine hC.1 10 102 _ _ rfl _ _ _ _ _ ?_
              exact ⟨rfl, fun _ => (by decide), rfl, (1 : Int32), rfl, rfl, Or.inl ⟨rfl, by first | omega | (dsimp only; omega) | trivial⟩⟩
          · skip
            have dc16 := pm_neI c16
            refine And.intro (fun c18 => ?_) (fun c18 => ?_)
            · skip
              refine hC.1 7 88 _ _ rfl _ _ _ _ _ ?_
              refine hC.1 10 102 _ _ rfl _ _ _ _ _ ?_
              exact ⟨rfl, fun _ => (by decide), rfl, (0 : Int32), rfl, rfl, Or.inr ⟨rfl, by first | omega | (dsimp only; omega) | trivial⟩⟩
            · skip
              have k1 : (1 : Int32).toInt = 1 := rfl
              refine hC.1 10 102 _ _ rfl _ _ _ _ _ ?_
              exact ⟨rfl, fun _ => (by decide), rfl, (1 : Int32), rfl, rfl, Or.inl ⟨rfl, by first | omega | (dsimp only; omega) | trivial⟩⟩
        · skip
          have dc15 : (x5).toInt = ((4 : Int32) : Int32).toInt := congrArg Int32.toInt c15
          refine And.intro (Exists.intro _ md_o) (Exists.intro _ (Exists.intro _ (Exists.intro _ (Exists.intro _ (And.intro (c_X11_timesIn D v f hv hf x3 x4 x2 (by omega) (by omega)) (And.intro rfl (fun r9 A9 h9 => ?_)))))))
          obtain ⟨y19, rfl, rfl, by19⟩ := h9
          refine hC.1 6 68 _ _ rfl _ _ _ _ _ ?_
          refine And.intro (fun c20 => ?_) (fun c20 => ?_)
          · skip
            have dc20 : (y13).toInt = (y19 : Int32).toInt := congrArg Int32.toInt c20
            refine hC.1 8 92 _ _ rfl _ _ _ _ _ ?_
            refine And.intro (fun c21 => ?_) (fun c21 => ?_)
            · skip
              refine hC.1 9 101 _ _ rfl _ _ _ _ _ ?_
              have k0 : (0 : Int32).toInt = 0 := rfl
              refine hC.1 10 102 _ _ rfl _ _ _ _ _ ?_
              exact ⟨rfl, fun _ => (by decide), rfl, (0 : Int32), rfl, rfl, Or.inr ⟨rfl, by first | omega | (dsimp only; omega) | trivial⟩⟩
            · skip
              have k1 : (1 : Int32).toInt = 1 := rfl
              refine hC.1 10 102 _ _ rfl _ _ _ _ _ ?_
              exact ⟨rfl, fun _ => (by decide), rfl, (1 : Int32), rfl, rfl, Or.inl ⟨rfl, by first | omega | (dsimp only; omega) | trivial⟩⟩
          · skip
            have dc20 := pm_neI c20
            refine And.intro (fun c22 => ?_) (fun c22 => ?_)
            · skip
              refine hC.1 7 88 _ _ rfl _ _ _ _ _ ?_
              have k0 : (0 : Int32).toInt = 0 := rfl
              refine hC.1 10 102 _ _ rfl _ _ _ _ _ ?_
              exact ⟨rfl, fun _ => (by decide), rfl, (0 : Int32), rfl, rfl, Or.inr ⟨rfl, by first | omega | (dsimp only; omega) | trivial⟩⟩
            · skip
              have k1 : (1 : Int32).toInt = 1 := rfl
              refine hC.1 10 102 _ _ rfl _ _ _ _ _ ?_
              exact ⟨rfl, fun _ => (by decide), rfl, (1 : Int32), rfl, rfl, Or.inl ⟨rfl, by first | omega | (dsimp only; omega) | trivial⟩⟩
      · skip
        have dc14 : (x5).toInt = ((3 : Int32) : Int32).toInt := congrArg Int32.toInt c14
        refine Exists.intro _ (And.intro md_o ?_)
        refine Exists.intro _ (Exists.intro _ (And.intro (Or.inl (md_a_weights D)) (And.intro (by omega) ?_)))
        refine hC.1 6 68 _ _ rfl _ _ _ _ _ ?_
        refine And.intro (fun c23 => ?_) (fun c23 => ?_)
        · skip
          have dc23 : (y13).toInt = ((f 2 (x2).toInt.toNat) : Int32).toInt := congrArg Int32.toInt c23
          refine hC.1 8 92 _ _ rfl _ _ _ _ _ ?_
          refine And.intro (fun c24 => ?_) (fun c24 => ?_)
          · skip
            refine hC.1 9 101 _ _ rfl _ _ _ _ _ ?_
            have k0 : (0 : Int32).toInt = 0 := rfl
            refine hC.1 10 102 _ _ rfl _ _ _ _ _ ?_
            exact ⟨rfl, fun _ => (by decide), rfl, (0 : Int32), rfl, rfl, Or.inr ⟨rfl, by first | omega | (dsimp only; omega) | trivial⟩⟩
          · skip
            have k1 : (1 : Int32).toInt = 1 := rfl
            refine hC.1 10 102 _ _ rfl _ _ _ _ _ ?_
            exact ⟨rfl, fun _ => (by decide), rfl, (1 : Int32), rfl, rfl, Or.inl ⟨rfl, by first | omega | (dsimp only; omega) | trivial⟩⟩
        · skip
          have dc23 := pm_neI c23
          refine And.intro (fun c25 => ?_) (fun c25 => ?_)
          · skip
            refine hC.1 7 88 _ _ rfl _ _ _ _ _ ?_
            have k0 : (0 : Int32).toInt = 0 := rfl
            refine hC.1 10 102 _ _ rfl _ _ _ _ _ ?_
            exact ⟨rfl, fun _ => (by decide), rfl, (0 : Int32), rfl, rfl, Or.inr ⟨rfl, by first | omega | (dsimp only; omega) | trivial⟩⟩
          · skip
            have k1 : (1 : Int32).toInt = 1 := rfl
            refine hC.1 10 102 _ _ rfl _ _ _ _ _ ?_
            exact ⟨rfl, fun _ => (by decide), rfl, (1 : Int32), rfl, rfl, Or.inl ⟨rfl, by first | omega | (dsimp only; omega) | trivial⟩⟩
  · skip
    have dc1 : (x5).toInt = ((3 : Int32) : Int32).toInt := congrArg Int32.toInt c1
    refine Exists.intro _ (And.intro md_o ?_)
    refine Exists.intro _ (Exists.intro _ (And.intro (Or.inl (md_a_weights D)) (And.intro (by omega) ?_)))
    refine hC.1 3 33 _ _ rfl _ _ _ _ _ ?_
    refine And.intro (fun c26 => ?_) (fun c26 => ?_)
    · skip
      have dc26 := pm_neI c26
      refine hC.1 4 50 _ _ rfl _ _ _ _ _ ?_
      have k4 : (4 : Int32).toInt = 4 := rfl
      refine And.intro (fun c27 => ?_) (fun c27 => ?_)
      · skip
        have dc27 := pm_neI c27
        refine hC.1 5 67 _ _ rfl _ _ _ _ _ ?_
        have k0 : (0 : Int32).toInt = 0 := rfl
        refine hC.1 6 68 _ _ rfl _ _ _ _ _ ?_
        refine And.intro (fun c28 => ?_) (fun c28 => ?_)
        · skip
          have dc28 : ((f 2 (x1).toInt.toNat)).toInt = ((0 : Int32) : Int32).toInt := congrArg Int32.toInt c28
          refine hC.1 8 92 _ _ rfl _ _ _ _ _ ?_
          refine And.intro (fun c29 => ?_) (fun c29 => ?_)
          · skip
            refine hC.1 9 101 _ _ rfl _ _ _ _ _ ?_
            refine hC.1 10 102 _ _ rfl _ _ _ _ _ ?_
            exact ⟨rfl, fun _ => (by decide), rfl, (0 : Int32), rfl, rfl, Or.inr ⟨rfl, by first | omega | (dsimp only; omega) | trivial⟩⟩
          · skip
            have k1 : (1 : Int32).toInt = 1 := rfl
            refine hC.1 10 102 _ _ rfl _ _ _ _ _ ?_
            exact ⟨rfl, fun _ => (by decide), rfl, (1 : Int32), rfl, rfl, Or.inl ⟨rfl, by first | omega | (dsimp only; omega) | trivial⟩⟩
        · skip
          have dc28 := pm_neI c28
          refine And.intro (fun c30 => ?_) (fun c30 => ?_)
          · skip
            refine hC.1 7 88 _ _ rfl _ _ _ _ _ ?_
            refine hC.1 10 102 _ _ rfl _ _ _ _ _ ?_
            exact ⟨rfl, fun _ => (by decide), rfl, (0 : Int32), rfl, rfl, Or.inr ⟨rfl, by first | omega | (dsimp only; omega) | trivial⟩⟩
          · skip
            have k1 : (1 : Int32).toInt = 1 := rfl
            refine hC.1 10 102 _ _ rfl _ _ _ _ _ ?_
            exact ⟨rfl, fun _ => (by decide), rfl, (1 : Int32), rfl, rfl, Or.inl ⟨rfl, by first | omega | (dsimp only; omega) | trivial⟩⟩
      · skip
        have dc27 : (x5).toInt = ((4 : Int32) : Int32).toInt := congrArg Int32.toInt c27
        refine And.intro (Exists.intro _ md_o) (Exists.intro _ (Exists.intro _ (Exists.intro _ (Exists.intro _ (And.intro (c_X11_timesIn D v f hv hf x3 x4 x2 (by omega) (by omega)) (And.intro rfl (fun r9 A9 h9 => ?_)))))))
        obtain ⟨y31, rfl, rfl, by31⟩ := h9
        refine hC.1 6 68 _ _ rfl _ _ _ _ _ ?_
        refine And.intro (fun c32 => ?_) (fun c32 => ?_)
        · skip
          have dc32 : ((f 2 (x1).toInt.toNat)).toInt = (y31 : Int32).toInt := congrArg Int32.toInt c32
          refine hC.1 8 92 _ _ rfl _ _ _ _ _ ?_
          refine And.intro (fun c33 => ?_) (fun c33 => ?_)
          · skip
            refine hC.1 9 101 _ _ rfl _ _ _ _ _ ?_
            have k0 : (0 : Int32).toInt = 0 := rfl
            refine hC.1 10 102 _ _ rfl _ _ _ _ _ ?_
            exact ⟨rfl, fun _ => (by decide), rfl, (0 : Int32), rfl, rfl, Or.inr ⟨rfl, by first | omega | (dsimp only; omega) | trivial⟩⟩
          · skip
            have k1 : (1 : Int32).toInt = 1 := rfl
            refine hC.1 10 102 _ _ rfl _ _ _ _ _ ?_
            exact ⟨rfl, fun _ => (by decide), rfl, (1 : Int32), rfl, rfl, Or.inl ⟨rfl, by first | omega | (dsimp only; omega) | trivial⟩⟩
        · skip
          have dc32 := pm_neI c32
          refine And.intro (fun c34 => ?_) (fun c34 => ?_)
          · skip
            refine hC.1 7 88 _ _ rfl _ _ _ _ _ ?_
            have k0 : (0 : Int32).toInt = 0 := rfl
            refine hC.1 10 102 _ _ rfl _ _ _ _ _ ?_
            exact ⟨rfl, fun _ => (by decide), rfl, (0 : Int32), rfl, rfl, Or.inr ⟨rfl, by first | omega | (dsimp only; omega) | trivial⟩⟩
          · skip
            have k1 : (1 : Int32).toInt = 1 := rfl
            refine hC.1 10 102 _ _ rfl _ _ _ _ _ ?_
            exact ⟨rfl, fun _ => (by decide), rfl, (1 : Int32), rfl, rfl, Or.inl ⟨rfl, by first | omega | (dsimp only; omega) | trivial⟩⟩
    · skip
      have dc26 : (x5).toInt = ((3 : Int32) : Int32).toInt := congrArg Int32.toInt c26
      refine Exists.intro _ (And.intro md_o ?_)
      refine Exists.intro _ (Exists.intro _ (And.intro (Or.inl (md_a_weights D)) (And.intro (by omega) ?_)))
      refine hC.1 6 68 _ _ rfl _ _ _ _ _ ?_
      refine And.intro (fun c35 => ?_) (fun c35 => ?_)
      · skip
        have dc35 : ((f 2 (x1).toInt.toNat)).toInt = ((f 2 (x2).toInt.toNat) : Int32).toInt := congrArg Int32.toInt c35
        refine hC.1 8 92 _ _ rfl _ _ _ _ _ ?_
        refine And.intro (fun c36 => ?_) (fun c36 => ?_)
        · skip
          refine hC.1 9 101 _ _ rfl _ _ _ _ _ ?_
          have k0 : (0 : Int32).toInt = 0 := rfl
          refine hC.1 10 102 _ _ rfl _ _ _ _ _ ?_
          exact ⟨rfl, fun _ => (by decide), rfl, (0 : Int32), rfl, rfl, Or.inr ⟨rfl, by first | omega | (dsimp only; omega) | trivial⟩⟩
        · skip
          have k1 : (1 : Int32).toInt = 1 := rfl
          refine hC.1 10 102 _ _ rfl _ _ _ _ _ ?_
          exact ⟨rfl, fun _ => (by decide), rfl, (1 : Int32), rfl, rfl, Or.inl ⟨rfl, by first | omega | (dsimp only; omega) | trivial⟩⟩
      · skip
        have dc35 := pm_neI c35
        refine And.intro (fun c37 => ?_) (fun c37 => ?_)
        · skip
          refine hC.1 7 88 _ _ rfl _ _ _ _ _ ?_
          have k0 : (0 : Int32).toInt = 0 := rfl
          refine hC.1 10 102 _ _ rfl _ _ _ _ _ ?_
          exact ⟨rfl, fun _ => (by decide), rfl, (0 : Int32), rfl, rfl, Or.inr ⟨rfl, by first | omega | (dsimp only; omega) | trivial⟩⟩
        · skip
          have k1 : (1 : Int32).toInt = 1 := rfl
          refine hC.1 10 102 _ _ rfl _ _ _ _ _ ?_
          exact ⟨rfl, fun _ => (by decide), rfl, (1 : Int32), rfl, rfl, Or.inl ⟨rfl, by first | omega | (dsimp only; omega) | trivial⟩⟩

end
end
section
section
variable {l : Launch} {g : pm_G} {A0 : pm_H} {h : Nat} {q : Nat → Nat}
set_option maxRecDepth 100000 in
set_option maxHeartbeats 2000000 in
theorem c_X11_since (D : md_D h q) (v : Nat → Int32) (f : Nat → Nat → Int32) (hv : md_V v) (hf : md_F f) (x1 : Int32)  : pm_Mt l g 234 3 0 0 [.ref h, .int x1] (md A0 g h q v f) (md_Qp (md A0 g h q v f) (fun r => True)) := by
  refine mt_X11_since rfl (fun J hC => ?_)
  have hv9 := hv
  unfold md_V at hv9
  have rg_x1 := pm_rng x1
  refine hC.1 0 0 _ _ rfl _ _ _ _ _ ?_
  refine And.intro (Exists.intro _ md_o) (Exists.intro _ (Exists.intro _ (Exists.intro _ (Exists.intro _ (And.intro (c_X11_place D v f hv hf x1 ) (And.intro rfl (fun r9 A9 h9 => ?_)))))))
  obtain ⟨y1, rfl, rfl, by1⟩ := h9
  refine And.intro (fun c2 => ?_) (fun c2 => ?_)
  · skip
    refine hC.1 1 12 _ _ rfl _ _ _ _ _ ?_
    refine And.intro (Exists.intro _ md_o) (Exists.intro _ (Exists.intro _ (Exists.intro _ (Exists.intro _ (And.intro (c_X11_bondOf D v f hv hf y1 (by omega)) (And.intro rfl (fun r9 A9 h9 => ?_)))))))
    obtain ⟨y3, rfl, rfl, by3⟩ := h9
    refine Exists.intro _ (And.intro md_o ?_)
    have lp4 : ∀ (n : Nat) (z4_24 : Int32), (0 ≤ z4_24.toInt ∧ z4_24.toInt ≤ (v 4).toInt) → z4_24.toInt < (n : Int) → J 24 [some (.ref h), some (.int x1), some (.int y1), some (.int y3), some (.int z4_24)] [] (md A0 g h q v f) 0 0 := by
      intro n
      induction n with
      | zero =>
        intro z4_24 j0_24 j1_24
        omega
      | succ n ih5 =>
        intro z4_24 j0_24 j1_24
        refine hC.1 2 24 _ _ rfl _ _ _ _ _ ?_
        have k1 : (1 : Int32).toInt = 1 := rfl
        intro m6 em_28
        try have e6 : m6.toInt = (z4_24).toInt - (1) := by rw [em_28]; exact pm_subc _ _ (1) rfl (by omega) (by omega)
        refine And.intro (Exists.intro _ md_o) (Exists.intro _ (Exists.intro _ (Exists.intro _ (Exists.intro _ (And.intro (c_X11_isKnown D v f hv hf m6 ) (And.intro rfl (fun r9 A9 h9 => ?_)))))))
        rcases h9 with ⟨y7, rfl, rfl, ⟨rfl, by7⟩ | ⟨rfl, by7⟩⟩
        · skip
          refine And.intro (fun c9 => absurd c9 (by decide)) (fun _ => ?_)
          intro m8 em_39
          try have e8 : m8.toInt = (z4_24).toInt - (1) := by rw [em_39]; exact pm_subc _ _ (1) rfl (by omega) (by omega)
          refine And.intro (Exists.intro _ md_o) (Exists.intro _ (Exists.intro _ (Exists.intro _ (Exists.intro _ (And.intro (c_X11_hadBond D v f hv hf m8 x1 y3 (by omega)) (And.intro rfl (fun r9 A9 h9 => ?_)))))))
          rcases h9 with ⟨y9, rfl, rfl, ⟨rfl, by9⟩ | ⟨rfl, by9⟩⟩
          · skip
            refine And.intro (fun c9 => absurd c9 (by decide)) (fun _ => ?_)
            have km1 : (-1 : Int32).toInt = -1 := rfl
            intro m10 em_48
            try have e10 : m10.toInt = (z4_24).toInt + (-1) := by rw [em_48]; exact pm_addc _ _ (-1) rfl (by omega) (by omega)
            exact ih5 m10 (by omega) (by omega)
          · skip
            have k0 : (0 : Int32).toInt = 0 := rfl
            refine And.intro (fun _ => ?_) (fun c9 => absurd c9 (by decide))
            refine hC.1 3 54 _ _ rfl _ _ _ _ _ ?_
            exact ⟨rfl, fun e9 => absurd e9 (by decide), rfl, z4_24, rfl, rfl, by exact True.intro⟩
        · skip
          have k0 : (0 : Int32).toInt = 0 := rfl
          refine And.intro (fun _ => ?_) (fun c9 => absurd c9 (by decide))
          refine hC.1 3 54 _ _ rfl _ _ _ _ _ ?_
          exact ⟨rfl, fun e9 => absurd e9 (by decide), rfl, z4_24, rfl, rfl, by exact True.intro⟩
    exact lp4 ((v 4).toInt).toNat.succ (v 4) (by omega) (by omega)
  · skip
    have km1 : (-1 : Int32).toInt = -1 := rfl
    exact ⟨rfl, fun e9 => absurd e9 (by decide), rfl, (-1 : Int32), rfl, rfl, by exact True.intro⟩

set_option maxRecDepth 100000 in
set_option maxHeartbeats 2000000 in
theorem c_X11_changed (D : md_D h q) (v : Nat → Int32) (f : Nat → Nat → Int32) (hv : md_V v) (hf : md_F f) (x1 : Int32) (x2 : Int32)  : pm_Mt l g 237 2 0 0 [.ref h, .int x1, .int x2] (md A0 g h q v f) (md_Qp (md A0 g h q v f) (fun r => True)) := by
  refine mt_X11_changed rfl (fun J hC => ?_)
  have hv9 := hv
  unfold md_V at hv9
  have rg_x1 := pm_rng x1
  have rg_x2 := pm_rng x2
  refine hC.1 0 0 _ _ rfl _ _ _ _ _ ?_
  refine And.intro (Exists.intro _ md_o) (Exists.intro _ (Exists.intro _ (Exists.intro _ (Exists.intro _ (And.intro (c_X11_isKnown D v f hv hf x1 ) (And.intro rfl (fun r9 A9 h9 => ?_)))))))
  rcases h9 with ⟨y1, rfl, rfl, ⟨rfl, by1⟩ | ⟨rfl, by1⟩⟩
  · skip
    have k1 : (1 : Int32).toInt = 1 := rfl
    refine And.intro (fun c9 => absurd c9 (by decide)) (fun _ => ?_)
    have k0 : (0 : Int32).toInt = 0 := rfl
    have k3 : (3 : Int32).toInt = 3 := rfl
    refine Exists.intro _ (Exists.intro _ (Exists.intro _ (Exists.intro _ (And.intro (c_X11_isIn (md A0 g h q v f) x2 (0 : Int32) (3 : Int32) ) (And.intro rfl (fun r9 A9 h9 => ?_))))))
    rcases h9 with ⟨y2, rfl, rfl, ⟨rfl, by2⟩ | ⟨rfl, by2⟩⟩
    · skip
      refine And.intro (fun _ => ?_) (fun c9 => absurd c9 (by decide))
      refine hC.1 2 19 _ _ rfl _ _ _ _ _ ?_
      have lp3 : ∀ (n : Nat) (z3_24 : Int32) (z4_24 : Int32), (0 ≤ z4_24.toInt ∧ z4_24.toInt ≤ (v 0).toInt) → 200 - z4_24.toInt < (n : Int) → J 24 [some (.ref h), some (.int x1), some (.int x2), some (.int z3_24), some (.int z4_24), none, none] [] (md A0 g h q v f) 0 0 := by
        intro n
        induction n with
        | zero =>
          intro z3_24 z4_24 j0_24 j1_24
          omega
        | succ n ih4 =>
          intro z3_24 z4_24 j0_24 j1_24
          refine hC.1 3 24 _ _ rfl _ _ _ _ _ ?_
          refine Exists.intro _ (And.intro md_o ?_)
          refine And.intro (fun c5 => ?_) (fun c5 => ?_)
          · skip
            refine hC.1 13 140 _ _ rfl _ _ _ _ _ ?_
            exact ⟨rfl, fun e9 => absurd e9 (by decide), rfl, z3_24, rfl, rfl, by exact True.intro⟩
          · skip
            refine Exists.intro _ (And.intro md_o ?_)
            refine Exists.intro _ (Exists.intro _ (And.intro (Or.inl (md_a_names D)) (And.intro (by omega) ?_)))
            refine And.intro (Exists.intro _ md_o) (Exists.intro _ (Exists.intro _ (Exists.intro _ (Exists.intro _ (And.intro (c_X11_wasPlace D v f hv hf x1 (f 1 (z4_24).toInt.toNat) (by omega)) (And.intro rfl (fun r9 A9 h9 => ?_)))))))
            obtain ⟨y6, rfl, rfl, by6⟩ := h9
            refine And.intro (fun c7 => ?_) (fun c7 => ?_)
            · skip
              refine hC.1 4 55 _ _ rfl _ _ _ _ _ ?_
              refine And.intro (fun c8 => ?_) (fun c8 => ?_)
              · skip
                have dc8 : (x2).toInt = (0 : Int32).toInt := congrArg Int32.toInt c8
                refine hC.1 7 114 _ _ rfl _ _ _ _ _ ?_
                refine hC.1 9 119 _ _ rfl _ _ _ _ _ ?_
                refine And.intro (fun c9 => absurd c9 (by decide)) (fun _ => ?_)
                refine hC.1 11 132 _ _ rfl _ _ _ _ _ ?_
                intro m9 em_132
                try have e9 : m9.toInt = (z3_24).toInt + (1) := by rw [em_132]; exact pm_addc _ _ (1) rfl (by omega) (by omega)
                refine hC.1 12 134 _ _ rfl _ _ _ _ _ ?_
                intro m10 em_134
                try have e10 : m10.toInt = (z4_24).toInt + (1) := by rw [em_134]; exact pm_addc _ _ (1) rfl (by omega) (by omega)
                exact hC.2 [false, false, false, false, false, true, true] _ _ _ _ _ _ (ih4 m9 m10 (by omega) (by omega))
              · skip
                have dc8 := pm_neI c8
                refine And.intro (fun c11 => ?_) (fun c11 => ?_)
                · skip
                  have dc11 := pm_neI c11
                  refine hC.1 5 71 _ _ rfl _ _ _ _ _ ?_
                  have k2 : (2 : Int32).toInt = 2 := rfl
                  refine And.intro (fun c12 => ?_) (fun c12 => ?_)
                  · skip
                    have dc12 := pm_neI c12
                    refine hC.1 6 93 _ _ rfl _ _ _ _ _ ?_
                    refine And.intro (fun c13 => ?_) (fun c13 => ?_)
                    · skip
                      have dc13 := pm_neI c13
                      refine hC.1 8 118 _ _ rfl _ _ _ _ _ ?_
                      refine hC.1 9 119 _ _ rfl _ _ _ _ _ ?_
                      refine And.intro (fun _ => ?_) (fun c9 => absurd c9 (by decide))
                      refine hC.1 10 131 _ _ rfl _ _ _ _ _ ?_
                      refine hC.1 11 132 _ _ rfl _ _ _ _ _ ?_
                      intro m14 em_132
                      try have e14 : m14.toInt = (z3_24).toInt + (0) := by rw [em_132]; exact pm_addc _ _ (0) rfl (by omega) (by omega)
                      refine hC.1 12 134 _ _ rfl _ _ _ _ _ ?_
                      intro m15 em_134
                      try have e15 : m15.toInt = (z4_24).toInt + (1) := by rw [em_134]; exact pm_addc _ _ (1) rfl (by omega) (by omega)
                      exact hC.2 [false, false, false, false, false, true, true] _ _ _ _ _ _ (ih4 m14 m15 (by omega) (by omega))
                    · skip
                      have dc13 : (x2).toInt = ((3 : Int32) : Int32).toInt := congrArg Int32.toInt c13
                      refine And.intro (Exists.intro _ md_o) (Exists.intro _ (Exists.intro _ (Exists.intro _ (Exists.intro _ (And.intro (c_X11_bondOf D v f hv hf z4_24 (by omega)) (And.intro rfl (fun r9 A9 h9 => ?_)))))))
                      obtain ⟨y16, rfl, rfl, by16⟩ := h9
                      refine And.intro (Exists.intro _ md_o) (Exists.intro _ (Exists.intro _ (Exists.intro _ (Exists.intro _ (And.intro (c_X11_wasBond D v f hv hf x1 y6 (by omega) (by omega)) (And.intro rfl (fun r9 A9 h9 => ?_)))))))
                      obtain ⟨y17, rfl, rfl, by17⟩ := h9
                      refine And.intro (fun c18 => ?_) (fun c18 => ?_)
                      · skip
                        have dc18 : (y16).toInt = (y17 : Int32).toInt := congrArg Int32.toInt c18
                        refine hC.1 8 118 _ _ rfl _ _ _ _ _ ?_
                        refine hC.1 9 119 _ _ rfl _ _ _ _ _ ?_
                        refine And.intro (fun _ => ?_) (fun c9 => absurd c9 (by decide))
                        refine hC.1 10 131 _ _ rfl _ _ _ _ _ ?_
                        refine hC.1 11 132 _ _ rfl _ _ _ _ _ ?_
                        intro m19 em_132
                        try have e19 : m19.toInt = (z3_24).toInt + (0) := by rw [em_132]; exact pm_addc _ _ (0) rfl (by omega) (by omega)
                        refine hC.1 12 134 _ _ rfl _ _ _ _ _ ?_
                        intro m20 em_134
                        try have e20 : m20.toInt = (z4_24).toInt + (1) := by rw [em_134]; exact pm_addc _ _ (1) rfl (by omega) (by omega)
                        exact hC.2 [false, false, false, false, false, true, true] _ _ _ _ _ _ (ih4 m19 m20 (by omega) (by omega))
                      · skip
                        have dc18 := pm_neI c18
                        refine hC.1 7 114 _ _ rfl _ _ _ _ _ ?_
                        refine hC.1 9 119 _ _ rfl _ _ _ _ _ ?_
                        refine And.intro (fun c9 => absurd c9 (by decide)) (fun _ => ?_)
                        refine hC.1 11 132 _ _ rfl _ _ _ _ _ ?_
                        intro m21 em_132
                        try have e21 : m21.toInt = (z3_24).toInt + (1) := by rw [em_132]; exact pm_addc _ _ (1) rfl (by omega) (by omega)
                        refine hC.1 12 134 _ _ rfl _ _ _ _ _ ?_
                        intro m22 em_134
                        try have e22 : m22.toInt = (z4_24).toInt + (1) := by rw [em_134]; exact pm_addc _ _ (1) rfl (by omega) (by omega)
                        exact hC.2 [false, false, false, false, false, true, true] _ _ _ _ _ _ (ih4 m21 m22 (by omega) (by omega))
                  · skip
                    have dc12 : (x2).toInt = ((2 : Int32) : Int32).toInt := congrArg Int32.toInt c12
                    refine Exists.intro _ (And.intro md_o ?_)
                    refine Exists.intro _ (Exists.intro _ (And.intro (Or.inl (md_a_colours D)) (And.intro (by omega) ?_)))
                    have w23 : (0 : Int) ≤ (f 0 (z4_24).toInt.toNat).toInt ∧ (f 0 (z4_24).toInt.toNat).toInt ≤ (23 : Int) := hf 0 _
                    refine And.intro (Exists.intro _ md_o) (Exists.intro _ (Exists.intro _ (Exists.intro _ (Exists.intro _ (And.intro (c_X11_wasColour D v f hv hf x1 y6 (by omega) (by omega)) (And.intro rfl (fun r9 A9 h9 => ?_)))))))
                    obtain ⟨y24, rfl, rfl, by24⟩ := h9
                    refine And.intro (fun c25 => ?_) (fun c25 => ?_)
                    · skip
                      have dc25 := pm_neI c25
                      refine hC.1 7 114 _ _ rfl _ _ _ _ _ ?_
                      refine hC.1 9 119 _ _ rfl _ _ _ _ _ ?_
                      refine And.intro (fun c9 => absurd c9 (by decide)) (fun _ => ?_)
                      refine hC.1 11 132 _ _ rfl _ _ _ _ _ ?_
                      intro m26 em_132
                      try have e26 : m26.toInt = (z3_24).toInt + (1) := by rw [em_132]; exact pm_addc _ _ (1) rfl (by omega) (by omega)
                      refine hC.1 12 134 _ _ rfl _ _ _ _ _ ?_
                      intro m27 em_134
                      try have e27 : m27.toInt = (z4_24).toInt + (1) := by rw [em_134]; exact pm_addc _ _ (1) rfl (by omega) (by omega)
                      exact hC.2 [false, false, false, false, false, true, true] _ _ _ _ _ _ (ih4 m26 m27 (by omega) (by omega))
                    · skip
                      have dc25 : ((f 0 (z4_24).toInt.toNat)).toInt = (y24 : Int32).toInt := congrArg Int32.toInt c25
                      refine hC.1 6 93 _ _ rfl _ _ _ _ _ ?_
                      refine And.intro (fun c28 => ?_) (fun c28 => ?_)
                      · skip
                        have dc28 := pm_neI c28
                        refine hC.1 8 118 _ _ rfl _ _ _ _ _ ?_
                        refine hC.1 9 119 _ _ rfl _ _ _ _ _ ?_
                        refine And.intro (fun _ => ?_) (fun c9 => absurd c9 (by decide))
                        refine hC.1 10 131 _ _ rfl _ _ _ _ _ ?_
                        refine hC.1 11 132 _ _ rfl _ _ _ _ _ ?_
                        intro m29 em_132
                        try have e29 : m29.toInt = (z3_24).toInt + (0) := by rw [em_132]; exact pm_addc _ _ (0) rfl (by omega) (by omega)
                        refine hC.1 12 134 _ _ rfl _ _ _ _ _ ?_
                        intro m30 em_134
                        try have e30 : m30.toInt = (z4_24).toInt + (1) := by rw [em_134]; exact pm_addc _ _ (1) rfl (by omega) (by omega)
                        exact hC.2 [false, false, false, false, false, true, true] _ _ _ _ _ _ (ih4 m29 m30 (by omega) (by omega))
                      · skip
                        have dc28 : (x2).toInt = ((3 : Int32) : Int32).toInt := congrArg Int32.toInt c28
                        refine And.intro (Exists.intro _ md_o) (Exists.intro _ (Exists.intro _ (Exists.intro _ (Exists.intro _ (And.intro (c_X11_bondOf D v f hv hf z4_24 (by omega)) (And.intro rfl (fun r9 A9 h9 => ?_)))))))
                        obtain ⟨y31, rfl, rfl, by31⟩ := h9
                        refine And.intro (Exists.intro _ md_o) (Exists.intro _ (Exists.intro _ (Exists.intro _ (Exists.intro _ (And.intro (c_X11_wasBond D v f hv hf x1 y6 (by omega) (by omega)) (And.intro rfl (fun r9 A9 h9 => ?_)))))))
                        obtain ⟨y32, rfl, rfl, by32⟩ := h9
                        refine And.intro (fun c33 => ?_) (fun c33 => ?_)
                        · skip
                          have dc33 : (y31).toInt = (y32 : Int32).toInt := congrArg Int32.toInt c33
                          refine hC.1 8 118 _ _ rfl _ _ _ _ _ ?_
                          refine hC.1 9 119 _ _ rfl _ _ _ _ _ ?_
                          refine And.intro (fun _ => ?_) (fun c9 => absurd c9 (by decide))
                          refine hC.1 10 131 _ _ rfl _ _ _ _ _ ?_
                          refine hC.1 11 132 _ _ rfl _ _ _ _ _ ?_
                          intro m34 em_132
                          try have e34 : m34.toInt = (z3_24).toInt + (0) := by rw [em_132]; exact pm_addc _ _ (0) rfl (by omega) (by omega)
                          refine hC.1 12 134 _ _ rfl _ _ _ _ _ ?_
                          intro m35 em_134
                          try have e35 : m35.toInt = (z4_24).toInt + (1) := by rw [em_134]; exact pm_addc _ _ (1) rfl (by omega) (by omega)
                          exact hC.2 [false, false, false, false, false, true, true] _ _ _ _ _ _ (ih4 m34 m35 (by omega) (by omega))
                        · skip
                          have dc33 := pm_neI c33
                          refine hC.1 7 114 _ _ rfl _ _ _ _ _ ?_
                          refine hC.1 9 119 _ _ rfl _ _ _ _ _ ?_
                          refine And.intro (fun c9 => absurd c9 (by decide)) (fun _ => ?_)
                          refine hC.1 11 132 _ _ rfl _ _ _ _ _ ?_
                          intro m36 em_132
                          try have e36 : m36.toInt = (z3_24).toInt + (1) := by rw [em_132]; exact pm_addc _ _ (1) rfl (by omega) (by omega)
                          refine hC.1 12 134 _ _ rfl _ _ _ _ _ ?_
                          intro m37 em_134
                          try have e37 : m37.toInt = (z4_24).toInt + (1) := by rw [em_134]; exact pm_addc _ _ (1) rfl (by omega) (by omega)
                          exact hC.2 [false, false, false, false, false, true, true] _ _ _ _ _ _ (ih4 m36 m37 (by omega) (by omega))
                · skip
                  have dc11 : (x2).toInt = ((1 : Int32) : Int32).toInt := congrArg Int32.toInt c11
                  refine And.intro (fun c38 => ?_) (fun c38 => ?_)
                  · skip
                    have dc38 := pm_neI c38
                    refine hC.1 7 114 _ _ rfl _ _ _ _ _ ?_
                    refine hC.1 9 119 _ _ rfl _ _ _ _ _ ?_
                    refine And.intro (fun c9 => absurd c9 (by decide)) (fun _ => ?_)
                    refine hC.1 11 132 _ _ rfl _ _ _ _ _ ?_
                    intro m39 em_132
                    try have e39 : m39.toInt = (z3_24).toInt + (1) := by rw [em_132]; exact pm_addc _ _ (1) rfl (by omega) (by omega)
                    refine hC.1 12 134 _ _ rfl _ _ _ _ _ ?_
                    intro m40 em_134
                    try have e40 : m40.toInt = (z4_24).toInt + (1) := by rw [em_134]; exact pm_addc _ _ (1) rfl (by omega) (by omega)
                    exact hC.2 [false, false, false, false, false, true, true] _ _ _ _ _ _ (ih4 m39 m40 (by omega) (by omega))
                  · skip
                    have dc38 : (z4_24).toInt = (y6 : Int32).toInt := congrArg Int32.toInt c38
                    refine hC.1 5 71 _ _ rfl _ _ _ _ _ ?_
                    have k2 : (2 : Int32).toInt = 2 := rfl
                    refine And.intro (fun c41 => ?_) (fun c41 => ?_)
                    · skip
                      have dc41 := pm_neI c41
                      refine hC.1 6 93 _ _ rfl _ _ _ _ _ ?_
                      refine And.intro (fun c42 => ?_) (fun c42 => ?_)
                      · skip
                        have dc42 := pm_neI c42
                        refine hC.1 8 118 _ _ rfl _ _ _ _ _ ?_
                        refine hC.1 9 119 _ _ rfl _ _ _ _ _ ?_
                        refine And.intro (fun _ => ?_) (fun c9 => absurd c9 (by decide))
                        refine hC.1 10 131 _ _ rfl _ _ _ _ _ ?_
                        refine hC.1 11 132 _ _ rfl _ _ _ _ _ ?_
                        intro m43 em_132
                        try have e43 : m43.toInt = (z3_24).toInt + (0) := by rw [em_132]; exact pm_addc _ _ (0) rfl (by omega) (by omega)
                        refine hC.1 12 134 _ _ rfl _ _ _ _ _ ?_
                        intro m44 em_134
                        try have e44 : m44.toInt = (z4_24).toInt + (1) := by rw [em_134]; exact pm_addc _ _ (1) rfl (by omega) (by omega)
                        exact hC.2 [false, false, false, false, false, true, true] _ _ _ _ _ _ (ih4 m43 m44 (by omega) (by omega))
                      · skip
                        have dc42 : (x2).toInt = ((3 : Int32) : Int32).toInt := congrArg Int32.toInt c42
                        refine And.intro (Exists.intro _ md_o) (Exists.intro _ (Exists.intro _ (Exists.intro _ (Exists.intro _ (And.intro (c_X11_bondOf D v f hv hf z4_24 (by omega)) (And.intro rfl (fun r9 A9 h9 => ?_)))))))
                        obtain ⟨y45, rfl, rfl, by45⟩ := h9
                        refine And.intro (Exists.intro _ md_o) (Exists.intro _ (Exists.intro _ (Exists.intro _ (Exists.intro _ (And.intro (c_X11_wasBond D v f hv hf x1 y6 (by omega) (by omega)) (And.intro rfl (fun r9 A9 h9 => ?_)))))))
                        obtain ⟨y46, rfl, rfl, by46⟩ := h9
                        refine And.intro (fun c47 => ?_) (fun c47 => ?_)
                        · skip
                          have dc47 : (y45).toInt = (y46 : Int32).toInt := congrArg Int32.toInt c47
                          refine hC.1 8 118 _ _ rfl _ _ _ _ _ ?_
                          refine hC.1 9 119 _ _ rfl _ _ _ _ _ ?_
                          refine And.intro (fun _ => ?_) (fun c9 => absurd c9 (by decide))
                          refine hC.1 10 131 _ _ rfl _ _ _ _ _ ?_
                          refine hC.1 11 132 _ _ rfl _ _ _ _ _ ?_
                          intro m48 em_132
                          try have e48 : m48.toInt = (z3_24).toInt + (0) := by rw [em_132]; exact pm_addc _ _ (0) rfl (by omega) (by omega)
                          refine hC.1 12 134 _ _ rfl _ _ _ _ _ ?_
                          intro m49 em_134
                          try have e49 : m49.toInt = (z4_24).toInt + (1) := by rw [em_134]; exact pm_addc _ _ (1) rfl (by omega) (by omega)
                          exact hC.2 [false, false, false, false, false, true, true] _ _ _ _ _ _ (ih4 m48 m49 (by omega) (by omega))
                        · skip
                          have dc47 := pm_neI c47
                          refine hC.1 7 114 _ _ rfl _ _ _ _ _ ?_
                          refine hC.1 9 119 _ _ rfl _ _ _ _ _ ?_
                          refine And.intro (fun c9 => absurd c9 (by decide)) (fun _ => ?_)
                          refine hC.1 11 132 _ _ rfl _ _ _ _ _ ?_
                          intro m50 em_132
                          try have e50 : m50.toInt = (z3_24).toInt + (1) := by rw [em_132]; exact pm_addc _ _ (1) rfl (by omega) (by omega)
                          refine hC.1 12 134 _ _ rfl _ _ _ _ _ ?_
                          intro m51 em_134
                          try have e51 : m51.toInt = (z4_24).toInt + (1) := by rw [em_134]; exact pm_addc _ _ (1) rfl (by omega) (by omega)
                          exact hC.2 [false, false, false, false, false, true, true] _ _ _ _ _ _ (ih4 m50 m51 (by omega) (by omega))
                    · skip
                      have dc41 : (x2).toInt = ((2 : Int32) : Int32).toInt := congrArg Int32.toInt c41
                      refine Exists.intro _ (And.intro md_o ?_)
                      refine Exists.intro _ (Exists.intro _ (And.intro (Or.inl (md_a_colours D)) (And.intro (by omega) ?_)))
                      have w52 : (0 : Int) ≤ (f 0 (z4_24).toInt.toNat).toInt ∧ (f 0 (z4_24).toInt.toNat).toInt ≤ (23 : Int) := hf 0 _
                      refine And.intro (Exists.intro _ md_o) (Exists.intro _ (Exists.intro _ (Exists.intro _ (Exists.intro _ (And.intro (c_X11_wasColour D v f hv hf x1 y6 (by omega) (by omega)) (And.intro rfl (fun r9 A9 h9 => ?_)))))))
                      obtain ⟨y53, rfl, rfl, by53⟩ := h9
                      refine And.intro (fun c54 => ?_) (fun c54 => ?_)
                      · skip
                        have dc54 := pm_neI c54
                        refine hC.1 7 114 _ _ rfl _ _ _ _ _ ?_
                        refine hC.1 9 119 _ _ rfl _ _ _ _ _ ?_
                        refine And.intro (fun c9 => absurd c9 (by decide)) (fun _ => ?_)
                        refine hC.1 11 132 _ _ rfl _ _ _ _ _ ?_
                        intro m55 em_132
                        try have e55 : m55.toInt = (z3_24).toInt + (1) := by rw [em_132]; exact pm_addc _ _ (1) rfl (by omega) (by omega)
                        refine hC.1 12 134 _ _ rfl _ _ _ _ _ ?_
                        intro m56 em_134
                        try have e56 : m56.toInt = (z4_24).toInt + (1) := by rw [em_134]; exact pm_addc _ _ (1) rfl (by omega) (by omega)
                        exact hC.2 [false, false, false, false, false, true, true] _ _ _ _ _ _ (ih4 m55 m56 (by omega) (by omega))
                      · skip
                        have dc54 : ((f 0 (z4_24).toInt.toNat)).toInt = (y53 : Int32).toInt := congrArg Int32.toInt c54
                        refine hC.1 6 93 _ _ rfl _ _ _ _ _ ?_
                        refine And.intro (fun c57 => ?_) (fun c57 => ?_)
                        · skip
                          have dc57 := pm_neI c57
                          refine hC.1 8 118 _ _ rfl _ _ _ _ _ ?_
                          refine hC.1 9 119 _ _ rfl _ _ _ _ _ ?_
                          refine And.intro (fun _ => ?_) (fun c9 => absurd c9 (by decide))
                          refine hC.1 10 131 _ _ rfl _ _ _ _ _ ?_
                          refine hC.1 11 132 _ _ rfl _ _ _ _ _ ?_
                          intro m58 em_132
                          try have e58 : m58.toInt = (z3_24).toInt + (0) := by rw [em_132]; exact pm_addc _ _ (0) rfl (by omega) (by omega)
                          refine hC.1 12 134 _ _ rfl _ _ _ _ _ ?_
                          intro m59 em_134
                          try have e59 : m59.toInt = (z4_24).toInt + (1) := by rw [em_134]; exact pm_addc _ _ (1) rfl (by omega) (by omega)
                          exact hC.2 [false, false, false, false, false, true, true] _ _ _ _ _ _ (ih4 m58 m59 (by omega) (by omega))
                        · skip
                          have dc57 : (x2).toInt = ((3 : Int32) : Int32).toInt := congrArg Int32.toInt c57
                          refine And.intro (Exists.intro _ md_o) (Exists.intro _ (Exists.intro _ (Exists.intro _ (Exists.intro _ (And.intro (c_X11_bondOf D v f hv hf z4_24 (by omega)) (And.intro rfl (fun r9 A9 h9 => ?_)))))))
                          obtain ⟨y60, rfl, rfl, by60⟩ := h9
                          refine And.intro (Exists.intro _ md_o) (Exists.intro _ (Exists.intro _ (Exists.intro _ (Exists.intro _ (And.intro (c_X11_wasBond D v f hv hf x1 y6 (by omega) (by omega)) (And.intro rfl (fun r9 A9 h9 => ?_)))))))
                          obtain ⟨y61, rfl, rfl, by61⟩ := h9
                          refine And.intro (fun c62 => ?_) (fun c62 => ?_)
                          · skip
                            have dc62 : (y60).toInt = (y61 : Int32).toInt := congrArg Int32.toInt c62
                            refine hC.1 8 118 _ _ rfl _ _ _ _ _ ?_
                            refine hC.1 9 119 _ _ rfl _ _ _ _ _ ?_
                            refine And.intro (fun _ => ?_) (fun c9 => absurd c9 (by decide))
                            refine hC.1 10 131 _ _ rfl _ _ _ _ _ ?_
                            refine hC.1 11 132 _ _ rfl _ _ _ _ _ ?_
                            intro m63 em_132
                            try have e63 : m63.toInt = (z3_24).toInt + (0) := by rw [em_132]; exact pm_addc _ _ (0) rfl (by omega) (by omega)
                            refine hC.1 12 134 _ _ rfl _ _ _ _ _ ?_
                            intro m64 em_134
                            try have e64 : m64.toInt = (z4_24).toInt + (1) := by rw [em_134]; exact pm_addc _ _ (1) rfl (by omega) (by omega)
                            exact hC.2 [false, false, false, false, false, true, true] _ _ _ _ _ _ (ih4 m63 m64 (by omega) (by omega))
                          · skip
                            have dc62 := pm_neI c62
                            refine hC.1 7 114 _ _ rfl _ _ _ _ _ ?_
                            refine hC.1 9 119 _ _ rfl _ _ _ _ _ ?_
                            refine And.intro (fun c9 => absurd c9 (by decide)) (fun _ => ?_)
                            refine hC.1 11 132 _ _ rfl _ _ _ _ _ ?_
                            intro m65 em_132
                            try have e65 : m65.toInt = (z3_24).toInt + (1) := by rw [em_132]; exact pm_addc _ _ (1) rfl (by omega) (by omega)
                            refine hC.1 12 134 _ _ rfl _ _ _ _ _ ?_
                            intro m66 em_134
                            try have e66 : m66.toInt = (z4_24).toInt + (1) := by rw [em_134]; exact pm_addc _ _ (1) rfl (by omega) (by omega)
                            exact hC.2 [false, false, false, false, false, true, true] _ _ _ _ _ _ (ih4 m65 m66 (by omega) (by omega))
            · skip
              refine hC.1 12 134 _ _ rfl _ _ _ _ _ ?_
              intro m67 em_134
              try have e67 : m67.toInt = (z4_24).toInt + (1) := by rw [em_134]; exact pm_addc _ _ (1) rfl (by omega) (by omega)
              exact hC.2 [false, false, false, false, false, true, false] _ _ _ _ _ _ (ih4 z3_24 m67 (by omega) (by omega))
      exact lp3 (200 - (0 : Int32).toInt).toNat.succ (0 : Int32) (0 : Int32) (by omega) (by omega)
    · skip
      refine And.intro (fun c9 => absurd c9 (by decide)) (fun _ => ?_)
      refine hC.1 1 17 _ _ rfl _ _ _ _ _ ?_
      have km1 : (-1 : Int32).toInt = -1 := rfl
      exact ⟨rfl, fun e9 => absurd e9 (by decide), rfl, (-1 : Int32), rfl, rfl, by exact True.intro⟩
  · skip
    have k0 : (0 : Int32).toInt = 0 := rfl
    refine And.intro (fun _ => ?_) (fun c9 => absurd c9 (by decide))
    refine hC.1 1 17 _ _ rfl _ _ _ _ _ ?_
    have km1 : (-1 : Int32).toInt = -1 := rfl
    exact ⟨rfl, fun e9 => absurd e9 (by decide), rfl, (-1 : Int32), rfl, rfl, by exact True.intro⟩

set_option maxRecDepth 100000 in
set_option maxHeartbeats 2000000 in
theorem c_X11_isNewSide (D : md_D h q) (v : Nat → Int32) (f : Nat → Nat → Int32) (hv : md_V v) (hf : md_F f) (x1 : Int32) (x2 : Int32) (p0 : 0 ≤ x1.toInt ∧ x1.toInt < x2.toInt ∧ x2.toInt < (v 0).toInt) : pm_Mt l g 239 0 0 0 [.ref h, .int x1, .int x2] (md A0 g h q v f) (md_Qp (md A0 g h q v f) (fun r => (r = 1 ∧ (True)) ∨ (r = 0 ∧ (True)))) := by
  refine mt_X11_isNewSide rfl (fun J hC => ?_)
  have hv9 := hv
  unfold md_V at hv9
  have rg_x1 := pm_rng x1
  have rg_x2 := pm_rng x2
  refine hC.1 0 0 _ _ rfl _ _ _ _ _ ?_
  have k1 : (1 : Int32).toInt = 1 := rfl
  intro m1 em_2
  try have e1 : m1.toInt = (x1).toInt + (1) := by rw [em_2]; exact pm_addc _ _ (1) rfl (by omega) (by omega)
  have lp2 : ∀ (n : Nat) (z3_4 : Int32), (x1.toInt + 1 ≤ z3_4.toInt ∧ z3_4.toInt ≤ x2.toInt) → 200 - z3_4.toInt < (n : Int) → J 4 [some (.ref h), some (.int x1), some (.int x2), some (.int z3_4), none, none] [] (md A0 g h q v f) 0 0 := by
    intro n
    induction n with
    | zero =>
      intro z3_4 j0_4 j1_4
      omega
    | succ n ih3 =>
      intro z3_4 j0_4 j1_4
      refine hC.1 1 4 _ _ rfl _ _ _ _ _ ?_
      refine And.intro (fun c4 => ?_) (fun c4 => ?_)
      · skip
        refine hC.1 8 109 _ _ rfl _ _ _ _ _ ?_
        exact ⟨rfl, fun _ => (by decide), rfl, (1 : Int32), rfl, rfl, Or.inl ⟨rfl, by first | omega | (dsimp only; omega) | trivial⟩⟩
      · skip
        refine Exists.intro _ (And.intro md_o ?_)
        refine Exists.intro _ (Exists.intro _ (And.intro (Or.inl (md_a_colours D)) (And.intro (by omega) ?_)))
        have w5 : (0 : Int) ≤ (f 0 (z3_4).toInt.toNat).toInt ∧ (f 0 (z3_4).toInt.toNat).toInt ≤ (23 : Int) := hf 0 _
        refine Exists.intro _ (And.intro md_o ?_)
        refine Exists.intro _ (Exists.intro _ (And.intro (Or.inl (md_a_colours D)) (And.intro (by omega) ?_)))
        have w6 : (0 : Int) ≤ (f 0 (x2).toInt.toNat).toInt ∧ (f 0 (x2).toInt.toNat).toInt ≤ (23 : Int) := hf 0 _
        refine And.intro (fun c7 => ?_) (fun c7 => ?_)
        · skip
          have dc7 := pm_neI c7
          refine hC.1 2 47 _ _ rfl _ _ _ _ _ ?_
          have k0 : (0 : Int32).toInt = 0 := rfl
          refine hC.1 3 48 _ _ rfl _ _ _ _ _ ?_
          refine Exists.intro _ (And.intro md_o ?_)
          refine Exists.intro _ (Exists.intro _ (And.intro (Or.inl (md_a_colours D)) (And.intro (by omega) ?_)))
          have w8 : (0 : Int) ≤ (f 0 (z3_4).toInt.toNat).toInt ∧ (f 0 (z3_4).toInt.toNat).toInt ≤ (23 : Int) := hf 0 _
          refine Exists.intro _ (And.intro md_o ?_)
          intro m9 em_62
          try have e9 : m9.toInt = (x2).toInt - (1) := by rw [em_62]; exact pm_subc _ _ (1) rfl (by omega) (by omega)
          refine Exists.intro _ (Exists.intro _ (And.intro (Or.inl (md_a_colours D)) (And.intro (by omega) ?_)))
          have w10 : (0 : Int) ≤ (f 0 (m9).toInt.toNat).toInt ∧ (f 0 (m9).toInt.toNat).toInt ≤ (23 : Int) := hf 0 _
          refine And.intro (fun c11 => ?_) (fun c11 => ?_)
          · skip
            have dc11 := pm_neI c11
            refine hC.1 4 88 _ _ rfl _ _ _ _ _ ?_
            refine hC.1 5 89 _ _ rfl _ _ _ _ _ ?_
            refine And.intro (fun c9 => absurd c9 (by decide)) (fun _ => ?_)
            refine And.intro (fun _ => ?_) (fun c9 => absurd c9 (by decide))
            refine hC.1 7 103 _ _ rfl _ _ _ _ _ ?_
            intro m12 em_103
            try have e12 : m12.toInt = (z3_4).toInt + (1) := by rw [em_103]; exact pm_addc _ _ (1) rfl (by omega) (by omega)
            exact hC.2 [false, false, false, false, true, true] _ _ _ _ _ _ (ih3 m12 (by omega) (by omega))
          · skip
            have dc11 : ((f 0 (z3_4).toInt.toNat)).toInt = ((f 0 (m9).toInt.toNat) : Int32).toInt := congrArg Int32.toInt c11
            refine Exists.intro _ (And.intro md_o ?_)
            intro m13 em_73
            try have e13 : m13.toInt = (z3_4).toInt - (1) := by rw [em_73]; exact pm_subc _ _ (1) rfl (by omega) (by omega)
            refine Exists.intro _ (Exists.intro _ (And.intro (Or.inl (md_a_colours D)) (And.intro (by omega) ?_)))
            have w14 : (0 : Int) ≤ (f 0 (m13).toInt.toNat).toInt ∧ (f 0 (m13).toInt.toNat).toInt ≤ (23 : Int) := hf 0 _
            refine Exists.intro _ (And.intro md_o ?_)
            refine Exists.intro _ (Exists.intro _ (And.intro (Or.inl (md_a_colours D)) (And.intro (by omega) ?_)))
            have w15 : (0 : Int) ≤ (f 0 (x2).toInt.toNat).toInt ∧ (f 0 (x2).toInt.toNat).toInt ≤ (23 : Int) := hf 0 _
            refine And.intro (fun c16 => ?_) (fun c16 => ?_)
            · skip
              have dc16 := pm_neI c16
              refine hC.1 4 88 _ _ rfl _ _ _ _ _ ?_
              refine hC.1 5 89 _ _ rfl _ _ _ _ _ ?_
              refine And.intro (fun c9 => absurd c9 (by decide)) (fun _ => ?_)
              refine And.intro (fun _ => ?_) (fun c9 => absurd c9 (by decide))
              refine hC.1 7 103 _ _ rfl _ _ _ _ _ ?_
              intro m17 em_103
              try have e17 : m17.toInt = (z3_4).toInt + (1) := by rw [em_103]; exact pm_addc _ _ (1) rfl (by omega) (by omega)
              exact hC.2 [false, false, false, false, true, true] _ _ _ _ _ _ (ih3 m17 (by omega) (by omega))
            · skip
              have dc16 : ((f 0 (m13).toInt.toNat)).toInt = ((f 0 (x2).toInt.toNat) : Int32).toInt := congrArg Int32.toInt c16
              refine hC.1 5 89 _ _ rfl _ _ _ _ _ ?_
              refine And.intro (fun c9 => absurd c9 (by decide)) (fun _ => ?_)
              refine And.intro (fun c9 => absurd c9 (by decide)) (fun _ => ?_)
              refine hC.1 6 101 _ _ rfl _ _ _ _ _ ?_
              exact ⟨rfl, fun _ => (by decide), rfl, (0 : Int32), rfl, rfl, Or.inr ⟨rfl, by first | omega | (dsimp only; omega) | trivial⟩⟩
        · skip
          have dc7 : ((f 0 (z3_4).toInt.toNat)).toInt = ((f 0 (x2).toInt.toNat) : Int32).toInt := congrArg Int32.toInt c7
          refine Exists.intro _ (And.intro md_o ?_)
          intro m18 em_30
          try have e18 : m18.toInt = (z3_4).toInt - (1) := by rw [em_30]; exact pm_subc _ _ (1) rfl (by omega) (by omega)
          refine Exists.intro _ (Exists.intro _ (And.intro (Or.inl (md_a_colours D)) (And.intro (by omega) ?_)))
          have w19 : (0 : Int) ≤ (f 0 (m18).toInt.toNat).toInt ∧ (f 0 (m18).toInt.toNat).toInt ≤ (23 : Int) := hf 0 _
          refine Exists.intro _ (And.intro md_o ?_)
          intro m20 em_38
          try have e20 : m20.toInt = (x2).toInt - (1) := by rw [em_38]; exact pm_subc _ _ (1) rfl (by omega) (by omega)
          refine Exists.intro _ (Exists.intro _ (And.intro (Or.inl (md_a_colours D)) (And.intro (by omega) ?_)))
          have w21 : (0 : Int) ≤ (f 0 (m20).toInt.toNat).toInt ∧ (f 0 (m20).toInt.toNat).toInt ≤ (23 : Int) := hf 0 _
          refine And.intro (fun c22 => ?_) (fun c22 => ?_)
          · skip
            have dc22 := pm_neI c22
            refine hC.1 2 47 _ _ rfl _ _ _ _ _ ?_
            have k0 : (0 : Int32).toInt = 0 := rfl
            refine hC.1 3 48 _ _ rfl _ _ _ _ _ ?_
            refine Exists.intro _ (And.intro md_o ?_)
            refine Exists.intro _ (Exists.intro _ (And.intro (Or.inl (md_a_colours D)) (And.intro (by omega) ?_)))
            have w23 : (0 : Int) ≤ (f 0 (z3_4).toInt.toNat).toInt ∧ (f 0 (z3_4).toInt.toNat).toInt ≤ (23 : Int) := hf 0 _
            refine Exists.intro _ (And.intro md_o ?_)
            intro m24 em_62
            try have e24 : m24.toInt = (x2).toInt - (1) := by rw [em_62]; exact pm_subc _ _ (1) rfl (by omega) (by omega)
            refine Exists.intro _ (Exists.intro _ (And.intro (Or.inl (md_a_colours D)) (And.intro (by omega) ?_)))
            have w25 : (0 : Int) ≤ (f 0 (m24).toInt.toNat).toInt ∧ (f 0 (m24).toInt.toNat).toInt ≤ (23 : Int) := hf 0 _
            refine And.intro (fun c26 => ?_) (fun c26 => ?_)
            · skip
              have dc26 := pm_neI c26
              refine hC.1 4 88 _ _ rfl _ _ _ _ _ ?_
              refine hC.1 5 89 _ _ rfl _ _ _ _ _ ?_
              refine And.intro (fun c9 => absurd c9 (by decide)) (fun _ => ?_)
              refine And.intro (fun _ => ?_) (fun c9 => absurd c9 (by decide))
              refine hC.1 7 103 _ _ rfl _ _ _ _ _ ?_
              intro m27 em_103
              try have e27 : m27.toInt = (z3_4).toInt + (1) := by rw [em_103]; exact pm_addc _ _ (1) rfl (by omega) (by omega)
              exact hC.2 [false, false, false, false, true, true] _ _ _ _ _ _ (ih3 m27 (by omega) (by omega))
            · skip
              have dc26 : ((f 0 (z3_4).toInt.toNat)).toInt = ((f 0 (m24).toInt.toNat) : Int32).toInt := congrArg Int32.toInt c26
              refine Exists.intro _ (And.intro md_o ?_)
              intro m28 em_73
              try have e28 : m28.toInt = (z3_4).toInt - (1) := by rw [em_73]; exact pm_subc _ _ (1) rfl (by omega) (by omega)
              refine Exists.intro _ (Exists.intro _ (And.intro (Or.inl (md_a_colours D)) (And.intro (by omega) ?_)))
              have w29 : (0 : Int) ≤ (f 0 (m28).toInt.toNat).toInt ∧ (f 0 (m28).toInt.toNat).toInt ≤ (23 : Int) := hf 0 _
              refine Exists.intro _ (And.intro md_o ?_)
              refine Exists.intro _ (Exists.intro _ (And.intro (Or.inl (md_a_colours D)) (And.intro (by omega) ?_)))
              have w30 : (0 : Int) ≤ (f 0 (x2).toInt.toNat).toInt ∧ (f 0 (x2).toInt.toNat).toInt ≤ (23 : Int) := hf 0 _
              refine And.intro (fun c31 => ?_) (fun c31 => ?_)
              · skip
                have dc31 := pm_neI c31
                refine hC.1 4 88 _ _ rfl _ _ _ _ _ ?_
                refine hC.1 5 89 _ _ rfl _ _ _ _ _ ?_
                refine And.intro (fun c9 => absurd c9 (by decide)) (fun _ => ?_)
                refine And.intro (fun _ => ?_) (fun c9 => absurd c9 (by decide))
                refine hC.1 7 103 _ _ rfl _ _ _ _ _ ?_
                intro m32 em_103
                try have e32 : m32.toInt = (z3_4).toInt + (1) := by rw [em_103]; exact pm_addc _ _ (1) rfl (by omega) (by omega)
                exact hC.2 [false, false, false, false, true, true] _ _ _ _ _ _ (ih3 m32 (by omega) (by omega))
              · skip
                have dc31 : ((f 0 (m28).toInt.toNat)).toInt = ((f 0 (x2).toInt.toNat) : Int32).toInt := congrArg Int32.toInt c31
                refine hC.1 5 89 _ _ rfl _ _ _ _ _ ?_
                refine And.intro (fun c9 => absurd c9 (by decide)) (fun _ => ?_)
                refine And.intro (fun c9 => absurd c9 (by decide)) (fun _ => ?_)
                refine hC.1 6 101 _ _ rfl _ _ _ _ _ ?_
                exact ⟨rfl, fun _ => (by decide), rfl, (0 : Int32), rfl, rfl, Or.inr ⟨rfl, by first | omega | (dsimp only; omega) | trivial⟩⟩
          · skip
            have dc22 : ((f 0 (m18).toInt.toNat)).toInt = ((f 0 (m20).toInt.toNat) : Int32).toInt := congrArg Int32.toInt c22
            refine hC.1 3 48 _ _ rfl _ _ _ _ _ ?_
            refine Exists.intro _ (And.intro md_o ?_)
            refine Exists.intro _ (Exists.intro _ (And.intro (Or.inl (md_a_colours D)) (And.intro (by omega) ?_)))
            have w33 : (0 : Int) ≤ (f 0 (z3_4).toInt.toNat).toInt ∧ (f 0 (z3_4).toInt.toNat).toInt ≤ (23 : Int) := hf 0 _
            refine Exists.intro _ (And.intro md_o ?_)
            intro m34 em_62
            try have e34 : m34.toInt = (x2).toInt - (1) := by rw [em_62]; exact pm_subc _ _ (1) rfl (by omega) (by omega)
            refine Exists.intro _ (Exists.intro _ (And.intro (Or.inl (md_a_colours D)) (And.intro (by omega) ?_)))
            have w35 : (0 : Int) ≤ (f 0 (m34).toInt.toNat).toInt ∧ (f 0 (m34).toInt.toNat).toInt ≤ (23 : Int) := hf 0 _
            refine And.intro (fun c36 => ?_) (fun c36 => ?_)
            · skip
              have dc36 := pm_neI c36
              refine hC.1 4 88 _ _ rfl _ _ _ _ _ ?_
              have k0 : (0 : Int32).toInt = 0 := rfl
              refine hC.1 5 89 _ _ rfl _ _ _ _ _ ?_
              refine And.intro (fun _ => ?_) (fun c9 => absurd c9 (by decide))
              refine hC.1 6 101 _ _ rfl _ _ _ _ _ ?_
              exact ⟨rfl, fun _ => (by decide), rfl, (0 : Int32), rfl, rfl, Or.inr ⟨rfl, by first | omega | (dsimp only; omega) | trivial⟩⟩
            · skip
              have dc36 : ((f 0 (z3_4).toInt.toNat)).toInt = ((f 0 (m34).toInt.toNat) : Int32).toInt := congrArg Int32.toInt c36
              refine Exists.intro _ (And.intro md_o ?_)
              intro m37 em_73
              try have e37 : m37.toInt = (z3_4).toInt - (1) := by rw [em_73]; exact pm_subc _ _ (1) rfl (by omega) (by omega)
              refine Exists.intro _ (Exists.intro _ (And.intro (Or.inl (md_a_colours D)) (And.intro (by omega) ?_)))
              have w38 : (0 : Int) ≤ (f 0 (m37).toInt.toNat).toInt ∧ (f 0 (m37).toInt.toNat).toInt ≤ (23 : Int) := hf 0 _
              refine Exists.intro _ (And.intro md_o ?_)
              refine Exists.intro _ (Exists.intro _ (And.intro (Or.inl (md_a_colours D)) (And.intro (by omega) ?_)))
              have w39 : (0 : Int) ≤ (f 0 (x2).toInt.toNat).toInt ∧ (f 0 (x2).toInt.toNat).toInt ≤ (23 : Int) := hf 0 _
              refine And.intro (fun c40 => ?_) (fun c40 => ?_)
              · skip
                have dc40 := pm_neI c40
                refine hC.1 4 88 _ _ rfl _ _ _ _ _ ?_
                have k0 : (0 : Int32).toInt = 0 := rfl
                refine hC.1 5 89 _ _ rfl _ _ _ _ _ ?_
                refine And.intro (fun _ => ?_) (fun c9 => absurd c9 (by decide))
                refine hC.1 6 101 _ _ rfl _ _ _ _ _ ?_
                exact ⟨rfl, fun _ => (by decide), rfl, (0 : Int32), rfl, rfl, Or.inr ⟨rfl, by first | omega | (dsimp only; omega) | trivial⟩⟩
              · skip
                have dc40 : ((f 0 (m37).toInt.toNat)).toInt = ((f 0 (x2).toInt.toNat) : Int32).toInt := congrArg Int32.toInt c40
                refine hC.1 5 89 _ _ rfl _ _ _ _ _ ?_
                refine And.intro (fun _ => ?_) (fun c9 => absurd c9 (by decide))
                refine hC.1 6 101 _ _ rfl _ _ _ _ _ ?_
                have k0 : (0 : Int32).toInt = 0 := rfl
                exact ⟨rfl, fun _ => (by decide), rfl, (0 : Int32), rfl, rfl, Or.inr ⟨rfl, by first | omega | (dsimp only; omega) | trivial⟩⟩
  exact lp2 (200 - m1.toInt).toNat.succ m1 (by omega) (by omega)

set_option maxRecDepth 100000 in
set_option maxHeartbeats 2000000 in
theorem c_X11_sides (D : md_D h q) (v : Nat → Int32) (f : Nat → Nat → Int32) (hv : md_V v) (hf : md_F f) (x1 : Int32) (x2 : Int32)  : pm_Mt l g 238 1 0 0 [.ref h, .int x1, .int x2] (md A0 g h q v f) (md_Qp (md A0 g h q v f) (fun r => True)) := by
  refine mt_X11_sides rfl (fun J hC => ?_)
  have hv9 := hv
  unfold md_V at hv9
  have rg_x1 := pm_rng x1
  have rg_x2 := pm_rng x2
  refine hC.1 0 0 _ _ rfl _ _ _ _ _ ?_
  refine And.intro (Exists.intro _ md_o) (Exists.intro _ (Exists.intro _ (Exists.intro _ (Exists.intro _ (And.intro (c_X11_isSpan D v f hv hf x1 x2 ) (And.intro rfl (fun r9 A9 h9 => ?_)))))))
  rcases h9 with ⟨y1, rfl, rfl, ⟨rfl, by1⟩ | ⟨rfl, by1⟩⟩
  · skip
    have k1 : (1 : Int32).toInt = 1 := rfl
    refine And.intro (fun _ => ?_) (fun c9 => absurd c9 (by decide))
    refine hC.1 1 11 _ _ rfl _ _ _ _ _ ?_
    have k0 : (0 : Int32).toInt = 0 := rfl
    intro m2 em_15
    try have e2 : m2.toInt = (x1).toInt + (1) := by rw [em_15]; exact pm_addc _ _ (1) rfl (by omega) (by omega)
    have lp3 : ∀ (n : Nat) (z3_18 : Int32) (z4_18 : Int32), (x1.toInt + 1 ≤ z4_18.toInt ∧ z4_18.toInt ≤ x2.toInt + 1) → 200 - z4_18.toInt < (n : Int) → J 18 [some (.ref h), some (.int x1), some (.int x2), some (.int z3_18), some (.int z4_18)] [] (md A0 g h q v f) 0 0 := by
      intro n
      induction n with
      | zero =>
        intro z3_18 z4_18 j0_18 j1_18
        omega
      | succ n ih4 =>
        intro z3_18 z4_18 j0_18 j1_18
        refine hC.1 2 18 _ _ rfl _ _ _ _ _ ?_
        refine And.intro (fun c5 => ?_) (fun c5 => ?_)
        · skip
          refine hC.1 4 62 _ _ rfl _ _ _ _ _ ?_
          exact ⟨rfl, fun e9 => absurd e9 (by decide), rfl, z3_18, rfl, rfl, by exact True.intro⟩
        · skip
          refine Exists.intro _ (And.intro md_o ?_)
          refine Exists.intro _ (Exists.intro _ (And.intro (Or.inl (md_a_colours D)) (And.intro (by omega) ?_)))
          have w6 : (0 : Int) ≤ (f 0 (z4_18).toInt.toNat).toInt ∧ (f 0 (z4_18).toInt.toNat).toInt ≤ (23 : Int) := hf 0 _
          refine Exists.intro _ (And.intro md_o ?_)
          intro m7 em_38
          try have e7 : m7.toInt = (z4_18).toInt - (1) := by rw [em_38]; exact pm_subc _ _ (1) rfl (by omega) (by omega)
          refine Exists.intro _ (Exists.intro _ (And.intro (Or.inl (md_a_colours D)) (And.intro (by omega) ?_)))
          have w8 : (0 : Int) ≤ (f 0 (m7).toInt.toNat).toInt ∧ (f 0 (m7).toInt.toNat).toInt ≤ (23 : Int) := hf 0 _
          refine And.intro (fun c9 => ?_) (fun c9 => ?_)
          · skip
            have dc9 : ((f 0 (z4_18).toInt.toNat)).toInt = ((f 0 (m7).toInt.toNat) : Int32).toInt := congrArg Int32.toInt c9
            refine hC.1 3 56 _ _ rfl _ _ _ _ _ ?_
            intro m10 em_56
            try have e10 : m10.toInt = (z4_18).toInt + (1) := by rw [em_56]; exact pm_addc _ _ (1) rfl (by omega) (by omega)
            exact ih4 z3_18 m10 (by omega) (by omega)
          · skip
            have dc9 := pm_neI c9
            refine And.intro (Exists.intro _ md_o) (Exists.intro _ (Exists.intro _ (Exists.intro _ (Exists.intro _ (And.intro (c_X11_isNewSide D v f hv hf x1 z4_18 (by omega)) (And.intro rfl (fun r9 A9 h9 => ?_)))))))
            rcases h9 with ⟨y11, rfl, rfl, ⟨rfl, by11⟩ | ⟨rfl, by11⟩⟩
            · skip
              refine And.intro (fun c9 => absurd c9 (by decide)) (fun _ => ?_)
              intro m12 em_53
              try have e12 : m12.toInt = (z3_18).toInt + (1) := by rw [em_53]; exact pm_addc _ _ (1) rfl (by omega) (by omega)
              refine hC.1 3 56 _ _ rfl _ _ _ _ _ ?_
              intro m13 em_56
              try have e13 : m13.toInt = (z4_18).toInt + (1) := by rw [em_56]; exact pm_addc _ _ (1) rfl (by omega) (by omega)
              exact ih4 m12 m13 (by omega) (by omega)
            · skip
              refine And.intro (fun _ => ?_) (fun c9 => absurd c9 (by decide))
              refine hC.1 3 56 _ _ rfl _ _ _ _ _ ?_
              intro m14 em_56
              try have e14 : m14.toInt = (z4_18).toInt + (1) := by rw [em_56]; exact pm_addc _ _ (1) rfl (by omega) (by omega)
              exact ih4 z3_18 m14 (by omega) (by omega)
    exact lp3 (200 - m2.toInt).toNat.succ (0 : Int32) m2 (by omega) (by omega)
  · skip
    have k0 : (0 : Int32).toInt = 0 := rfl
    refine And.intro (fun c9 => absurd c9 (by decide)) (fun _ => ?_)
    have km1 : (-1 : Int32).toInt = -1 := rfl
    exact ⟨rfl, fun e9 => absurd e9 (by decide), rfl, (-1 : Int32), rfl, rfl, by exact True.intro⟩

end
end
section
section
variable {l : Launch} {g : pm_G} {A0 : pm_H} {h : Nat} {q : Nat → Nat}
set_option maxRecDepth 100000 in
set_option maxHeartbeats 2000000 in
theorem c_X11_haveAll (D : md_D h q) (v : Nat → Int32) (f : Nat → Nat → Int32) (hv : md_V v) (hf : md_F f) (x1 : Int32) (x2 : Int32) (x3 : Int32) (x4 : Int32) (p0 : 0 ≤ x1.toInt ∧ x2.toInt < 160 ∧ x1.toInt ≤ 160 ∧ -1 ≤ x2.toInt) (p1 : 1 ≤ x3.toInt ∧ x3.toInt ≤ 160) : pm_Mt l g 241 1 0 0 [.ref h, .int x1, .int x2, .int x3, .int x4] (md A0 g h q v f) (md_Qp (md A0 g h q v f) (fun r => (r = 1 ∧ (True)) ∨ (r = 0 ∧ (∃ p9 : Int, x1.toInt ≤ p9 ∧ p9 + x3.toInt - 1 ≤ x2.toInt ∧ ¬ setF (f 0) p9.toNat x3.toInt.toNat = x4)))) := by
  refine mt_X11_haveAll rfl (fun J hC => ?_)
  have hv9 := hv
  unfold md_V at hv9
  have rg_x1 := pm_rng x1
  have rg_x2 := pm_rng x2
  have rg_x3 := pm_rng x3
  have rg_x4 := pm_rng x4
  refine hC.1 0 0 _ _ rfl _ _ _ _ _ ?_
  have lp1 : ∀ (n : Nat) (z5_3 : Int32), (x1.toInt ≤ z5_3.toInt ∧ z5_3.toInt ≤ 161) → 200 - z5_3.toInt < (n : Int) → J 3 [some (.ref h), some (.int x1), some (.int x2), some (.int x3), some (.int x4), some (.int z5_3)] [] (md A0 g h q v f) 0 0 := by
    intro n
    induction n with
    | zero =>
      intro z5_3 j0_3 j1_3
      omega
    | succ n ih2 =>
      intro z5_3 j0_3 j1_3
      refine hC.1 1 3 _ _ rfl _ _ _ _ _ ?_
      intro m3 em_6
      try have e3 : m3.toInt = (z5_3).toInt + (x3).toInt := by rw [em_6]; exact pm_add _ _ (by omega) (by omega)
      have k1 : (1 : Int32).toInt = 1 := rfl
      intro m4 em_8
      try have e4 : m4.toInt = (m3).toInt - (1) := by rw [em_8]; exact pm_subc _ _ (1) rfl (by omega) (by omega)
      refine And.intro (fun c5 => ?_) (fun c5 => ?_)
      · skip
        refine hC.1 3 38 _ _ rfl _ _ _ _ _ ?_
        exact ⟨rfl, fun _ => (by decide), rfl, (1 : Int32), rfl, rfl, Or.inl ⟨rfl, by trivial⟩⟩
      · skip
        intro m6 em_19
        try have e6 : m6.toInt = (z5_3).toInt + (x3).toInt := by rw [em_19]; exact pm_add _ _ (by omega) (by omega)
        intro m7 em_21
        try have e7 : m7.toInt = (m6).toInt - (1) := by rw [em_21]; exact pm_subc _ _ (1) rfl (by omega) (by omega)
        refine And.intro (Exists.intro _ md_o) (Exists.intro _ (Exists.intro _ (Exists.intro _ (Exists.intro _ (And.intro (c_X11_setOf D v f hv hf z5_3 m7 (by omega) (by omega)) (And.intro rfl (fun r9 A9 h9 => ?_)))))))
        obtain ⟨y8, rfl, rfl, by8⟩ := h9
        have hs9 : y8 = setF (f 0) z5_3.toInt.toNat x3.toInt.toNat := by8.trans (congrArg _ (by omega))
        refine And.intro (fun c9 => ?_) (fun c9 => ?_)
        · skip
          have dc9 : (y8).toInt = (x4 : Int32).toInt := congrArg Int32.toInt c9
          refine hC.1 2 32 _ _ rfl _ _ _ _ _ ?_
          intro m10 em_32
          try have e10 : m10.toInt = (z5_3).toInt + (1) := by rw [em_32]; exact pm_addc _ _ (1) rfl (by omega) (by omega)
          exact ih2 m10 (by omega) (by omega)
        · skip
          have dc9 := pm_neI c9
          have k0 : (0 : Int32).toInt = 0 := rfl
          exact ⟨rfl, fun _ => (by decide), rfl, (0 : Int32), rfl, rfl, Or.inr ⟨rfl, by exact ⟨z5_3.toInt, by omega, by omega, fun e9 => absurd (hs9.trans e9) (by assumption)⟩⟩⟩
  exact lp1 (200 - x1.toInt).toNat.succ x1 (by omega) (by omega)

set_option maxRecDepth 100000 in
set_option maxHeartbeats 2000000 in
theorem c_X11_cover (D : md_D h q) (v : Nat → Int32) (f : Nat → Nat → Int32) (hv : md_V v) (hf : md_F f) (x1 : Int32) (x2 : Int32)  : pm_Mt l g 240 2 0 0 [.ref h, .int x1, .int x2] (md A0 g h q v f) (md_Qp (md A0 g h q v f) (fun r => True)) := by
  refine mt_X11_cover rfl (fun J hC => ?_)
  have hv9 := hv
  unfold md_V at hv9
  have rg_x1 := pm_rng x1
  have rg_x2 := pm_rng x2
  refine hC.1 0 0 _ _ rfl _ _ _ _ _ ?_
  refine And.intro (Exists.intro _ md_o) (Exists.intro _ (Exists.intro _ (Exists.intro _ (Exists.intro _ (And.intro (c_X11_isSpan D v f hv hf x1 x2 ) (And.intro rfl (fun r9 A9 h9 => ?_)))))))
  rcases h9 with ⟨y1, rfl, rfl, ⟨rfl, by1⟩ | ⟨rfl, by1⟩⟩
  · skip
    have k1 : (1 : Int32).toInt = 1 := rfl
    refine And.intro (fun _ => ?_) (fun c9 => absurd c9 (by decide))
    refine hC.1 1 11 _ _ rfl _ _ _ _ _ ?_
    refine And.intro (Exists.intro _ md_o) (Exists.intro _ (Exists.intro _ (Exists.intro _ (Exists.intro _ (And.intro (c_X11_setOf D v f hv hf x1 x2 (by omega) (by omega)) (And.intro rfl (fun r9 A9 h9 => ?_)))))))
    obtain ⟨y2, rfl, rfl, by2⟩ := h9
    have ha9 := by2
    have lp3 : ∀ (n : Nat) (z4_21 : Int32), (1 ≤ z4_21.toInt ∧ z4_21.toInt ≤ x2.toInt + 1 - x1.toInt) → 200 - z4_21.toInt < (n : Int) → J 21 [some (.ref h), some (.int x1), some (.int x2), some (.int y2), some (.int z4_21)] [] (md A0 g h q v f) 0 0 := by
      intro n
      induction n with
      | zero =>
        intro z4_21 j0_21 j1_21
        omega
      | succ n ih4 =>
        intro z4_21 j0_21 j1_21
        refine hC.1 2 21 _ _ rfl _ _ _ _ _ ?_
        refine And.intro (Exists.intro _ md_o) (Exists.intro _ (Exists.intro _ (Exists.intro _ (Exists.intro _ (And.intro (c_X11_haveAll D v f hv hf x1 x2 z4_21 y2 (by omega) (by omega)) (And.intro rfl (fun r9 A9 h9 => ?_)))))))
        rcases h9 with ⟨y5, rfl, rfl, ⟨rfl, by5⟩ | ⟨rfl, by5⟩⟩
        · skip
          refine And.intro (fun _ => ?_) (fun c9 => absurd c9 (by decide))
          refine hC.1 3 39 _ _ rfl _ _ _ _ _ ?_
          exact ⟨rfl, fun e9 => absurd e9 (by decide), rfl, z4_21, rfl, rfl, by exact True.intro⟩
        · skip
          have k0 : (0 : Int32).toInt = 0 := rfl
          obtain ⟨p9, h91, h92, h93⟩ := by5
          have hn9 : ¬ z4_21.toInt = x2.toInt + 1 - x1.toInt := fun e9 => h93 (by rw [show p9 = x1.toInt by omega, e9]; exact ha9.symm)
          refine And.intro (fun c9 => absurd c9 (by decide)) (fun _ => ?_)
          intro m6 em_33
          try have e6 : m6.toInt = (z4_21).toInt + (1) := by rw [em_33]; exact pm_addc _ _ (1) rfl (by omega) (by omega)
          exact ih4 m6 (by omega) (by omega)
    exact lp3 (200 - (1 : Int32).toInt).toNat.succ (1 : Int32) (by omega) (by omega)
  · skip
    have k0 : (0 : Int32).toInt = 0 := rfl
    refine And.intro (fun c9 => absurd c9 (by decide)) (fun _ => ?_)
    have km1 : (-1 : Int32).toInt = -1 := rfl
    exact ⟨rfl, fun e9 => absurd e9 (by decide), rfl, (-1 : Int32), rfl, rfl, by exact True.intro⟩

set_option maxRecDepth 100000 in
set_option maxHeartbeats 2000000 in
theorem c_X11_fair (D : md_D h q) (v : Nat → Int32) (f : Nat → Nat → Int32) (hv : md_V v) (hf : md_F f) (x1 : Int32) (x2 : Int32) (x3 : Int32)  : pm_Mt l g 243 1 0 0 [.ref h, .int x1, .int x2, .int x3] (md A0 g h q v f) (md_Qp (md A0 g h q v f) (fun r => True)) := by
  refine mt_X11_fair rfl (fun J hC => ?_)
  have hv9 := hv
  unfold md_V at hv9
  have rg_x1 := pm_rng x1
  have rg_x2 := pm_rng x2
  have rg_x3 := pm_rng x3
  refine hC.1 0 0 _ _ rfl _ _ _ _ _ ?_
  refine And.intro (Exists.intro _ md_o) (Exists.intro _ (Exists.intro _ (Exists.intro _ (Exists.intro _ (And.intro (c_X11_isSpan D v f hv hf x1 x2 ) (And.intro rfl (fun r9 A9 h9 => ?_)))))))
  rcases h9 with ⟨y1, rfl, rfl, ⟨rfl, by1⟩ | ⟨rfl, by1⟩⟩
  · skip
    have k1 : (1 : Int32).toInt = 1 := rfl
    refine And.intro (fun c9 => absurd c9 (by decide)) (fun _ => ?_)
    refine And.intro (fun c2 => ?_) (fun c2 => ?_)
    · skip
      refine hC.1 2 16 _ _ rfl _ _ _ _ _ ?_
      have k0 : (0 : Int32).toInt = 0 := rfl
      have lp3 : ∀ (n : Nat) (z4_22 : Int32) (z5_22 : Int32), (0 ≤ z5_22.toInt ∧ z5_22.toInt ≤ 24) → 200 - z5_22.toInt < (n : Int) → J 22 [some (.ref h), some (.int x1), some (.int x2), some (.int x3), some (.int z4_22), some (.int z5_22)] [] (md A0 g h q v f) 0 0 := by
        intro n
        induction n with
        | zero =>
          intro z4_22 z5_22 j0_22 j1_22
          omega
        | succ n ih4 =>
          intro z4_22 z5_22 j0_22 j1_22
          refine hC.1 3 22 _ _ rfl _ _ _ _ _ ?_
          have k24 : (24 : Int32).toInt = 24 := rfl
          refine And.intro (fun c5 => ?_) (fun c5 => ?_)
          · skip
            refine hC.1 6 70 _ _ rfl _ _ _ _ _ ?_
            exact ⟨rfl, fun e9 => absurd e9 (by decide), rfl, z4_22, rfl, rfl, by exact True.intro⟩
          · skip
            refine And.intro (Exists.intro _ md_o) (Exists.intro _ (Exists.intro _ (Exists.intro _ (Exists.intro _ (And.intro (c_X11_timesIn D v f hv hf x1 x2 z5_22 (by omega) (by omega)) (And.intro rfl (fun r9 A9 h9 => ?_)))))))
            obtain ⟨y6, rfl, rfl, by6⟩ := h9
            intro m7 em_45
            try have e7 : m7.toInt = (x2).toInt - (x1).toInt := by rw [em_45]; exact pm_sub _ _ (by omega) (by omega)
            intro m8 em_47
            try have e8 : m8.toInt = (m7).toInt + (1) := by rw [em_47]; exact pm_addc _ _ (1) rfl (by omega) (by omega)
            refine And.intro (fun c9 => ?_) (fun c9 => ?_)
            · skip
              refine hC.1 4 60 _ _ rfl _ _ _ _ _ ?_
              refine hC.1 5 61 _ _ rfl _ _ _ _ _ ?_
              intro m10 em_64
              try have e10 : m10.toInt = (z5_22).toInt + (1) := by rw [em_64]; exact pm_addc _ _ (1) rfl (by omega) (by omega)
              exact ih4 (z4_22 ||| (0 : Int32)) m10 (by omega) (by omega)
            · skip
              refine hC.1 5 61 _ _ rfl _ _ _ _ _ ?_
              intro m11 em_64
              try have e11 : m11.toInt = (z5_22).toInt + (1) := by rw [em_64]; exact pm_addc _ _ (1) rfl (by omega) (by omega)
              exact ih4 (z4_22 ||| ((1 : Int32) <<< (z5_22 &&& 31))) m11 (by omega) (by omega)
      exact lp3 (200 - (0 : Int32).toInt).toNat.succ (0 : Int32) (0 : Int32) (by omega) (by omega)
    · skip
      refine hC.1 1 14 _ _ rfl _ _ _ _ _ ?_
      have km1 : (-1 : Int32).toInt = -1 := rfl
      exact ⟨rfl, fun e9 => absurd e9 (by decide), rfl, (-1 : Int32), rfl, rfl, by exact True.intro⟩
  · skip
    have k0 : (0 : Int32).toInt = 0 := rfl
    refine And.intro (fun _ => ?_) (fun c9 => absurd c9 (by decide))
    refine hC.1 1 14 _ _ rfl _ _ _ _ _ ?_
    have km1 : (-1 : Int32).toInt = -1 := rfl
    exact ⟨rfl, fun e9 => absurd e9 (by decide), rfl, (-1 : Int32), rfl, rfl, by exact True.intro⟩

set_option maxRecDepth 100000 in
set_option maxHeartbeats 2000000 in
theorem c_X11_alike (D : md_D h q) (v : Nat → Int32) (f : Nat → Nat → Int32) (hv : md_V v) (hf : md_F f) (x1 : Int32) (x2 : Int32)  : pm_Mt l g 244 1 0 0 [.ref h, .int x1, .int x2] (md A0 g h q v f) (md_Qp (md A0 g h q v f) (fun r => True)) := by
  refine mt_X11_alike rfl (fun J hC => ?_)
  have hv9 := hv
  unfold md_V at hv9
  have rg_x1 := pm_rng x1
  have rg_x2 := pm_rng x2
  refine hC.1 0 0 _ _ rfl _ _ _ _ _ ?_
  refine And.intro (Exists.intro _ md_o) (Exists.intro _ (Exists.intro _ (Exists.intro _ (Exists.intro _ (And.intro (c_X11_isSpan D v f hv hf x1 x2 ) (And.intro rfl (fun r9 A9 h9 => ?_)))))))
  rcases h9 with ⟨y1, rfl, rfl, ⟨rfl, by1⟩ | ⟨rfl, by1⟩⟩
  · skip
    have k1 : (1 : Int32).toInt = 1 := rfl
    refine And.intro (fun _ => ?_) (fun c9 => absurd c9 (by decide))
    refine hC.1 1 11 _ _ rfl _ _ _ _ _ ?_
    have k0 : (0 : Int32).toInt = 0 := rfl
    have lp2 : ∀ (n : Nat) (z3_16 : Int32) (z4_16 : Int32), (x1.toInt ≤ z4_16.toInt ∧ z4_16.toInt ≤ x2.toInt + 1) → 200 - z4_16.toInt < (n : Int) → J 16 [some (.ref h), some (.int x1), some (.int x2), some (.int z3_16), some (.int z4_16)] [] (md A0 g h q v f) 0 0 := by
      intro n
      induction n with
      | zero =>
        intro z3_16 z4_16 j0_16 j1_16
        omega
      | succ n ih3 =>
        intro z3_16 z4_16 j0_16 j1_16
        refine hC.1 2 16 _ _ rfl _ _ _ _ _ ?_
        refine And.intro (fun c4 => ?_) (fun c4 => ?_)
        · skip
          refine hC.1 3 47 _ _ rfl _ _ _ _ _ ?_
          exact ⟨rfl, fun e9 => absurd e9 (by decide), rfl, z3_16, rfl, rfl, by exact True.intro⟩
        · skip
          intro m5 em_28
          try have e5 : m5.toInt = (z4_16).toInt - (1) := by rw [em_28]; exact pm_subc _ _ (1) rfl (by omega) (by omega)
          refine Exists.intro _ (And.intro md_o ?_)
          refine Exists.intro _ (Exists.intro _ (And.intro (Or.inl (md_a_colours D)) (And.intro (by omega) ?_)))
          have w6 : (0 : Int) ≤ (f 0 (z4_16).toInt.toNat).toInt ∧ (f 0 (z4_16).toInt.toNat).toInt ≤ (23 : Int) := hf 0 _
          refine And.intro (Exists.intro _ md_o) (Exists.intro _ (Exists.intro _ (Exists.intro _ (Exists.intro _ (And.intro (c_X11_timesIn D v f hv hf x1 m5 (f 0 (z4_16).toInt.toNat) (by omega) (by omega)) (And.intro rfl (fun r9 A9 h9 => ?_)))))))
          obtain ⟨y7, rfl, rfl, by7⟩ := h9
          intro m8 em_39
          try have e8 : m8.toInt = (z3_16).toInt + (y7).toInt := by rw [em_39]; exact pm_add _ _ (by omega) (by omega)
          intro m9 em_41
          try have e9 : m9.toInt = (z4_16).toInt + (1) := by rw [em_41]; exact pm_addc _ _ (1) rfl (by omega) (by omega)
          exact ih3 m8 m9 (by omega) (by omega)
    exact lp2 (200 - x1.toInt).toNat.succ (0 : Int32) x1 (by omega) (by omega)
  · skip
    have k0 : (0 : Int32).toInt = 0 := rfl
    refine And.intro (fun c9 => absurd c9 (by decide)) (fun _ => ?_)
    have km1 : (-1 : Int32).toInt = -1 := rfl
    exact ⟨rfl, fun e9 => absurd e9 (by decide), rfl, (-1 : Int32), rfl, rfl, by exact True.intro⟩

set_option maxRecDepth 100000 in
set_option maxHeartbeats 2000000 in
theorem c_X11_even (D : md_D h q) (v : Nat → Int32) (f : Nat → Nat → Int32) (hv : md_V v) (hf : md_F f) (x1 : Int32) (x2 : Int32)  : pm_Mt l g 245 2 0 0 [.ref h, .int x1, .int x2] (md A0 g h q v f) (md_Qp (md A0 g h q v f) (fun r => True)) := by
  refine mt_X11_even rfl (fun J hC => ?_)
  have hv9 := hv
  unfold md_V at hv9
  have rg_x1 := pm_rng x1
  have rg_x2 := pm_rng x2
  refine hC.1 0 0 _ _ rfl _ _ _ _ _ ?_
  refine And.intro (Exists.intro _ md_o) (Exists.intro _ (Exists.intro _ (Exists.intro _ (Exists.intro _ (And.intro (c_X11_isSpan D v f hv hf x1 x2 ) (And.intro rfl (fun r9 A9 h9 => ?_)))))))
  rcases h9 with ⟨y1, rfl, rfl, ⟨rfl, by1⟩ | ⟨rfl, by1⟩⟩
  · skip
    have k1 : (1 : Int32).toInt = 1 := rfl
    refine And.intro (fun _ => ?_) (fun c9 => absurd c9 (by decide))
    refine hC.1 1 11 _ _ rfl _ _ _ _ _ ?_
    have km1 : (-1 : Int32).toInt = -1 := rfl
    have k268435456 : (268435456 : Int32).toInt = 268435456 := rfl
    have lp2 : ∀ (n : Nat) (z3_20 : Int32) (z4_20 : Int32) (z5_20 : Int32), (x1.toInt ≤ z5_20.toInt ∧ z5_20.toInt ≤ x2.toInt) → 200 - z5_20.toInt < (n : Int) → J 20 [some (.ref h), some (.int x1), some (.int x2), some (.int z3_20), some (.int z4_20), some (.int z5_20), none, none] [] (md A0 g h q v f) 0 0 := by
      intro n
      induction n with
      | zero =>
        intro z3_20 z4_20 z5_20 j0_20 j1_20
        omega
      | succ n ih3 =>
        intro z3_20 z4_20 z5_20 j0_20 j1_20
        refine hC.1 2 20 _ _ rfl _ _ _ _ _ ?_
        refine And.intro (fun c4 => ?_) (fun c4 => ?_)
        · skip
          refine hC.1 7 83 _ _ rfl _ _ _ _ _ ?_
          exact ⟨rfl, fun e9 => absurd e9 (by decide), rfl, z3_20, rfl, rfl, by exact True.intro⟩
        · skip
          refine And.intro (Exists.intro _ md_o) (Exists.intro _ (Exists.intro _ (Exists.intro _ (Exists.intro _ (And.intro (c_X11_countOf D v f hv hf x1 z5_20 (by omega) (by omega)) (And.intro rfl (fun r9 A9 h9 => ?_)))))))
          obtain ⟨y5, rfl, rfl, by5⟩ := h9
          intro m6 em_37
          try have e6 : m6.toInt = (z5_20).toInt + (1) := by rw [em_37]; exact pm_addc _ _ (1) rfl (by omega) (by omega)
          refine And.intro (Exists.intro _ md_o) (Exists.intro _ (Exists.intro _ (Exists.intro _ (Exists.intro _ (And.intro (c_X11_countOf D v f hv hf m6 x2 (by omega) (by omega)) (And.intro rfl (fun r9 A9 h9 => ?_)))))))
          obtain ⟨y7, rfl, rfl, by7⟩ := h9
          intro m8 em_42
          try have e8 : m8.toInt = (y5).toInt - (y7).toInt := by rw [em_42]; exact pm_sub _ _ (by omega) (by omega)
          refine And.intro (fun c9 => ?_) (fun c9 => ?_)
          · skip
            refine hC.1 3 56 _ _ rfl _ _ _ _ _ ?_
            refine hC.1 4 58 _ _ rfl _ _ _ _ _ ?_
            refine And.intro (fun c10 => ?_) (fun c10 => ?_)
            · skip
              refine hC.1 5 70 _ _ rfl _ _ _ _ _ ?_
              refine hC.1 6 77 _ _ rfl _ _ _ _ _ ?_
              intro m11 em_77
              try have e11 : m11.toInt = (z5_20).toInt + (1) := by rw [em_77]; exact pm_addc _ _ (1) rfl (by omega) (by omega)
              exact hC.2 [false, false, false, false, false, false, true, true] _ _ _ _ _ _ (ih3 z5_20 m8 m11 (by omega) (by omega))
            · skip
              refine hC.1 6 77 _ _ rfl _ _ _ _ _ ?_
              intro m12 em_77
              try have e12 : m12.toInt = (z5_20).toInt + (1) := by rw [em_77]; exact pm_addc _ _ (1) rfl (by omega) (by omega)
              exact hC.2 [false, false, false, false, false, false, true, true] _ _ _ _ _ _ (ih3 z3_20 z4_20 m12 (by omega) (by omega))
          · skip
            intro m13 em_52
            refine hC.1 4 58 _ _ rfl _ _ _ _ _ ?_
            refine And.intro (fun c14 => ?_) (fun c14 => ?_)
            · skip
              refine hC.1 5 70 _ _ rfl _ _ _ _ _ ?_
              refine hC.1 6 77 _ _ rfl _ _ _ _ _ ?_
              intro m15 em_77
              try have e15 : m15.toInt = (z5_20).toInt + (1) := by rw [em_77]; exact pm_addc _ _ (1) rfl (by omega) (by omega)
              exact hC.2 [false, false, false, false, false, false, true, true] _ _ _ _ _ _ (ih3 z5_20 m13 m15 (by omega) (by omega))
            · skip
              refine hC.1 6 77 _ _ rfl _ _ _ _ _ ?_
              intro m16 em_77
              try have e16 : m16.toInt = (z5_20).toInt + (1) := by rw [em_77]; exact pm_addc _ _ (1) rfl (by omega) (by omega)
              exact hC.2 [false, false, false, false, false, false, true, true] _ _ _ _ _ _ (ih3 z3_20 z4_20 m16 (by omega) (by omega))
    exact lp2 (200 - x1.toInt).toNat.succ (-1 : Int32) (268435456 : Int32) x1 (by omega) (by omega)
  · skip
    have k0 : (0 : Int32).toInt = 0 := rfl
    refine And.intro (fun c9 => absurd c9 (by decide)) (fun _ => ?_)
    have km1 : (-1 : Int32).toInt = -1 := rfl
    exact ⟨rfl, fun e9 => absurd e9 (by decide), rfl, (-1 : Int32), rfl, rfl, by exact True.intro⟩

set_option maxRecDepth 100000 in
set_option maxHeartbeats 2000000 in
theorem c_X11_nextBehind (D : md_D h q) (v : Nat → Int32) (f : Nat → Nat → Int32) (hv : md_V v) (hf : md_F f) (x1 : Int32) (x2 : Int32) (p0 : 0 ≤ x2.toInt ∧ x2.toInt ≤ 160) : pm_Mt l g 247 0 0 0 [.ref h, .int x1, .int x2] (md A0 g h q v f) (md_Qp (md A0 g h q v f) (fun r => True)) := by
  refine mt_X11_nextBehind rfl (fun J hC => ?_)
  have hv9 := hv
  unfold md_V at hv9
  have rg_x1 := pm_rng x1
  have rg_x2 := pm_rng x2
  refine hC.1 0 0 _ _ rfl _ _ _ _ _ ?_
  have k1 : (1 : Int32).toInt = 1 := rfl
  intro m1 em_2
  try have e1 : m1.toInt = (x2).toInt + (1) := by rw [em_2]; exact pm_addc _ _ (1) rfl (by omega) (by omega)
  have lp2 : ∀ (n : Nat) (z3_4 : Int32), (0 ≤ z3_4.toInt ∧ z3_4.toInt ≤ 161) → 200 - z3_4.toInt < (n : Int) → J 4 [some (.ref h), some (.int x1), some (.int x2), some (.int z3_4)] [] (md A0 g h q v f) 0 0 := by
    intro n
    induction n with
    | zero =>
      intro z3_4 j0_4 j1_4
      omega
    | succ n ih3 =>
      intro z3_4 j0_4 j1_4
      refine hC.1 1 4 _ _ rfl _ _ _ _ _ ?_
      refine Exists.intro _ (And.intro md_o ?_)
      refine And.intro (fun c4 => ?_) (fun c4 => ?_)
      · skip
        refine hC.1 3 30 _ _ rfl _ _ _ _ _ ?_
        have k268435456 : (268435456 : Int32).toInt = 268435456 := rfl
        exact ⟨rfl, fun e9 => absurd e9 (by decide), rfl, (268435456 : Int32), rfl, rfl, by exact True.intro⟩
      · skip
        refine Exists.intro _ (And.intro md_o ?_)
        refine Exists.intro _ (Exists.intro _ (And.intro (Or.inl (md_a_colours D)) (And.intro (by omega) ?_)))
        have w5 : (0 : Int) ≤ (f 0 (z3_4).toInt.toNat).toInt ∧ (f 0 (z3_4).toInt.toNat).toInt ≤ (23 : Int) := hf 0 _
        refine And.intro (fun c6 => ?_) (fun c6 => ?_)
        · skip
          have dc6 := pm_neI c6
          refine hC.1 2 24 _ _ rfl _ _ _ _ _ ?_
          intro m7 em_24
          try have e7 : m7.toInt = (z3_4).toInt + (1) := by rw [em_24]; exact pm_addc _ _ (1) rfl (by omega) (by omega)
          exact ih3 m7 (by omega) (by omega)
        · skip
          have dc6 : ((f 0 (z3_4).toInt.toNat)).toInt = (x1 : Int32).toInt := congrArg Int32.toInt c6
          exact ⟨rfl, fun e9 => absurd e9 (by decide), rfl, z3_4, rfl, rfl, by exact True.intro⟩
  exact lp2 (200 - m1.toInt).toNat.succ m1 (by omega) (by omega)

set_option maxRecDepth 100000 in
set_option maxHeartbeats 2000000 in
theorem c_X11_apart (D : md_D h q) (v : Nat → Int32) (f : Nat → Nat → Int32) (hv : md_V v) (hf : md_F f) (x1 : Int32) (x2 : Int32) (x3 : Int32)  : pm_Mt l g 246 2 0 0 [.ref h, .int x1, .int x2, .int x3] (md A0 g h q v f) (md_Qp (md A0 g h q v f) (fun r => True)) := by
  refine mt_X11_apart rfl (fun J hC => ?_)
  have hv9 := hv
  unfold md_V at hv9
  have rg_x1 := pm_rng x1
  have rg_x2 := pm_rng x2
  have rg_x3 := pm_rng x3
  refine hC.1 0 0 _ _ rfl _ _ _ _ _ ?_
  refine Exists.intro _ (Exists.intro _ (Exists.intro _ (Exists.intro _ (And.intro (c_X11_isColour (md A0 g h q v f) x1 ) (And.intro rfl (fun r9 A9 h9 => ?_))))))
  rcases h9 with ⟨y1, rfl, rfl, ⟨rfl, by1⟩ | ⟨rfl, by1⟩⟩
  · skip
    have k1 : (1 : Int32).toInt = 1 := rfl
    refine And.intro (fun c9 => absurd c9 (by decide)) (fun _ => ?_)
    refine Exists.intro _ (Exists.intro _ (Exists.intro _ (Exists.intro _ (And.intro (c_X11_isColour (md A0 g h q v f) x2 ) (And.intro rfl (fun r9 A9 h9 => ?_))))))
    rcases h9 with ⟨y2, rfl, rfl, ⟨rfl, by2⟩ | ⟨rfl, by2⟩⟩
    · skip
      refine And.intro (fun c9 => absurd c9 (by decide)) (fun _ => ?_)
      refine And.intro (fun c3 => ?_) (fun c3 => ?_)
      · skip
        have dc3 : (x1).toInt = (x2 : Int32).toInt := congrArg Int32.toInt c3
        refine hC.1 1 28 _ _ rfl _ _ _ _ _ ?_
        have km1 : (-1 : Int32).toInt = -1 := rfl
        exact ⟨rfl, fun e9 => absurd e9 (by decide), rfl, (-1 : Int32), rfl, rfl, by exact True.intro⟩
      · skip
        have dc3 := pm_neI c3
        have k0 : (0 : Int32).toInt = 0 := rfl
        refine Exists.intro _ (Exists.intro _ (Exists.intro _ (Exists.intro _ (And.intro (c_X11_isIn (md A0 g h q v f) x3 (0 : Int32) (1 : Int32) ) (And.intro rfl (fun r9 A9 h9 => ?_))))))
        rcases h9 with ⟨y4, rfl, rfl, ⟨rfl, by4⟩ | ⟨rfl, by4⟩⟩
        · skip
          refine And.intro (fun _ => ?_) (fun c9 => absurd c9 (by decide))
          refine hC.1 2 30 _ _ rfl _ _ _ _ _ ?_
          have km1 : (-1 : Int32).toInt = -1 := rfl
          have k268435456 : (268435456 : Int32).toInt = 268435456 := rfl
          have lp5 : ∀ (n : Nat) (z4_40 : Int32) (z5_40 : Int32) (z6_40 : Int32), (0 ≤ z6_40.toInt ∧ z6_40.toInt ≤ (v 0).toInt) → 200 - z6_40.toInt < (n : Int) → J 40 [some (.ref h), some (.int x1), some (.int x2), some (.int x3), some (.int z4_40), some (.int z5_40), some (.int z6_40), none] [] (md A0 g h q v f) 0 0 := by
            intro n
            induction n with
            | zero =>
              intro z4_40 z5_40 z6_40 j0_40 j1_40
              omega
            | succ n ih6 =>
              intro z4_40 z5_40 z6_40 j0_40 j1_40
              refine hC.1 3 40 _ _ rfl _ _ _ _ _ ?_
              refine Exists.intro _ (And.intro md_o ?_)
              refine And.intro (fun c7 => ?_) (fun c7 => ?_)
              · skip
                refine hC.1 9 135 _ _ rfl _ _ _ _ _ ?_
                refine And.intro (fun c8 => ?_) (fun c8 => ?_)
                · skip
                  refine hC.1 10 145 _ _ rfl _ _ _ _ _ ?_
                  refine hC.1 12 152 _ _ rfl _ _ _ _ _ ?_
                  exact ⟨rfl, fun e9 => absurd e9 (by decide), rfl, z4_40, rfl, rfl, by exact True.intro⟩
                · skip
                  refine And.intro (fun c9 => ?_) (fun c9 => ?_)
                  · skip
                    have dc9 := pm_neI c9
                    refine hC.1 11 150 _ _ rfl _ _ _ _ _ ?_
                    refine hC.1 12 152 _ _ rfl _ _ _ _ _ ?_
                    exact ⟨rfl, fun e9 => absurd e9 (by decide), rfl, z5_40, rfl, rfl, by exact True.intro⟩
                  · skip
                    have dc9 : (x3).toInt = ((1 : Int32) : Int32).toInt := congrArg Int32.toInt c9
                    refine hC.1 10 145 _ _ rfl _ _ _ _ _ ?_
                    refine hC.1 12 152 _ _ rfl _ _ _ _ _ ?_
                    exact ⟨rfl, fun e9 => absurd e9 (by decide), rfl, z4_40, rfl, rfl, by exact True.intro⟩
              · skip
                refine Exists.intro _ (And.intro md_o ?_)
                refine Exists.intro _ (Exists.intro _ (And.intro (Or.inl (md_a_colours D)) (And.intro (by omega) ?_)))
                have w10 : (0 : Int) ≤ (f 0 (z6_40).toInt.toNat).toInt ∧ (f 0 (z6_40).toInt.toNat).toInt ≤ (23 : Int) := hf 0 _
                refine And.intro (fun c11 => ?_) (fun c11 => ?_)
                · skip
                  have dc11 : ((f 0 (z6_40).toInt.toNat)).toInt = (x1 : Int32).toInt := congrArg Int32.toInt c11
                  refine hC.1 4 74 _ _ rfl _ _ _ _ _ ?_
                  refine Exists.intro _ (And.intro md_o ?_)
                  refine Exists.intro _ (Exists.intro _ (And.intro (Or.inl (md_a_colours D)) (And.intro (by omega) ?_)))
                  have w12 : (0 : Int) ≤ (f 0 (z6_40).toInt.toNat).toInt ∧ (f 0 (z6_40).toInt.toNat).toInt ≤ (23 : Int) := hf 0 _
                  refine And.intro (fun c13 => ?_) (fun c13 => ?_)
                  · skip
                    have dc13 := pm_neI c13
                    refine hC.1 5 90 _ _ rfl _ _ _ _ _ ?_
                    refine hC.1 6 91 _ _ rfl _ _ _ _ _ ?_
                    refine And.intro (Exists.intro _ md_o) (Exists.intro _ (Exists.intro _ (Exists.intro _ (Exists.intro _ (And.intro (c_X11_nextBehind D v f hv hf x1 z6_40 (by omega)) (And.intro rfl (fun r9 A9 h9 => ?_)))))))
                    obtain ⟨y14, rfl, rfl, by14⟩ := h9
                    intro m15 em_102
                    try have e15 : m15.toInt = (y14).toInt - (z6_40).toInt := by rw [em_102]; exact pm_sub _ _ (by omega) (by omega)
                    refine And.intro (fun c16 => ?_) (fun c16 => ?_)
                    · skip
                      refine hC.1 8 129 _ _ rfl _ _ _ _ _ ?_
                      intro m17 em_129
                      try have e17 : m17.toInt = (z6_40).toInt + (1) := by rw [em_129]; exact pm_addc _ _ (1) rfl (by omega) (by omega)
                      exact hC.2 [false, false, false, false, false, false, false, true] _ _ _ _ _ _ (ih6 z4_40 z5_40 m17 (by omega) (by omega))
                    · skip
                      refine And.intro (fun c18 => ?_) (fun c18 => ?_)
                      · skip
                        have dc18 := pm_neI c18
                        refine hC.1 7 118 _ _ rfl _ _ _ _ _ ?_
                        intro m19 em_126
                        try have e19 : m19.toInt = (y14).toInt - (z6_40).toInt := by rw [em_126]; exact pm_sub _ _ (by omega) (by omega)
                        refine hC.1 8 129 _ _ rfl _ _ _ _ _ ?_
                        intro m20 em_129
                        try have e20 : m20.toInt = (z6_40).toInt + (1) := by rw [em_129]; exact pm_addc _ _ (1) rfl (by omega) (by omega)
                        exact hC.2 [false, false, false, false, false, false, false, true] _ _ _ _ _ _ (ih6 z6_40 m19 m20 (by omega) (by omega))
                      · skip
                        have dc18 : (y14).toInt = ((268435456 : Int32) : Int32).toInt := congrArg Int32.toInt c18
                        refine hC.1 8 129 _ _ rfl _ _ _ _ _ ?_
                        intro m21 em_129
                        try have e21 : m21.toInt = (z6_40).toInt + (1) := by rw [em_129]; exact pm_addc _ _ (1) rfl (by omega) (by omega)
                        exact hC.2 [false, false, false, false, false, false, false, true] _ _ _ _ _ _ (ih6 z4_40 z5_40 m21 (by omega) (by omega))
                  · skip
                    have dc13 : ((f 0 (z6_40).toInt.toNat)).toInt = (x1 : Int32).toInt := congrArg Int32.toInt c13
                    refine hC.1 6 91 _ _ rfl _ _ _ _ _ ?_
                    refine And.intro (Exists.intro _ md_o) (Exists.intro _ (Exists.intro _ (Exists.intro _ (Exists.intro _ (And.intro (c_X11_nextBehind D v f hv hf x2 z6_40 (by omega)) (And.intro rfl (fun r9 A9 h9 => ?_)))))))
                    obtain ⟨y22, rfl, rfl, by22⟩ := h9
                    intro m23 em_102
                    try have e23 : m23.toInt = (y22).toInt - (z6_40).toInt := by rw [em_102]; exact pm_sub _ _ (by omega) (by omega)
                    refine And.intro (fun c24 => ?_) (fun c24 => ?_)
                    · skip
                      refine hC.1 8 129 _ _ rfl _ _ _ _ _ ?_
                      intro m25 em_129
                      try have e25 : m25.toInt = (z6_40).toInt + (1) := by rw [em_129]; exact pm_addc _ _ (1) rfl (by omega) (by omega)
                      exact hC.2 [false, false, false, false, false, false, false, true] _ _ _ _ _ _ (ih6 z4_40 z5_40 m25 (by omega) (by omega))
                    · skip
                      refine And.intro (fun c26 => ?_) (fun c26 => ?_)
                      · skip
                        have dc26 := pm_neI c26
                        refine hC.1 7 118 _ _ rfl _ _ _ _ _ ?_
                        intro m27 em_126
                        try have e27 : m27.toInt = (y22).toInt - (z6_40).toInt := by rw [em_126]; exact pm_sub _ _ (by omega) (by omega)
                        refine hC.1 8 129 _ _ rfl _ _ _ _ _ ?_
                        intro m28 em_129
                        try have e28 : m28.toInt = (z6_40).toInt + (1) := by rw [em_129]; exact pm_addc _ _ (1) rfl (by omega) (by omega)
                        exact hC.2 [false, false, false, false, false, false, false, true] _ _ _ _ _ _ (ih6 z6_40 m27 m28 (by omega) (by omega))
                      · skip
                        have dc26 : (y22).toInt = ((268435456 : Int32) : Int32).toInt := congrArg Int32.toInt c26
                        refine hC.1 8 129 _ _ rfl _ _ _ _ _ ?_
                        intro m29 em_129
                        try have e29 : m29.toInt = (z6_40).toInt + (1) := by rw [em_129]; exact pm_addc _ _ (1) rfl (by omega) (by omega)
                        exact hC.2 [false, false, false, false, false, false, false, true] _ _ _ _ _ _ (ih6 z4_40 z5_40 m29 (by omega) (by omega))
                · skip
                  have dc11 := pm_neI c11
                  refine Exists.intro _ (And.intro md_o ?_)
                  refine Exists.intro _ (Exists.intro _ (And.intro (Or.inl (md_a_colours D)) (And.intro (by omega) ?_)))
                  have w30 : (0 : Int) ≤ (f 0 (z6_40).toInt.toNat).toInt ∧ (f 0 (z6_40).toInt.toNat).toInt ≤ (23 : Int) := hf 0 _
                  refine And.intro (fun c31 => ?_) (fun c31 => ?_)
                  · skip
                    have dc31 : ((f 0 (z6_40).toInt.toNat)).toInt = (x2 : Int32).toInt := congrArg Int32.toInt c31
                    refine hC.1 4 74 _ _ rfl _ _ _ _ _ ?_
                    refine Exists.intro _ (And.intro md_o ?_)
                    refine Exists.intro _ (Exists.intro _ (And.intro (Or.inl (md_a_colours D)) (And.intro (by omega) ?_)))
                    have w32 : (0 : Int) ≤ (f 0 (z6_40).toInt.toNat).toInt ∧ (f 0 (z6_40).toInt.toNat).toInt ≤ (23 : Int) := hf 0 _
                    refine And.intro (fun c33 => ?_) (fun c33 => ?_)
                    · skip
                      have dc33 := pm_neI c33
                      refine hC.1 5 90 _ _ rfl _ _ _ _ _ ?_
                      refine hC.1 6 91 _ _ rfl _ _ _ _ _ ?_
                      refine And.intro (Exists.intro _ md_o) (Exists.intro _ (Exists.intro _ (Exists.intro _ (Exists.intro _ (And.intro (c_X11_nextBehind D v f hv hf x1 z6_40 (by omega)) (And.intro rfl (fun r9 A9 h9 => ?_)))))))
                      obtain ⟨y34, rfl, rfl, by34⟩ := h9
                      intro m35 em_102
                      try have e35 : m35.toInt = (y34).toInt - (z6_40).toInt := by rw [em_102]; exact pm_sub _ _ (by omega) (by omega)
                      refine And.intro (fun c36 => ?_) (fun c36 => ?_)
                      · skip
                        refine hC.1 8 129 _ _ rfl _ _ _ _ _ ?_
                        intro m37 em_129
                        try have e37 : m37.toInt = (z6_40).toInt + (1) := by rw [em_129]; exact pm_addc _ _ (1) rfl (by omega) (by omega)
                        exact hC.2 [false, false, false, false, false, false, false, true] _ _ _ _ _ _ (ih6 z4_40 z5_40 m37 (by omega) (by omega))
                      · skip
                        refine And.intro (fun c38 => ?_) (fun c38 => ?_)
                        · skip
                          have dc38 := pm_neI c38
                          refine hC.1 7 118 _ _ rfl _ _ _ _ _ ?_
                          intro m39 em_126
                          try have e39 : m39.toInt = (y34).toInt - (z6_40).toInt := by rw [em_126]; exact pm_sub _ _ (by omega) (by omega)
                          refine hC.1 8 129 _ _ rfl _ _ _ _ _ ?_
                          intro m40 em_129
                          try have e40 : m40.toInt = (z6_40).toInt + (1) := by rw [em_129]; exact pm_addc _ _ (1) rfl (by omega) (by omega)
                          exact hC.2 [false, false, false, false, false, false, false, true] _ _ _ _ _ _ (ih6 z6_40 m39 m40 (by omega) (by omega))
                        · skip
                          have dc38 : (y34).toInt = ((268435456 : Int32) : Int32).toInt := congrArg Int32.toInt c38
                          refine hC.1 8 129 _ _ rfl _ _ _ _ _ ?_
                          intro m41 em_129
                          try have e41 : m41.toInt = (z6_40).toInt + (1) := by rw [em_129]; exact pm_addc _ _ (1) rfl (by omega) (by omega)
                          exact hC.2 [false, false, false, false, false, false, false, true] _ _ _ _ _ _ (ih6 z4_40 z5_40 m41 (by omega) (by omega))
                    · skip
                      have dc33 : ((f 0 (z6_40).toInt.toNat)).toInt = (x1 : Int32).toInt := congrArg Int32.toInt c33
                      refine hC.1 6 91 _ _ rfl _ _ _ _ _ ?_
                      refine And.intro (Exists.intro _ md_o) (Exists.intro _ (Exists.intro _ (Exists.intro _ (Exists.intro _ (And.intro (c_X11_nextBehind D v f hv hf x2 z6_40 (by omega)) (And.intro rfl (fun r9 A9 h9 => ?_)))))))
                      obtain ⟨y42, rfl, rfl, by42⟩ := h9
                      intro m43 em_102
                      try have e43 : m43.toInt = (y42).toInt - (z6_40).toInt := by rw [em_102]; exact pm_sub _ _ (by omega) (by omega)
                      refine And.intro (fun c44 => ?_) (fun c44 => ?_)
                      · skip
                        refine hC.1 8 129 _ _ rfl _ _ _ _ _ ?_
                        intro m45 em_129
                        try have e45 : m45.toInt = (z6_40).toInt + (1) := by rw [em_129]; exact pm_addc _ _ (1) rfl (by omega) (by omega)
                        exact hC.2 [false, false, false, false, false, false, false, true] _ _ _ _ _ _ (ih6 z4_40 z5_40 m45 (by omega) (by omega))
                      · skip
                        refine And.intro (fun c46 => ?_) (fun c46 => ?_)
                        · skip
                          have dc46 := pm_neI c46
                          refine hC.1 7 118 _ _ rfl _ _ _ _ _ ?_
                          intro m47 em_126
                          try have e47 : m47.toInt = (y42).toInt - (z6_40).toInt := by rw [em_126]; exact pm_sub _ _ (by omega) (by omega)
                          refine hC.1 8 129 _ _ rfl _ _ _ _ _ ?_
                          intro m48 em_129
                          try have e48 : m48.toInt = (z6_40).toInt + (1) := by rw [em_129]; exact pm_addc _ _ (1) rfl (by omega) (by omega)
                          exact hC.2 [false, false, false, false, false, false, false, true] _ _ _ _ _ _ (ih6 z6_40 m47 m48 (by omega) (by omega))
                        · skip
                          have dc46 : (y42).toInt = ((268435456 : Int32) : Int32).toInt := congrArg Int32.toInt c46
                          refine hC.1 8 129 _ _ rfl _ _ _ _ _ ?_
                          intro m49 em_129
                          try have e49 : m49.toInt = (z6_40).toInt + (1) := by rw [em_129]; exact pm_addc _ _ (1) rfl (by omega) (by omega)
                          exact hC.2 [false, false, false, false, false, false, false, true] _ _ _ _ _ _ (ih6 z4_40 z5_40 m49 (by omega) (by omega))
                  · skip
                    have dc31 := pm_neI c31
                    refine hC.1 8 129 _ _ rfl _ _ _ _ _ ?_
                    intro m50 em_129
                    try have e50 : m50.toInt = (z6_40).toInt + (1) := by rw [em_129]; exact pm_addc _ _ (1) rfl (by omega) (by omega)
                    exact ih6 z4_40 z5_40 m50 (by omega) (by omega)
          exact lp5 (200 - (0 : Int32).toInt).toNat.succ (-1 : Int32) (268435456 : Int32) (0 : Int32) (by omega) (by omega)
        · skip
          refine And.intro (fun c9 => absurd c9 (by decide)) (fun _ => ?_)
          refine hC.1 1 28 _ _ rfl _ _ _ _ _ ?_
          have km1 : (-1 : Int32).toInt = -1 := rfl
          exact ⟨rfl, fun e9 => absurd e9 (by decide), rfl, (-1 : Int32), rfl, rfl, by exact True.intro⟩
    · skip
      have k0 : (0 : Int32).toInt = 0 := rfl
      refine And.intro (fun _ => ?_) (fun c9 => absurd c9 (by decide))
      refine hC.1 1 28 _ _ rfl _ _ _ _ _ ?_
      have km1 : (-1 : Int32).toInt = -1 := rfl
      exact ⟨rfl, fun e9 => absurd e9 (by decide), rfl, (-1 : Int32), rfl, rfl, by exact True.intro⟩
  · skip
    have k0 : (0 : Int32).toInt = 0 := rfl
    refine And.intro (fun _ => ?_) (fun c9 => absurd c9 (by decide))
    refine hC.1 1 28 _ _ rfl _ _ _ _ _ ?_
    have km1 : (-1 : Int32).toInt = -1 := rfl
    exact ⟨rfl, fun e9 => absurd e9 (by decide), rfl, (-1 : Int32), rfl, rfl, by exact True.intro⟩

set_option maxRecDepth 100000 in
set_option maxHeartbeats 2000000 in
theorem c_X11_reach (D : md_D h q) (v : Nat → Int32) (f : Nat → Nat → Int32) (hv : md_V v) (hf : md_F f) (x1 : Int32) (x2 : Int32)  : pm_Mt l g 248 2 0 0 [.ref h, .int x1, .int x2] (md A0 g h q v f) (md_Qp (md A0 g h q v f) (fun r => True)) := by
  refine mt_X11_reach rfl (fun J hC => ?_)
  have hv9 := hv
  unfold md_V at hv9
  have rg_x1 := pm_rng x1
  have rg_x2 := pm_rng x2
  refine hC.1 0 0 _ _ rfl _ _ _ _ _ ?_
  refine And.intro (Exists.intro _ md_o) (Exists.intro _ (Exists.intro _ (Exists.intro _ (Exists.intro _ (And.intro (c_X11_isPlace D v f hv hf x1 ) (And.intro rfl (fun r9 A9 h9 => ?_)))))))
  rcases h9 with ⟨y1, rfl, rfl, ⟨rfl, by1⟩ | ⟨rfl, by1⟩⟩
  · skip
    have k1 : (1 : Int32).toInt = 1 := rfl
    refine And.intro (fun c9 => absurd c9 (by decide)) (fun _ => ?_)
    refine And.intro (fun c2 => ?_) (fun c2 => ?_)
    · skip
      refine hC.1 2 15 _ _ rfl _ _ _ _ _ ?_
      have lp3 : ∀ (n : Nat) (z3_17 : Int32), (x1.toInt ≤ z3_17.toInt ∧ z3_17.toInt ≤ (v 0).toInt) → 200 - z3_17.toInt < (n : Int) → J 17 [some (.ref h), some (.int x1), some (.int x2), some (.int z3_17)] [] (md A0 g h q v f) 0 0 := by
        intro n
        induction n with
        | zero =>
          intro z3_17 j0_17 j1_17
          omega
        | succ n ih4 =>
          intro z3_17 j0_17 j1_17
          refine hC.1 3 17 _ _ rfl _ _ _ _ _ ?_
          refine Exists.intro _ (And.intro md_o ?_)
          refine And.intro (fun c5 => ?_) (fun c5 => ?_)
          · skip
            refine hC.1 5 43 _ _ rfl _ _ _ _ _ ?_
            have km1 : (-1 : Int32).toInt = -1 := rfl
            exact ⟨rfl, fun e9 => absurd e9 (by decide), rfl, (-1 : Int32), rfl, rfl, by exact True.intro⟩
          · skip
            refine And.intro (Exists.intro _ md_o) (Exists.intro _ (Exists.intro _ (Exists.intro _ (Exists.intro _ (And.intro (c_X11_countOf D v f hv hf x1 z3_17 (by omega) (by omega)) (And.intro rfl (fun r9 A9 h9 => ?_)))))))
            obtain ⟨y6, rfl, rfl, by6⟩ := h9
            refine And.intro (fun c7 => ?_) (fun c7 => ?_)
            · skip
              refine hC.1 4 37 _ _ rfl _ _ _ _ _ ?_
              intro m8 em_37
              try have e8 : m8.toInt = (z3_17).toInt + (1) := by rw [em_37]; exact pm_addc _ _ (1) rfl (by omega) (by omega)
              exact ih4 m8 (by omega) (by omega)
            · skip
              exact ⟨rfl, fun e9 => absurd e9 (by decide), rfl, z3_17, rfl, rfl, by exact True.intro⟩
      exact lp3 (200 - x1.toInt).toNat.succ x1 (by omega) (by omega)
    · skip
      refine hC.1 1 13 _ _ rfl _ _ _ _ _ ?_
      have km1 : (-1 : Int32).toInt = -1 := rfl
      exact ⟨rfl, fun e9 => absurd e9 (by decide), rfl, (-1 : Int32), rfl, rfl, by exact True.intro⟩
  · skip
    have k0 : (0 : Int32).toInt = 0 := rfl
    refine And.intro (fun _ => ?_) (fun c9 => absurd c9 (by decide))
    refine hC.1 1 13 _ _ rfl _ _ _ _ _ ?_
    have km1 : (-1 : Int32).toInt = -1 := rfl
    exact ⟨rfl, fun e9 => absurd e9 (by decide), rfl, (-1 : Int32), rfl, rfl, by exact True.intro⟩

end
end
section
section
variable {l : Launch} {g : pm_G} {A0 : pm_H} {h : Nat} {q : Nat → Nat}
set_option maxRecDepth 100000 in
set_option maxHeartbeats 2000000 in
theorem c_X11_reachBack (D : md_D h q) (v : Nat → Int32) (f : Nat → Nat → Int32) (hv : md_V v) (hf : md_F f) (x1 : Int32) (x2 : Int32)  : pm_Mt l g 249 2 0 0 [.ref h, .int x1, .int x2] (md A0 g h q v f) (md_Qp (md A0 g h q v f) (fun r => True)) := by
  refine mt_X11_reachBack rfl (fun J hC => ?_)
  have hv9 := hv
  unfold md_V at hv9
  have rg_x1 := pm_rng x1
  have rg_x2 := pm_rng x2
  refine hC.1 0 0 _ _ rfl _ _ _ _ _ ?_
  refine And.intro (Exists.intro _ md_o) (Exists.intro _ (Exists.intro _ (Exists.intro _ (Exists.intro _ (And.intro (c_X11_isPlace D v f hv hf x1 ) (And.intro rfl (fun r9 A9 h9 => ?_)))))))
  rcases h9 with ⟨y1, rfl, rfl, ⟨rfl, by1⟩ | ⟨rfl, by1⟩⟩
  · skip
    have k1 : (1 : Int32).toInt = 1 := rfl
    refine And.intro (fun c9 => absurd c9 (by decide)) (fun _ => ?_)
    refine And.intro (fun c2 => ?_) (fun c2 => ?_)
    · skip
      refine hC.1 2 15 _ _ rfl _ _ _ _ _ ?_
      have lp3 : ∀ (n : Nat) (z3_17 : Int32), (-1 ≤ z3_17.toInt ∧ z3_17.toInt ≤ x1.toInt) → z3_17.toInt + 1 < (n : Int) → J 17 [some (.ref h), some (.int x1), some (.int x2), some (.int z3_17)] [] (md A0 g h q v f) 0 0 := by
        intro n
        induction n with
        | zero =>
          intro z3_17 j0_17 j1_17
          omega
        | succ n ih4 =>
          intro z3_17 j0_17 j1_17
          refine hC.1 3 17 _ _ rfl _ _ _ _ _ ?_
          refine And.intro (fun c5 => ?_) (fun c5 => ?_)
          · skip
            refine hC.1 5 39 _ _ rfl _ _ _ _ _ ?_
            have km1 : (-1 : Int32).toInt = -1 := rfl
            exact ⟨rfl, fun e9 => absurd e9 (by decide), rfl, (-1 : Int32), rfl, rfl, by exact True.intro⟩
          · skip
            refine And.intro (Exists.intro _ md_o) (Exists.intro _ (Exists.intro _ (Exists.intro _ (Exists.intro _ (And.intro (c_X11_countOf D v f hv hf z3_17 x1 (by omega) (by omega)) (And.intro rfl (fun r9 A9 h9 => ?_)))))))
            obtain ⟨y6, rfl, rfl, by6⟩ := h9
            refine And.intro (fun c7 => ?_) (fun c7 => ?_)
            · skip
              refine hC.1 4 33 _ _ rfl _ _ _ _ _ ?_
              have km1 : (-1 : Int32).toInt = -1 := rfl
              intro m8 em_33
              try have e8 : m8.toInt = (z3_17).toInt + (-1) := by rw [em_33]; exact pm_addc _ _ (-1) rfl (by omega) (by omega)
              exact ih4 m8 (by omega) (by omega)
            · skip
              exact ⟨rfl, fun e9 => absurd e9 (by decide), rfl, z3_17, rfl, rfl, by exact True.intro⟩
      exact lp3 (x1.toInt + 1).toNat.succ x1 (by omega) (by omega)
    · skip
      refine hC.1 1 13 _ _ rfl _ _ _ _ _ ?_
      have km1 : (-1 : Int32).toInt = -1 := rfl
      exact ⟨rfl, fun e9 => absurd e9 (by decide), rfl, (-1 : Int32), rfl, rfl, by exact True.intro⟩
  · skip
    have k0 : (0 : Int32).toInt = 0 := rfl
    refine And.intro (fun _ => ?_) (fun c9 => absurd c9 (by decide))
    refine hC.1 1 13 _ _ rfl _ _ _ _ _ ?_
    have km1 : (-1 : Int32).toInt = -1 := rfl
    exact ⟨rfl, fun e9 => absurd e9 (by decide), rfl, (-1 : Int32), rfl, rfl, by exact True.intro⟩

set_option maxRecDepth 100000 in
set_option maxHeartbeats 2000000 in
theorem c_X11_load (D : md_D h q) (v : Nat → Int32) (f : Nat → Nat → Int32) (hv : md_V v) (hf : md_F f) (x1 : Int32) (x2 : Int32)  : pm_Mt l g 250 2 0 0 [.ref h, .int x1, .int x2] (md A0 g h q v f) (md_Qp (md A0 g h q v f) (fun r => True)) := by
  refine mt_X11_load rfl (fun J hC => ?_)
  have hv9 := hv
  unfold md_V at hv9
  have rg_x1 := pm_rng x1
  have rg_x2 := pm_rng x2
  refine hC.1 0 0 _ _ rfl _ _ _ _ _ ?_
  refine And.intro (Exists.intro _ md_o) (Exists.intro _ (Exists.intro _ (Exists.intro _ (Exists.intro _ (And.intro (c_X11_isPlace D v f hv hf x1 ) (And.intro rfl (fun r9 A9 h9 => ?_)))))))
  rcases h9 with ⟨y1, rfl, rfl, ⟨rfl, by1⟩ | ⟨rfl, by1⟩⟩
  · skip
    have k1 : (1 : Int32).toInt = 1 := rfl
    refine And.intro (fun c9 => absurd c9 (by decide)) (fun _ => ?_)
    refine And.intro (fun c2 => ?_) (fun c2 => ?_)
    · skip
      refine hC.1 2 15 _ _ rfl _ _ _ _ _ ?_
      have lp3 : ∀ (n : Nat) (z3_17 : Int32), (x1.toInt ≤ z3_17.toInt ∧ z3_17.toInt ≤ (v 0).toInt) → 200 - z3_17.toInt < (n : Int) → J 17 [some (.ref h), some (.int x1), some (.int x2), some (.int z3_17)] [] (md A0 g h q v f) 0 0 := by
        intro n
        induction n with
        | zero =>
          intro z3_17 j0_17 j1_17
          omega
        | succ n ih4 =>
          intro z3_17 j0_17 j1_17
          refine hC.1 3 17 _ _ rfl _ _ _ _ _ ?_
          refine Exists.intro _ (And.intro md_o ?_)
          refine And.intro (fun c5 => ?_) (fun c5 => ?_)
          · skip
            refine hC.1 5 47 _ _ rfl _ _ _ _ _ ?_
            have km1 : (-1 : Int32).toInt = -1 := rfl
            exact ⟨rfl, fun e9 => absurd e9 (by decide), rfl, (-1 : Int32), rfl, rfl, by exact True.intro⟩
          · skip
            refine And.intro (Exists.intro _ md_o) (Exists.intro _ (Exists.intro _ (Exists.intro _ (Exists.intro _ (And.intro (c_X11_setOf D v f hv hf x1 z3_17 (by omega) (by omega)) (And.intro rfl (fun r9 A9 h9 => ?_)))))))
            obtain ⟨y6, rfl, rfl, by6⟩ := h9
            refine And.intro (Exists.intro _ md_o) (Exists.intro _ (Exists.intro _ (Exists.intro _ (Exists.intro _ (And.intro (c_X11_weightOf D v f hv hf y6 ) (And.intro rfl (fun r9 A9 h9 => ?_)))))))
            obtain ⟨y7, rfl, rfl, by7⟩ := h9
            refine And.intro (fun c8 => ?_) (fun c8 => ?_)
            · skip
              refine hC.1 4 41 _ _ rfl _ _ _ _ _ ?_
              intro m9 em_41
              try have e9 : m9.toInt = (z3_17).toInt + (1) := by rw [em_41]; exact pm_addc _ _ (1) rfl (by omega) (by omega)
              exact ih4 m9 (by omega) (by omega)
            · skip
              exact ⟨rfl, fun e9 => absurd e9 (by decide), rfl, z3_17, rfl, rfl, by exact True.intro⟩
      exact lp3 (200 - x1.toInt).toNat.succ x1 (by omega) (by omega)
    · skip
      refine hC.1 1 13 _ _ rfl _ _ _ _ _ ?_
      have km1 : (-1 : Int32).toInt = -1 := rfl
      exact ⟨rfl, fun e9 => absurd e9 (by decide), rfl, (-1 : Int32), rfl, rfl, by exact True.intro⟩
  · skip
    have k0 : (0 : Int32).toInt = 0 := rfl
    refine And.intro (fun _ => ?_) (fun c9 => absurd c9 (by decide))
    refine hC.1 1 13 _ _ rfl _ _ _ _ _ ?_
    have km1 : (-1 : Int32).toInt = -1 := rfl
    exact ⟨rfl, fun e9 => absurd e9 (by decide), rfl, (-1 : Int32), rfl, rfl, by exact True.intro⟩

set_option maxRecDepth 100000 in
set_option maxHeartbeats 2000000 in
theorem c_X11_window (D : md_D h q) (v : Nat → Int32) (f : Nat → Nat → Int32) (hv : md_V v) (hf : md_F f) (x1 : Int32) (x2 : Int32)  : pm_Mt l g 251 1 0 0 [.ref h, .int x1, .int x2] (md A0 g h q v f) (md_Qp (md A0 g h q v f) (fun r => True)) := by
  refine mt_X11_window rfl (fun J hC => ?_)
  have hv9 := hv
  unfold md_V at hv9
  have rg_x1 := pm_rng x1
  have rg_x2 := pm_rng x2
  refine hC.1 0 0 _ _ rfl _ _ _ _ _ ?_
  have k1 : (1 : Int32).toInt = 1 := rfl
  have k16777215 : (16777215 : Int32).toInt = 16777215 := rfl
  refine Exists.intro _ (Exists.intro _ (Exists.intro _ (Exists.intro _ (And.intro (c_X11_isIn (md A0 g h q v f) x1 (1 : Int32) (16777215 : Int32) ) (And.intro rfl (fun r9 A9 h9 => ?_))))))
  rcases h9 with ⟨y1, rfl, rfl, ⟨rfl, by1⟩ | ⟨rfl, by1⟩⟩
  · skip
    refine And.intro (fun c9 => absurd c9 (by decide)) (fun _ => ?_)
    have k0 : (0 : Int32).toInt = 0 := rfl
    have k2 : (2 : Int32).toInt = 2 := rfl
    refine Exists.intro _ (Exists.intro _ (Exists.intro _ (Exists.intro _ (And.intro (c_X11_isIn (md A0 g h q v f) x2 (0 : Int32) (2 : Int32) ) (And.intro rfl (fun r9 A9 h9 => ?_))))))
    rcases h9 with ⟨y2, rfl, rfl, ⟨rfl, by2⟩ | ⟨rfl, by2⟩⟩
    · skip
      refine And.intro (fun _ => ?_) (fun c9 => absurd c9 (by decide))
      refine hC.1 2 21 _ _ rfl _ _ _ _ _ ?_
      have km1 : (-1 : Int32).toInt = -1 := rfl
      have lp3 : ∀ (n : Nat) (z3_32 : Int32) (z4_32 : Int32) (z5_32 : Int32) (z6_32 : Int32), (0 ≤ z6_32.toInt ∧ z6_32.toInt ≤ (v 0).toInt) → 200 - z6_32.toInt < (n : Int) → J 32 [some (.ref h), some (.int x1), some (.int x2), some (.int z3_32), some (.int z4_32), some (.int z5_32), some (.int z6_32), none, none] [] (md A0 g h q v f) 0 0 := by
        intro n
        induction n with
        | zero =>
          intro z3_32 z4_32 z5_32 z6_32 j0_32 j1_32
          omega
        | succ n ih4 =>
          intro z3_32 z4_32 z5_32 z6_32 j0_32 j1_32
          refine hC.1 3 32 _ _ rfl _ _ _ _ _ ?_
          refine Exists.intro _ (And.intro md_o ?_)
          refine And.intro (fun c5 => ?_) (fun c5 => ?_)
          · skip
            refine hC.1 9 152 _ _ rfl _ _ _ _ _ ?_
            refine And.intro (fun c6 => ?_) (fun c6 => ?_)
            · skip
              have dc6 := pm_neI c6
              refine hC.1 10 161 _ _ rfl _ _ _ _ _ ?_
              refine And.intro (fun c7 => ?_) (fun c7 => ?_)
              · skip
                refine hC.1 11 170 _ _ rfl _ _ _ _ _ ?_
                refine And.intro (fun c8 => ?_) (fun c8 => ?_)
                · skip
                  have dc8 := pm_neI c8
                  refine hC.1 12 179 _ _ rfl _ _ _ _ _ ?_
                  refine hC.1 13 181 _ _ rfl _ _ _ _ _ ?_
                  exact ⟨rfl, fun e9 => absurd e9 (by decide), rfl, z5_32, rfl, rfl, by exact True.intro⟩
                · skip
                  have dc8 : (x2).toInt = (0 : Int32).toInt := congrArg Int32.toInt c8
                  refine hC.1 13 181 _ _ rfl _ _ _ _ _ ?_
                  exact ⟨rfl, fun e9 => absurd e9 (by decide), rfl, z4_32, rfl, rfl, by exact True.intro⟩
              · skip
                refine hC.1 13 181 _ _ rfl _ _ _ _ _ ?_
                exact ⟨rfl, fun e9 => absurd e9 (by decide), rfl, (-1 : Int32), rfl, rfl, by exact True.intro⟩
            · skip
              have dc6 : (x2).toInt = ((2 : Int32) : Int32).toInt := congrArg Int32.toInt c6
              refine hC.1 13 181 _ _ rfl _ _ _ _ _ ?_
              exact ⟨rfl, fun e9 => absurd e9 (by decide), rfl, z3_32, rfl, rfl, by exact True.intro⟩
          · skip
            have lp9 : ∀ (n : Nat) (z7_48 : Int32) (z8_48 : Int32), (0 ≤ z8_48.toInt ∧ z8_48.toInt ≤ (v 0).toInt) → 200 - z8_48.toInt < (n : Int) → J 48 [some (.ref h), some (.int x1), some (.int x2), some (.int z3_32), some (.int z4_32), some (.int z5_32), some (.int z6_32), some (.int z7_48), some (.int z8_48)] [] (md A0 g h q v f) 0 0 := by
              intro n
              induction n with
              | zero =>
                intro z7_48 z8_48 j0_48 j1_48
                omega
              | succ n ih10 =>
                intro z7_48 z8_48 j0_48 j1_48
                refine hC.1 4 48 _ _ rfl _ _ _ _ _ ?_
                refine Exists.intro _ (And.intro md_o ?_)
                refine And.intro (fun c11 => ?_) (fun c11 => ?_)
                · skip
                  refine hC.1 5 95 _ _ rfl _ _ _ _ _ ?_
                  refine Exists.intro _ (And.intro md_o ?_)
                  refine And.intro (fun c12 => ?_) (fun c12 => ?_)
                  · skip
                    have dc12 := pm_neI c12
                    refine hC.1 6 107 _ _ rfl _ _ _ _ _ ?_
                    refine Exists.intro _ (And.intro md_o ?_)
                    intro m13 em_114
                    try have e13 : m13.toInt = ((v 0)).toInt - (z8_48).toInt := by rw [em_114]; exact pm_sub _ _ (by omega) (by omega)
                    intro m14 em_115
                    try have e14 : m14.toInt = (z3_32).toInt + (m13).toInt := by rw [em_115]; exact pm_add _ _ (by omega) (by omega)
                    refine And.intro (fun c15 => ?_) (fun c15 => ?_)
                    · skip
                      refine hC.1 7 138 _ _ rfl _ _ _ _ _ ?_
                      refine hC.1 8 146 _ _ rfl _ _ _ _ _ ?_
                      intro m16 em_146
                      try have e16 : m16.toInt = (z6_32).toInt + (1) := by rw [em_146]; exact pm_addc _ _ (1) rfl (by omega) (by omega)
                      exact hC.2 [false, false, false, false, false, false, false, true, true] _ _ _ _ _ _ (ih4 m14 z6_32 z8_48 m16 (by omega) (by omega))
                    · skip
                      intro m17 em_126
                      try have e17 : m17.toInt = (z8_48).toInt - (z6_32).toInt := by rw [em_126]; exact pm_sub _ _ (by omega) (by omega)
                      intro m18 em_131
                      try have e18 : m18.toInt = (z5_32).toInt - (z4_32).toInt := by rw [em_131]; exact pm_sub _ _ (by omega) (by omega)
                      refine And.intro (fun c19 => ?_) (fun c19 => ?_)
                      · skip
                        refine hC.1 7 138 _ _ rfl _ _ _ _ _ ?_
                        refine hC.1 8 146 _ _ rfl _ _ _ _ _ ?_
                        intro m20 em_146
                        try have e20 : m20.toInt = (z6_32).toInt + (1) := by rw [em_146]; exact pm_addc _ _ (1) rfl (by omega) (by omega)
                        exact hC.2 [false, false, false, false, false, false, false, true, true] _ _ _ _ _ _ (ih4 m14 z6_32 z8_48 m20 (by omega) (by omega))
                      · skip
                        refine hC.1 8 146 _ _ rfl _ _ _ _ _ ?_
                        intro m21 em_146
                        try have e21 : m21.toInt = (z6_32).toInt + (1) := by rw [em_146]; exact pm_addc _ _ (1) rfl (by omega) (by omega)
                        exact hC.2 [false, false, false, false, false, false, false, true, true] _ _ _ _ _ _ (ih4 m14 z4_32 z5_32 m21 (by omega) (by omega))
                  · skip
                    have dc12 : (z8_48).toInt = ((v 0) : Int32).toInt := congrArg Int32.toInt c12
                    refine hC.1 8 146 _ _ rfl _ _ _ _ _ ?_
                    intro m22 em_146
                    try have e22 : m22.toInt = (z6_32).toInt + (1) := by rw [em_146]; exact pm_addc _ _ (1) rfl (by omega) (by omega)
                    exact hC.2 [false, false, false, false, false, false, false, true, true] _ _ _ _ _ _ (ih4 z3_32 z4_32 z5_32 m22 (by omega) (by omega))
                · skip
                  refine Exists.intro _ (And.intro md_o ?_)
                  refine Exists.intro _ (Exists.intro _ (And.intro (Or.inl (md_a_colours D)) (And.intro (by omega) ?_)))
                  have w23 : (0 : Int) ≤ (f 0 (z8_48).toInt.toNat).toInt ∧ (f 0 (z8_48).toInt.toNat).toInt ≤ (23 : Int) := hf 0 _
                  refine And.intro (fun c24 => ?_) (fun c24 => ?_)
                  · skip
                    have dc24 : (((z7_48 ||| ((1 : Int32) <<< ((f 0 (z8_48).toInt.toNat) &&& 31))) &&& x1)).toInt = (x1 : Int32).toInt := congrArg Int32.toInt c24
                    refine hC.1 5 95 _ _ rfl _ _ _ _ _ ?_
                    refine Exists.intro _ (And.intro md_o ?_)
                    refine And.intro (fun c25 => ?_) (fun c25 => ?_)
                    · skip
                      have dc25 := pm_neI c25
                      refine hC.1 6 107 _ _ rfl _ _ _ _ _ ?_
                      refine Exists.intro _ (And.intro md_o ?_)
                      intro m26 em_114
                      try have e26 : m26.toInt = ((v 0)).toInt - (z8_48).toInt := by rw [em_114]; exact pm_sub _ _ (by omega) (by omega)
                      intro m27 em_115
                      try have e27 : m27.toInt = (z3_32).toInt + (m26).toInt := by rw [em_115]; exact pm_add _ _ (by omega) (by omega)
                      refine And.intro (fun c28 => ?_) (fun c28 => ?_)
                      · skip
                        refine hC.1 7 138 _ _ rfl _ _ _ _ _ ?_
                        refine hC.1 8 146 _ _ rfl _ _ _ _ _ ?_
                        intro m29 em_146
                        try have e29 : m29.toInt = (z6_32).toInt + (1) := by rw [em_146]; exact pm_addc _ _ (1) rfl (by omega) (by omega)
                        exact hC.2 [false, false, false, false, false, false, false, true, true] _ _ _ _ _ _ (ih4 m27 z6_32 z8_48 m29 (by omega) (by omega))
                      · skip
                        intro m30 em_126
                        try have e30 : m30.toInt = (z8_48).toInt - (z6_32).toInt := by rw [em_126]; exact pm_sub _ _ (by omega) (by omega)
                        intro m31 em_131
                        try have e31 : m31.toInt = (z5_32).toInt - (z4_32).toInt := by rw [em_131]; exact pm_sub _ _ (by omega) (by omega)
                        refine And.intro (fun c32 => ?_) (fun c32 => ?_)
                        · skip
                          refine hC.1 7 138 _ _ rfl _ _ _ _ _ ?_
                          refine hC.1 8 146 _ _ rfl _ _ _ _ _ ?_
                          intro m33 em_146
                          try have e33 : m33.toInt = (z6_32).toInt + (1) := by rw [em_146]; exact pm_addc _ _ (1) rfl (by omega) (by omega)
                          exact hC.2 [false, false, false, false, false, false, false, true, true] _ _ _ _ _ _ (ih4 m27 z6_32 z8_48 m33 (by omega) (by omega))
                        · skip
                          refine hC.1 8 146 _ _ rfl _ _ _ _ _ ?_
                          intro m34 em_146
                          try have e34 : m34.toInt = (z6_32).toInt + (1) := by rw [em_146]; exact pm_addc _ _ (1) rfl (by omega) (by omega)
                          exact hC.2 [false, false, false, false, false, false, false, true, true] _ _ _ _ _ _ (ih4 m27 z4_32 z5_32 m34 (by omega) (by omega))
                    · skip
                      have dc25 : (z8_48).toInt = ((v 0) : Int32).toInt := congrArg Int32.toInt c25
                      refine hC.1 8 146 _ _ rfl _ _ _ _ _ ?_
                      intro m35 em_146
                      try have e35 : m35.toInt = (z6_32).toInt + (1) := by rw [em_146]; exact pm_addc _ _ (1) rfl (by omega) (by omega)
                      exact hC.2 [false, false, false, false, false, false, false, true, true] _ _ _ _ _ _ (ih4 z3_32 z4_32 z5_32 m35 (by omega) (by omega))
                  · skip
                    have dc24 := pm_neI c24
                    refine Exists.intro _ (And.intro md_o ?_)
                    refine Exists.intro _ (Exists.intro _ (And.intro (Or.inl (md_a_colours D)) (And.intro (by omega) ?_)))
                    have w36 : (0 : Int) ≤ (f 0 (z8_48).toInt.toNat).toInt ∧ (f 0 (z8_48).toInt.toNat).toInt ≤ (23 : Int) := hf 0 _
                    intro m37 em_89
                    try have e37 : m37.toInt = (z8_48).toInt + (1) := by rw [em_89]; exact pm_addc _ _ (1) rfl (by omega) (by omega)
                    exact ih10 (z7_48 ||| ((1 : Int32) <<< ((f 0 (z8_48).toInt.toNat) &&& 31))) m37 (by omega) (by omega)
            exact lp9 (200 - z6_32.toInt).toNat.succ (0 : Int32) z6_32 (by omega) (by omega)
      exact lp3 (200 - (0 : Int32).toInt).toNat.succ (0 : Int32) (-1 : Int32) (0 : Int32) (0 : Int32) (by omega) (by omega)
    · skip
      refine And.intro (fun c9 => absurd c9 (by decide)) (fun _ => ?_)
      refine hC.1 1 19 _ _ rfl _ _ _ _ _ ?_
      have km1 : (-1 : Int32).toInt = -1 := rfl
      exact ⟨rfl, fun e9 => absurd e9 (by decide), rfl, (-1 : Int32), rfl, rfl, by exact True.intro⟩
  · skip
    have k0 : (0 : Int32).toInt = 0 := rfl
    refine And.intro (fun _ => ?_) (fun c9 => absurd c9 (by decide))
    refine hC.1 1 19 _ _ rfl _ _ _ _ _ ?_
    have km1 : (-1 : Int32).toInt = -1 := rfl
    exact ⟨rfl, fun e9 => absurd e9 (by decide), rfl, (-1 : Int32), rfl, rfl, by exact True.intro⟩

set_option maxRecDepth 100000 in
set_option maxHeartbeats 2000000 in
theorem c_X11_farthest (D : md_D h q) (v : Nat → Int32) (f : Nat → Nat → Int32) (hv : md_V v) (hf : md_F f) (x1 : Int32) (x2 : Int32) (p0 : 0 ≤ x1.toInt ∧ x1.toInt ≤ (v 0).toInt) : pm_Mt l g 253 1 0 0 [.ref h, .int x1, .int x2] (md A0 g h q v f) (md_Qp (md A0 g h q v f) (fun r => x1.toInt - 1 ≤ r.toInt ∧ r.toInt < (v 0).toInt ∧ (x1.toInt < (v 0).toInt → 1 ≤ x2.toInt → x1.toInt ≤ r.toInt))) := by
  refine mt_X11_farthest rfl (fun J hC => ?_)
  have hv9 := hv
  unfold md_V at hv9
  have rg_x1 := pm_rng x1
  have rg_x2 := pm_rng x2
  refine hC.1 0 0 _ _ rfl _ _ _ _ _ ?_
  have k0 : (0 : Int32).toInt = 0 := rfl
  have lp1 : ∀ (n : Nat) (z3_5 : Int32) (z4_5 : Int32), (x1.toInt ≤ z4_5.toInt ∧ z4_5.toInt ≤ (v 0).toInt) → (z4_5.toInt = x1.toInt → z3_5 = 0) → 200 - z4_5.toInt < (n : Int) → J 5 [some (.ref h), some (.int x1), some (.int x2), some (.int z3_5), some (.int z4_5)] [] (md A0 g h q v f) 0 0 := by
    intro n
    induction n with
    | zero =>
      intro z3_5 z4_5 j0_5 j1_5 j2_5
      omega
    | succ n ih2 =>
      intro z3_5 z4_5 j0_5 j1_5 j2_5
      refine hC.1 1 5 _ _ rfl _ _ _ _ _ ?_
      refine Exists.intro _ (And.intro md_o ?_)
      refine And.intro (fun c3 => ?_) (fun c3 => ?_)
      · skip
        refine hC.1 2 50 _ _ rfl _ _ _ _ _ ?_
        have k1 : (1 : Int32).toInt = 1 := rfl
        intro m4 em_53
        try have e4 : m4.toInt = (z4_5).toInt - (1) := by rw [em_53]; exact pm_subc _ _ (1) rfl (by omega) (by omega)
        exact ⟨rfl, fun e9 => absurd e9 (by decide), rfl, m4, rfl, rfl, by first | omega | (dsimp only; omega) | trivial⟩
      · skip
        have k1 : (1 : Int32).toInt = 1 := rfl
        refine Exists.intro _ (And.intro md_o ?_)
        refine Exists.intro _ (Exists.intro _ (And.intro (Or.inl (md_a_colours D)) (And.intro (by omega) ?_)))
        have w5 : (0 : Int) ≤ (f 0 (z4_5).toInt.toNat).toInt ∧ (f 0 (z4_5).toInt.toNat).toInt ≤ (23 : Int) := hf 0 _
        refine Exists.intro _ (Exists.intro _ (Exists.intro _ (Exists.intro _ (And.intro (c_X11_bits (md A0 g h q v f) (z3_5 ||| ((1 : Int32) <<< ((f 0 (z4_5).toInt.toNat) &&& 31))) ) (And.intro rfl (fun r9 A9 h9 => ?_))))))
        obtain ⟨y6, rfl, rfl, by6⟩ := h9
        have hb9 : z4_5.toInt = x1.toInt → y6.toInt = 1 := fun e9 => by rw [by6 (by rw [j1_5 e9]; exact p2_one (by omega))]; rfl
        refine And.intro (fun c7 => ?_) (fun c7 => ?_)
        · skip
          refine hC.1 2 50 _ _ rfl _ _ _ _ _ ?_
          intro m8 em_53
          try have e8 : m8.toInt = (z4_5).toInt - (1) := by rw [em_53]; exact pm_subc _ _ (1) rfl (by omega) (by omega)
          exact ⟨rfl, fun e9 => absurd e9 (by decide), rfl, m8, rfl, rfl, by first | omega | (dsimp only; omega) | trivial⟩
        · skip
          refine Exists.intro _ (And.intro md_o ?_)
          refine Exists.intro _ (Exists.intro _ (And.intro (Or.inl (md_a_colours D)) (And.intro (by omega) ?_)))
          have w9 : (0 : Int) ≤ (f 0 (z4_5).toInt.toNat).toInt ∧ (f 0 (z4_5).toInt.toNat).toInt ≤ (23 : Int) := hf 0 _
          intro m10 em_44
          try have e10 : m10.toInt = (z4_5).toInt + (1) := by rw [em_44]; exact pm_addc _ _ (1) rfl (by omega) (by omega)
          exact ih2 (z3_5 ||| ((1 : Int32) <<< ((f 0 (z4_5).toInt.toNat) &&& 31))) m10 (by omega) (by intro e9; omega) (by omega)
  exact lp1 (200 - x1.toInt).toNat.succ (0 : Int32) x1 (by omega) (by exact fun _ => rfl) (by omega)

set_option maxRecDepth 100000 in
set_option maxHeartbeats 2000000 in
theorem c_X11_longest (D : md_D h q) (v : Nat → Int32) (f : Nat → Nat → Int32) (hv : md_V v) (hf : md_F f) (x1 : Int32) (x2 : Int32)  : pm_Mt l g 252 2 0 0 [.ref h, .int x1, .int x2] (md A0 g h q v f) (md_Qp (md A0 g h q v f) (fun r => True)) := by
  refine mt_X11_longest rfl (fun J hC => ?_)
  have hv9 := hv
  unfold md_V at hv9
  have rg_x1 := pm_rng x1
  have rg_x2 := pm_rng x2
  refine hC.1 0 0 _ _ rfl _ _ _ _ _ ?_
  have k1 : (1 : Int32).toInt = 1 := rfl
  refine And.intro (fun c1 => ?_) (fun c1 => ?_)
  · skip
    refine hC.1 1 21 _ _ rfl _ _ _ _ _ ?_
    have km1 : (-1 : Int32).toInt = -1 := rfl
    exact ⟨rfl, fun e9 => absurd e9 (by decide), rfl, (-1 : Int32), rfl, rfl, by exact True.intro⟩
  · skip
    refine Exists.intro _ (And.intro md_o ?_)
    refine And.intro (fun c2 => ?_) (fun c2 => ?_)
    · skip
      have dc2 : ((v 0)).toInt = (0 : Int32).toInt := congrArg Int32.toInt c2
      have k0 : (0 : Int32).toInt = 0 := rfl
      refine hC.1 1 21 _ _ rfl _ _ _ _ _ ?_
      have km1 : (-1 : Int32).toInt = -1 := rfl
      exact ⟨rfl, fun e9 => absurd e9 (by decide), rfl, (-1 : Int32), rfl, rfl, by exact True.intro⟩
    · skip
      have dc2 := pm_neI c2
      have k0 : (0 : Int32).toInt = 0 := rfl
      refine Exists.intro _ (Exists.intro _ (Exists.intro _ (Exists.intro _ (And.intro (c_X11_isIn (md A0 g h q v f) x2 (0 : Int32) (1 : Int32) ) (And.intro rfl (fun r9 A9 h9 => ?_))))))
      rcases h9 with ⟨y3, rfl, rfl, ⟨rfl, by3⟩ | ⟨rfl, by3⟩⟩
      · skip
        refine And.intro (fun _ => ?_) (fun c9 => absurd c9 (by decide))
        refine hC.1 2 23 _ _ rfl _ _ _ _ _ ?_
        have km1 : (-1 : Int32).toInt = -1 := rfl
        have lp4 : ∀ (n : Nat) (z3_31 : Int32) (z4_31 : Int32) (z5_31 : Int32), (0 ≤ z5_31.toInt ∧ z5_31.toInt ≤ (v 0).toInt) → 200 - z5_31.toInt < (n : Int) → J 31 [some (.ref h), some (.int x1), some (.int x2), some (.int z3_31), some (.int z4_31), some (.int z5_31), none] [] (md A0 g h q v f) 0 0 := by
          intro n
          induction n with
          | zero =>
            intro z3_31 z4_31 z5_31 j0_31 j1_31
            omega
          | succ n ih5 =>
            intro z3_31 z4_31 z5_31 j0_31 j1_31
            refine hC.1 3 31 _ _ rfl _ _ _ _ _ ?_
            refine Exists.intro _ (And.intro md_o ?_)
            refine And.intro (fun c6 => ?_) (fun c6 => ?_)
            · skip
              refine hC.1 6 77 _ _ rfl _ _ _ _ _ ?_
              refine And.intro (fun c7 => ?_) (fun c7 => ?_)
              · skip
                have dc7 := pm_neI c7
                refine hC.1 7 85 _ _ rfl _ _ _ _ _ ?_
                refine hC.1 8 87 _ _ rfl _ _ _ _ _ ?_
                exact ⟨rfl, fun e9 => absurd e9 (by decide), rfl, z4_31, rfl, rfl, by exact True.intro⟩
              · skip
                have dc7 : (x2).toInt = (0 : Int32).toInt := congrArg Int32.toInt c7
                refine hC.1 8 87 _ _ rfl _ _ _ _ _ ?_
                exact ⟨rfl, fun e9 => absurd e9 (by decide), rfl, z3_31, rfl, rfl, by exact True.intro⟩
            · skip
              refine And.intro (Exists.intro _ md_o) (Exists.intro _ (Exists.intro _ (Exists.intro _ (Exists.intro _ (And.intro (c_X11_farthest D v f hv hf z5_31 x1 (by omega)) (And.intro rfl (fun r9 A9 h9 => ?_)))))))
              obtain ⟨y8, rfl, rfl, by8⟩ := h9
              intro m9 em_53
              try have e9 : m9.toInt = (y8).toInt - (z5_31).toInt := by rw [em_53]; exact pm_sub _ _ (by omega) (by omega)
              intro m10 em_57
              try have e10 : m10.toInt = (z4_31).toInt - (z3_31).toInt := by rw [em_57]; exact pm_sub _ _ (by omega) (by omega)
              refine And.intro (fun c11 => ?_) (fun c11 => ?_)
              · skip
                refine hC.1 4 64 _ _ rfl _ _ _ _ _ ?_
                refine hC.1 5 71 _ _ rfl _ _ _ _ _ ?_
                intro m12 em_71
                try have e12 : m12.toInt = (z5_31).toInt + (1) := by rw [em_71]; exact pm_addc _ _ (1) rfl (by omega) (by omega)
                exact hC.2 [false, false, false, false, false, false, true] _ _ _ _ _ _ (ih5 z5_31 y8 m12 (by omega) (by omega))
              · skip
                refine hC.1 5 71 _ _ rfl _ _ _ _ _ ?_
                intro m13 em_71
                try have e13 : m13.toInt = (z5_31).toInt + (1) := by rw [em_71]; exact pm_addc _ _ (1) rfl (by omega) (by omega)
                exact hC.2 [false, false, false, false, false, false, true] _ _ _ _ _ _ (ih5 z3_31 z4_31 m13 (by omega) (by omega))
        exact lp4 (200 - (0 : Int32).toInt).toNat.succ (0 : Int32) (-1 : Int32) (0 : Int32) (by omega) (by omega)
      · skip
        refine And.intro (fun c9 => absurd c9 (by decide)) (fun _ => ?_)
        refine hC.1 1 21 _ _ rfl _ _ _ _ _ ?_
        have km1 : (-1 : Int32).toInt = -1 := rfl
        exact ⟨rfl, fun e9 => absurd e9 (by decide), rfl, (-1 : Int32), rfl, rfl, by exact True.intro⟩

set_option maxRecDepth 100000 in
set_option maxHeartbeats 2000000 in
theorem c_X11_unlike (D : md_D h q) (v : Nat → Int32) (f : Nat → Nat → Int32) (hv : md_V v) (hf : md_F f) (x1 : Int32)  : pm_Mt l g 254 1 0 0 [.ref h, .int x1] (md A0 g h q v f) (md_Qp (md A0 g h q v f) (fun r => True)) := by
  refine mt_X11_unlike rfl (fun J hC => ?_)
  have hv9 := hv
  unfold md_V at hv9
  have rg_x1 := pm_rng x1
  refine hC.1 0 0 _ _ rfl _ _ _ _ _ ?_
  refine Exists.intro _ (And.intro md_o ?_)
  refine And.intro (fun c1 => ?_) (fun c1 => ?_)
  · skip
    have dc1 : ((v 0)).toInt = (0 : Int32).toInt := congrArg Int32.toInt c1
    have k0 : (0 : Int32).toInt = 0 := rfl
    refine hC.1 1 16 _ _ rfl _ _ _ _ _ ?_
    have km1 : (-1 : Int32).toInt = -1 := rfl
    exact ⟨rfl, fun e9 => absurd e9 (by decide), rfl, (-1 : Int32), rfl, rfl, by exact True.intro⟩
  · skip
    have dc1 := pm_neI c1
    have k0 : (0 : Int32).toInt = 0 := rfl
    have k1 : (1 : Int32).toInt = 1 := rfl
    refine Exists.intro _ (Exists.intro _ (Exists.intro _ (Exists.intro _ (And.intro (c_X11_isIn (md A0 g h q v f) x1 (0 : Int32) (1 : Int32) ) (And.intro rfl (fun r9 A9 h9 => ?_))))))
    rcases h9 with ⟨y2, rfl, rfl, ⟨rfl, by2⟩ | ⟨rfl, by2⟩⟩
    · skip
      refine And.intro (fun _ => ?_) (fun c9 => absurd c9 (by decide))
      refine hC.1 2 18 _ _ rfl _ _ _ _ _ ?_
      have km1 : (-1 : Int32).toInt = -1 := rfl
      have lp3 : ∀ (n : Nat) (z2_25 : Int32) (z3_25 : Int32) (z4_25 : Int32), (0 ≤ z4_25.toInt ∧ z4_25.toInt ≤ (v 0).toInt) → 200 - z4_25.toInt < (n : Int) → J 25 [some (.ref h), some (.int x1), some (.int z2_25), some (.int z3_25), some (.int z4_25), none] [] (md A0 g h q v f) 0 0 := by
        intro n
        induction n with
        | zero =>
          intro z2_25 z3_25 z4_25 j0_25 j1_25
          omega
        | succ n ih4 =>
          intro z2_25 z3_25 z4_25 j0_25 j1_25
          refine hC.1 3 25 _ _ rfl _ _ _ _ _ ?_
          refine Exists.intro _ (And.intro md_o ?_)
          refine And.intro (fun c5 => ?_) (fun c5 => ?_)
          · skip
            refine hC.1 8 94 _ _ rfl _ _ _ _ _ ?_
            refine And.intro (fun c6 => ?_) (fun c6 => ?_)
            · skip
              have dc6 := pm_neI c6
              refine hC.1 9 102 _ _ rfl _ _ _ _ _ ?_
              refine hC.1 10 103 _ _ rfl _ _ _ _ _ ?_
              exact ⟨rfl, fun e9 => absurd e9 (by decide), rfl, z3_25, rfl, rfl, by exact True.intro⟩
            · skip
              have dc6 : (x1).toInt = (0 : Int32).toInt := congrArg Int32.toInt c6
              refine hC.1 10 103 _ _ rfl _ _ _ _ _ ?_
              exact ⟨rfl, fun e9 => absurd e9 (by decide), rfl, z2_25, rfl, rfl, by exact True.intro⟩
          · skip
            have lp7 : ∀ (n : Nat) (z5_38 : Int32), (z4_25.toInt ≤ z5_38.toInt ∧ z5_38.toInt < (v 0).toInt) → 200 - z5_38.toInt < (n : Int) → J 38 [some (.ref h), some (.int x1), some (.int z2_25), some (.int z3_25), some (.int z4_25), some (.int z5_38)] [] (md A0 g h q v f) 0 0 := by
              intro n
              induction n with
              | zero =>
                intro z5_38 j0_38 j1_38
                omega
              | succ n ih8 =>
                intro z5_38 j0_38 j1_38
                refine hC.1 4 38 _ _ rfl _ _ _ _ _ ?_
                intro m9 em_41
                try have e9 : m9.toInt = (z5_38).toInt + (1) := by rw [em_41]; exact pm_addc _ _ (1) rfl (by omega) (by omega)
                refine Exists.intro _ (And.intro md_o ?_)
                refine And.intro (fun c10 => ?_) (fun c10 => ?_)
                · skip
                  refine hC.1 5 68 _ _ rfl _ _ _ _ _ ?_
                  intro m11 em_72
                  try have e11 : m11.toInt = (z5_38).toInt - (z4_25).toInt := by rw [em_72]; exact pm_sub _ _ (by omega) (by omega)
                  intro m12 em_75
                  try have e12 : m12.toInt = (z3_25).toInt - (z2_25).toInt := by rw [em_75]; exact pm_sub _ _ (by omega) (by omega)
                  refine And.intro (fun c13 => ?_) (fun c13 => ?_)
                  · skip
                    refine hC.1 6 82 _ _ rfl _ _ _ _ _ ?_
                    refine hC.1 7 88 _ _ rfl _ _ _ _ _ ?_
                    intro m14 em_88
                    try have e14 : m14.toInt = (z4_25).toInt + (1) := by rw [em_88]; exact pm_addc _ _ (1) rfl (by omega) (by omega)
                    exact hC.2 [false, false, false, false, false, true] _ _ _ _ _ _ (ih4 z4_25 z5_38 m14 (by omega) (by omega))
                  · skip
                    refine hC.1 7 88 _ _ rfl _ _ _ _ _ ?_
                    intro m15 em_88
                    try have e15 : m15.toInt = (z4_25).toInt + (1) := by rw [em_88]; exact pm_addc _ _ (1) rfl (by omega) (by omega)
                    exact hC.2 [false, false, false, false, false, true] _ _ _ _ _ _ (ih4 z2_25 z3_25 m15 (by omega) (by omega))
                · skip
                  intro m16 em_53
                  try have e16 : m16.toInt = (z5_38).toInt + (1) := by rw [em_53]; exact pm_addc _ _ (1) rfl (by omega) (by omega)
                  refine And.intro (Exists.intro _ md_o) (Exists.intro _ (Exists.intro _ (Exists.intro _ (Exists.intro _ (And.intro (c_X11_ahead D v f hv hf m16 (by omega)) (And.intro rfl (fun r9 A9 h9 => ?_)))))))
                  obtain ⟨y17, rfl, rfl, by17⟩ := h9
                  refine And.intro (fun c18 => ?_) (fun c18 => ?_)
                  · skip
                    refine hC.1 5 68 _ _ rfl _ _ _ _ _ ?_
                    intro m19 em_72
                    try have e19 : m19.toInt = (z5_38).toInt - (z4_25).toInt := by rw [em_72]; exact pm_sub _ _ (by omega) (by omega)
                    intro m20 em_75
                    try have e20 : m20.toInt = (z3_25).toInt - (z2_25).toInt := by rw [em_75]; exact pm_sub _ _ (by omega) (by omega)
                    refine And.intro (fun c21 => ?_) (fun c21 => ?_)
                    · skip
                      refine hC.1 6 82 _ _ rfl _ _ _ _ _ ?_
                      refine hC.1 7 88 _ _ rfl _ _ _ _ _ ?_
                      intro m22 em_88
                      try have e22 : m22.toInt = (z4_25).toInt + (1) := by rw [em_88]; exact pm_addc _ _ (1) rfl (by omega) (by omega)
                      exact hC.2 [false, false, false, false, false, true] _ _ _ _ _ _ (ih4 z4_25 z5_38 m22 (by omega) (by omega))
                    · skip
                      refine hC.1 7 88 _ _ rfl _ _ _ _ _ ?_
                      intro m23 em_88
                      try have e23 : m23.toInt = (z4_25).toInt + (1) := by rw [em_88]; exact pm_addc _ _ (1) rfl (by omega) (by omega)
                      exact hC.2 [false, false, false, false, false, true] _ _ _ _ _ _ (ih4 z2_25 z3_25 m23 (by omega) (by omega))
                  · skip
                    intro m24 em_62
                    try have e24 : m24.toInt = (z5_38).toInt + (1) := by rw [em_62]; exact pm_addc _ _ (1) rfl (by omega) (by omega)
                    exact ih8 m24 (by omega) (by omega)
            exact lp7 (200 - z4_25.toInt).toNat.succ z4_25 (by omega) (by omega)
      exact lp3 (200 - (0 : Int32).toInt).toNat.succ (0 : Int32) (-1 : Int32) (0 : Int32) (by omega) (by omega)
    · skip
      refine And.intro (fun c9 => absurd c9 (by decide)) (fun _ => ?_)
      refine hC.1 1 16 _ _ rfl _ _ _ _ _ ?_
      have km1 : (-1 : Int32).toInt = -1 := rfl
      exact ⟨rfl, fun e9 => absurd e9 (by decide), rfl, (-1 : Int32), rfl, rfl, by exact True.intro⟩

set_option maxRecDepth 100000 in
set_option maxHeartbeats 2000000 in
theorem c_X11_heaviest (D : md_D h q) (v : Nat → Int32) (f : Nat → Nat → Int32) (hv : md_V v) (hf : md_F f) (x1 : Int32) (x2 : Int32)  : pm_Mt l g 255 1 0 0 [.ref h, .int x1, .int x2] (md A0 g h q v f) (md_Qp (md A0 g h q v f) (fun r => True)) := by
  refine mt_X11_heaviest rfl (fun J hC => ?_)
  have hv9 := hv
  unfold md_V at hv9
  have rg_x1 := pm_rng x1
  have rg_x2 := pm_rng x2
  refine hC.1 0 0 _ _ rfl _ _ _ _ _ ?_
  have k1 : (1 : Int32).toInt = 1 := rfl
  refine Exists.intro _ (And.intro md_o ?_)
  refine Exists.intro _ (Exists.intro _ (Exists.intro _ (Exists.intro _ (And.intro (c_X11_isIn (md A0 g h q v f) x1 (1 : Int32) (v 0) ) (And.intro rfl (fun r9 A9 h9 => ?_))))))
  rcases h9 with ⟨y1, rfl, rfl, ⟨rfl, by1⟩ | ⟨rfl, by1⟩⟩
  · skip
    refine And.intro (fun c9 => absurd c9 (by decide)) (fun _ => ?_)
    have k0 : (0 : Int32).toInt = 0 := rfl
    refine Exists.intro _ (Exists.intro _ (Exists.intro _ (Exists.intro _ (And.intro (c_X11_isIn (md A0 g h q v f) x2 (0 : Int32) (1 : Int32) ) (And.intro rfl (fun r9 A9 h9 => ?_))))))
    rcases h9 with ⟨y2, rfl, rfl, ⟨rfl, by2⟩ | ⟨rfl, by2⟩⟩
    · skip
      refine And.intro (fun _ => ?_) (fun c9 => absurd c9 (by decide))
      refine hC.1 2 23 _ _ rfl _ _ _ _ _ ?_
      have km1 : (-1 : Int32).toInt = -1 := rfl
      have lp3 : ∀ (n : Nat) (z3_31 : Int32) (z4_31 : Int32) (z5_31 : Int32), (0 ≤ z5_31.toInt ∧ z5_31.toInt ≤ 161) → 200 - z5_31.toInt < (n : Int) → J 31 [some (.ref h), some (.int x1), some (.int x2), some (.int z3_31), some (.int z4_31), some (.int z5_31), none] [] (md A0 g h q v f) 0 0 := by
        intro n
        induction n with
        | zero =>
          intro z3_31 z4_31 z5_31 j0_31 j1_31
          omega
        | succ n ih4 =>
          intro z3_31 z4_31 z5_31 j0_31 j1_31
          refine hC.1 3 31 _ _ rfl _ _ _ _ _ ?_
          intro m5 em_34
          try have e5 : m5.toInt = (z5_31).toInt + (x1).toInt := by rw [em_34]; exact pm_add _ _ (by omega) (by omega)
          refine Exists.intro _ (And.intro md_o ?_)
          refine And.intro (fun c6 => ?_) (fun c6 => ?_)
          · skip
            refine hC.1 6 83 _ _ rfl _ _ _ _ _ ?_
            refine And.intro (fun c7 => ?_) (fun c7 => ?_)
            · skip
              have dc7 := pm_neI c7
              refine hC.1 7 91 _ _ rfl _ _ _ _ _ ?_
              refine hC.1 8 93 _ _ rfl _ _ _ _ _ ?_
              exact ⟨rfl, fun e9 => absurd e9 (by decide), rfl, z4_31, rfl, rfl, by exact True.intro⟩
            · skip
              have dc7 : (x2).toInt = (0 : Int32).toInt := congrArg Int32.toInt c7
              refine hC.1 8 93 _ _ rfl _ _ _ _ _ ?_
              exact ⟨rfl, fun e9 => absurd e9 (by decide), rfl, z3_31, rfl, rfl, by exact True.intro⟩
          · skip
            intro m8 em_49
            try have e8 : m8.toInt = (z5_31).toInt + (x1).toInt := by rw [em_49]; exact pm_add _ _ (by omega) (by omega)
            intro m9 em_51
            try have e9 : m9.toInt = (m8).toInt - (1) := by rw [em_51]; exact pm_subc _ _ (1) rfl (by omega) (by omega)
            refine And.intro (Exists.intro _ md_o) (Exists.intro _ (Exists.intro _ (Exists.intro _ (Exists.intro _ (And.intro (c_X11_setOf D v f hv hf z5_31 m9 (by omega) (by omega)) (And.intro rfl (fun r9 A9 h9 => ?_)))))))
            obtain ⟨y10, rfl, rfl, by10⟩ := h9
            refine And.intro (Exists.intro _ md_o) (Exists.intro _ (Exists.intro _ (Exists.intro _ (Exists.intro _ (And.intro (c_X11_weightOf D v f hv hf y10 ) (And.intro rfl (fun r9 A9 h9 => ?_)))))))
            obtain ⟨y11, rfl, rfl, by11⟩ := h9
            refine And.intro (fun c12 => ?_) (fun c12 => ?_)
            · skip
              refine hC.1 4 70 _ _ rfl _ _ _ _ _ ?_
              refine hC.1 5 77 _ _ rfl _ _ _ _ _ ?_
              intro m13 em_77
              try have e13 : m13.toInt = (z5_31).toInt + (1) := by rw [em_77]; exact pm_addc _ _ (1) rfl (by omega) (by omega)
              exact hC.2 [false, false, false, false, false, false, true] _ _ _ _ _ _ (ih4 z5_31 y11 m13 (by omega) (by omega))
            · skip
              refine hC.1 5 77 _ _ rfl _ _ _ _ _ ?_
              intro m14 em_77
              try have e14 : m14.toInt = (z5_31).toInt + (1) := by rw [em_77]; exact pm_addc _ _ (1) rfl (by omega) (by omega)
              exact hC.2 [false, false, false, false, false, false, true] _ _ _ _ _ _ (ih4 z3_31 z4_31 m14 (by omega) (by omega))
      exact lp3 (200 - (0 : Int32).toInt).toNat.succ (-1 : Int32) (-1 : Int32) (0 : Int32) (by omega) (by omega)
    · skip
      refine And.intro (fun c9 => absurd c9 (by decide)) (fun _ => ?_)
      refine hC.1 1 21 _ _ rfl _ _ _ _ _ ?_
      have km1 : (-1 : Int32).toInt = -1 := rfl
      exact ⟨rfl, fun e9 => absurd e9 (by decide), rfl, (-1 : Int32), rfl, rfl, by exact True.intro⟩
  · skip
    have k0 : (0 : Int32).toInt = 0 := rfl
    refine And.intro (fun _ => ?_) (fun c9 => absurd c9 (by decide))
    refine hC.1 1 21 _ _ rfl _ _ _ _ _ ?_
    have km1 : (-1 : Int32).toInt = -1 := rfl
    exact ⟨rfl, fun e9 => absurd e9 (by decide), rfl, (-1 : Int32), rfl, rfl, by exact True.intro⟩

set_option maxRecDepth 100000 in
set_option maxHeartbeats 2000000 in
theorem c_X11_distance (D : md_D h q) (v : Nat → Int32) (f : Nat → Nat → Int32) (hv : md_V v) (hf : md_F f) (x1 : Int32)  : pm_Mt l g 256 2 0 0 [.ref h, .int x1] (md A0 g h q v f) (md_Qp (md A0 g h q v f) (fun r => True)) := by
  refine mt_X11_distance rfl (fun J hC => ?_)
  have hv9 := hv
  unfold md_V at hv9
  have rg_x1 := pm_rng x1
  have lt9 := lastEq_lt (f 0) (f 0 x1.toInt.toNat) x1.toInt.toNat
  refine hC.1 0 0 _ _ rfl _ _ _ _ _ ?_
  refine And.intro (Exists.intro _ md_o) (Exists.intro _ (Exists.intro _ (Exists.intro _ (Exists.intro _ (And.intro (c_X11_isPlace D v f hv hf x1 ) (And.intro rfl (fun r9 A9 h9 => ?_)))))))
  rcases h9 with ⟨y1, rfl, rfl, ⟨rfl, by1⟩ | ⟨rfl, by1⟩⟩
  · skip
    have k1 : (1 : Int32).toInt = 1 := rfl
    refine And.intro (fun c9 => absurd c9 (by decide)) (fun _ => ?_)
    refine And.intro (Exists.intro _ md_o) (Exists.intro _ (Exists.intro _ (Exists.intro _ (Exists.intro _ (And.intro (c_X11_ahead D v f hv hf x1 (by omega)) (And.intro rfl (fun r9 A9 h9 => ?_)))))))
    obtain ⟨y2, rfl, rfl, by2⟩ := h9
    refine And.intro (fun c3 => ?_) (fun c3 => ?_)
    · skip
      refine hC.1 1 36 _ _ rfl _ _ _ _ _ ?_
      have km1 : (-1 : Int32).toInt = -1 := rfl
      refine hC.1 2 37 _ _ rfl _ _ _ _ _ ?_
      exact ⟨rfl, fun e9 => absurd e9 (by decide), rfl, (-1 : Int32), rfl, rfl, by exact True.intro⟩
    · skip
      refine And.intro (Exists.intro _ md_o) (Exists.intro _ (Exists.intro _ (Exists.intro _ (Exists.intro _ (And.intro (c_X11_ahead D v f hv hf x1 (by omega)) (And.intro rfl (fun r9 A9 h9 => ?_)))))))
      obtain ⟨y4, rfl, rfl, by4⟩ := h9
      intro m5 em_23
      try have e5 : m5.toInt = (y4).toInt + (1) := by rw [em_23]; exact pm_addc _ _ (1) rfl (by omega) (by omega)
      intro m6 em_26
      try have e6 : m6.toInt = (x1).toInt - (1) := by rw [em_26]; exact pm_subc _ _ (1) rfl (by omega) (by omega)
      refine And.intro (Exists.intro _ md_o) (Exists.intro _ (Exists.intro _ (Exists.intro _ (Exists.intro _ (And.intro (c_X11_setOf D v f hv hf m5 m6 (by omega) (by omega)) (And.intro rfl (fun r9 A9 h9 => ?_)))))))
      obtain ⟨y7, rfl, rfl, by7⟩ := h9
      refine Exists.intro _ (Exists.intro _ (Exists.intro _ (Exists.intro _ (And.intro (c_X11_bits (md A0 g h q v f) y7 ) (And.intro rfl (fun r9 A9 h9 => ?_))))))
      obtain ⟨y8, rfl, rfl, by8⟩ := h9
      refine hC.1 2 37 _ _ rfl _ _ _ _ _ ?_
      exact ⟨rfl, fun e9 => absurd e9 (by decide), rfl, y8, rfl, rfl, by exact True.intro⟩
  · skip
    have k0 : (0 : Int32).toInt = 0 := rfl
    refine And.intro (fun _ => ?_) (fun c9 => absurd c9 (by decide))
    refine hC.1 1 36 _ _ rfl _ _ _ _ _ ?_
    have km1 : (-1 : Int32).toInt = -1 := rfl
    refine hC.1 2 37 _ _ rfl _ _ _ _ _ ?_
    exact ⟨rfl, fun e9 => absurd e9 (by decide), rfl, (-1 : Int32), rfl, rfl, by exact True.intro⟩

set_option maxRecDepth 100000 in
set_option maxHeartbeats 2000000 in
theorem c_X11_isShelf (A : pm_H) (x0 : Int32) (x1 : Int32)  : pm_Mt l g 258 1 0 0 [.int x0, .int x1] A (md_Qp A (fun r => (r = 1 ∧ ((1 ≤ x0.toInt ∧ x0.toInt ≤ 24) ∧ 0 ≤ x1.toInt ∧ x1.toInt ≤ 1)) ∨ (r = 0 ∧ (¬ ((1 ≤ x0.toInt ∧ x0.toInt ≤ 24) ∧ 0 ≤ x1.toInt ∧ x1.toInt ≤ 1))))) := by
  refine mt_X11_isShelf rfl (fun J hC => ?_)
  have rg_x0 := pm_rng x0
  have rg_x1 := pm_rng x1
  refine hC.1 0 0 _ _ rfl _ _ _ _ _ ?_
  have k1 : (1 : Int32).toInt = 1 := rfl
  have k24 : (24 : Int32).toInt = 24 := rfl
  refine Exists.intro _ (Exists.intro _ (Exists.intro _ (Exists.intro _ (And.intro (c_X11_isIn A x0 (1 : Int32) (24 : Int32) ) (And.intro rfl (fun r9 A1 h9 => ?_))))))
  rcases h9 with ⟨y2, rfl, rfl, ⟨rfl, by2⟩ | ⟨rfl, by2⟩⟩
  · skip
    refine And.intro (fun c9 => absurd c9 (by decide)) (fun _ => ?_)
    have k0 : (0 : Int32).toInt = 0 := rfl
    refine Exists.intro _ (Exists.intro _ (Exists.intro _ (Exists.intro _ (And.intro (c_X11_isIn A1 x1 (0 : Int32) (1 : Int32) ) (And.intro rfl (fun r9 A3 h9 => ?_))))))
    rcases h9 with ⟨y4, rfl, rfl, ⟨rfl, by4⟩ | ⟨rfl, by4⟩⟩
    · skip
      refine And.intro (fun c9 => absurd c9 (by decide)) (fun _ => ?_)
      refine hC.1 2 24 _ _ rfl _ _ _ _ _ ?_
      exact ⟨rfl, fun _ => (by decide), rfl, (1 : Int32), rfl, rfl, Or.inl ⟨rfl, by first | omega | (dsimp only; omega) | trivial⟩⟩
    · skip
      refine And.intro (fun _ => ?_) (fun c9 => absurd c9 (by decide))
      refine hC.1 1 23 _ _ rfl _ _ _ _ _ ?_
      refine hC.1 2 24 _ _ rfl _ _ _ _ _ ?_
      exact ⟨rfl, fun _ => (by decide), rfl, (0 : Int32), rfl, rfl, Or.inr ⟨rfl, by first | omega | (dsimp only; omega) | trivial⟩⟩
  · skip
    have k0 : (0 : Int32).toInt = 0 := rfl
    refine And.intro (fun _ => ?_) (fun c9 => absurd c9 (by decide))
    refine hC.1 1 23 _ _ rfl _ _ _ _ _ ?_
    refine hC.1 2 24 _ _ rfl _ _ _ _ _ ?_
    exact ⟨rfl, fun _ => (by decide), rfl, (0 : Int32), rfl, rfl, Or.inr ⟨rfl, by first | omega | (dsimp only; omega) | trivial⟩⟩

end
end
section
section
variable {l : Launch} {g : pm_G} {A0 : pm_H} {h : Nat} {q : Nat → Nat}
set_option maxRecDepth 100000 in
set_option maxHeartbeats 2000000 in
theorem c_X11_lastAhead (D : md_D h q) (v : Nat → Int32) (f : Nat → Nat → Int32) (hv : md_V v) (hf : md_F f) (x1 : Int32) (x2 : Int32) (p0 : ∃ k9 : Nat, (k9 : Int) < x2.toInt ∧ f 0 k9 = x1) (p1 : x2.toInt ≤ 160) : pm_Mt l g 261 0 0 0 [.ref h, .int x1, .int x2] (md A0 g h q v f) (md_Qp (md A0 g h q v f) (fun r => True)) := by
  refine mt_X11_lastAhead rfl (fun J hC => ?_)
  have hv9 := hv
  unfold md_V at hv9
  have rg_x1 := pm_rng x1
  have rg_x2 := pm_rng x2
  obtain ⟨k8, hk8, he8⟩ := p0
  refine hC.1 0 0 _ _ rfl _ _ _ _ _ ?_
  have k1 : (1 : Int32).toInt = 1 := rfl
  intro m1 em_2
  try have e1 : m1.toInt = (x2).toInt - (1) := by rw [em_2]; exact pm_subc _ _ (1) rfl (by omega) (by omega)
  have lp2 : ∀ (n : Nat) (z3_4 : Int32), (z3_4.toInt < x2.toInt) → (∃ k9 : Nat, (k9 : Int) ≤ z3_4.toInt ∧ f 0 k9 = x1) → z3_4.toInt + 1 < (n : Int) → J 4 [some (.ref h), some (.int x1), some (.int x2), some (.int z3_4)] [] (md A0 g h q v f) 0 0 := by
    intro n
    induction n with
    | zero =>
      intro z3_4 j0_4 j1_4 j2_4
      obtain ⟨k7, hk7, he7⟩ := j1_4; omega
    | succ n ih3 =>
      intro z3_4 j0_4 j1_4 j2_4
      obtain ⟨k7, hk7, he7⟩ := j1_4
      refine hC.1 1 4 _ _ rfl _ _ _ _ _ ?_
      refine Exists.intro _ (And.intro md_o ?_)
      refine Exists.intro _ (Exists.intro _ (And.intro (Or.inl (md_a_colours D)) (And.intro (by omega) ?_)))
      have w4 : (0 : Int) ≤ (f 0 (z3_4).toInt.toNat).toInt ∧ (f 0 (z3_4).toInt.toNat).toInt ≤ (23 : Int) := hf 0 _
      refine And.intro (fun c5 => ?_) (fun c5 => ?_)
      · skip
        have dc5 : ((f 0 (z3_4).toInt.toNat)).toInt = (x1 : Int32).toInt := congrArg Int32.toInt c5
        refine hC.1 2 20 _ _ rfl _ _ _ _ _ ?_
        exact ⟨rfl, fun e9 => absurd e9 (by decide), rfl, z3_4, rfl, rfl, by exact True.intro⟩
      · skip
        have dc5 := pm_neI c5
        have km1 : (-1 : Int32).toInt = -1 := rfl
        intro m6 em_14
        try have e6 : m6.toInt = (z3_4).toInt + (-1) := by rw [em_14]; exact pm_addc _ _ (-1) rfl (by omega) (by omega)
        exact ih3 m6 (by omega) (by have h9 : k7 ≠ z3_4.toInt.toNat := fun e9 => absurd he7 (by rw [e9]; assumption); exact ⟨k7, by omega, he7⟩) (by omega)
  exact lp2 (m1.toInt + 1).toNat.succ m1 (by omega) (by exact ⟨k8, by omega, he8⟩) (by omega)

set_option maxRecDepth 100000 in
set_option maxHeartbeats 2000000 in
theorem c_X11_goner (D : md_D h q) (v : Nat → Int32) (f : Nat → Nat → Int32) (hv : md_V v) (hf : md_F f) (x1 : Int32) (x2 : Int32) (p0 : 0 ≤ x1.toInt ∧ x1.toInt ≤ 160) (p1 : goB (v 7) (f 0) x1.toInt) : pm_Mt l g 260 1 0 0 [.ref h, .int x1, .int x2] (md A0 g h q v f) (md_Qp (md A0 g h q v f) (fun r => True)) := by
  refine mt_X11_goner rfl (fun J hC => ?_)
  have hv9 := hv
  unfold md_V at hv9
  have rg_x1 := pm_rng x1
  have rg_x2 := pm_rng x2
  refine hC.1 0 0 _ _ rfl _ _ _ _ _ ?_
  have km1 : (-1 : Int32).toInt = -1 := rfl
  have k0 : (0 : Int32).toInt = 0 := rfl
  have lp1 : ∀ (n : Nat) (z3_8 : Int32) (z4_8 : Int32) (z5_8 : Int32), (0 ≤ z5_8.toInt ∧ z5_8.toInt ≤ 24) → 200 - z5_8.toInt < (n : Int) → J 8 [some (.ref h), some (.int x1), some (.int x2), some (.int z3_8), some (.int z4_8), some (.int z5_8), none] [] (md A0 g h q v f) 0 0 := by
    intro n
    induction n with
    | zero =>
      intro z3_8 z4_8 z5_8 j0_8 j1_8
      omega
    | succ n ih2 =>
      intro z3_8 z4_8 z5_8 j0_8 j1_8
      refine hC.1 1 8 _ _ rfl _ _ _ _ _ ?_
      have k24 : (24 : Int32).toInt = 24 := rfl
      refine And.intro (fun c3 => ?_) (fun c3 => ?_)
      · skip
        refine hC.1 7 78 _ _ rfl _ _ _ _ _ ?_
        exact ⟨rfl, fun e9 => absurd e9 (by decide), rfl, z3_8, rfl, rfl, by exact True.intro⟩
      · skip
        refine Exists.intro _ (And.intro md_o ?_)
        have k1 : (1 : Int32).toInt = 1 := rfl
        refine And.intro (fun c4 => ?_) (fun c4 => ?_)
        · skip
          have dc4 := pm_neI c4
          refine hC.1 2 30 _ _ rfl _ _ _ _ _ ?_
          refine And.intro (fun c5 => ?_) (fun c5 => ?_)
          · skip
            have dc5 := pm_neI c5
            refine hC.1 3 46 _ _ rfl _ _ _ _ _ ?_
            refine And.intro (Exists.intro _ md_o) (Exists.intro _ (Exists.intro _ (Exists.intro _ (Exists.intro _ (And.intro (c_X11_nextBehind D v f hv hf z5_8 x1 (by omega)) (And.intro rfl (fun r9 A9 h9 => ?_)))))))
            obtain ⟨y6, rfl, rfl, by6⟩ := h9
            refine hC.1 4 53 _ _ rfl _ _ _ _ _ ?_
            refine And.intro (fun c7 => ?_) (fun c7 => ?_)
            · skip
              refine hC.1 5 65 _ _ rfl _ _ _ _ _ ?_
              refine hC.1 6 72 _ _ rfl _ _ _ _ _ ?_
              intro m8 em_72
              try have e8 : m8.toInt = (z5_8).toInt + (1) := by rw [em_72]; exact pm_addc _ _ (1) rfl (by omega) (by omega)
              exact hC.2 [false, false, false, false, false, false, true] _ _ _ _ _ _ (ih2 z5_8 y6 m8 (by omega) (by omega))
            · skip
              refine hC.1 6 72 _ _ rfl _ _ _ _ _ ?_
              intro m9 em_72
              try have e9 : m9.toInt = (z5_8).toInt + (1) := by rw [em_72]; exact pm_addc _ _ (1) rfl (by omega) (by omega)
              exact hC.2 [false, false, false, false, false, false, true] _ _ _ _ _ _ (ih2 z3_8 z4_8 m9 (by omega) (by omega))
          · skip
            have dc5 : (x2).toInt = (0 : Int32).toInt := congrArg Int32.toInt c5
            refine And.intro (Exists.intro _ md_o) (Exists.intro _ (Exists.intro _ (Exists.intro _ (Exists.intro _ (And.intro (c_X11_lastAhead D v f hv hf z5_8 x1 (by exact p1 _ (by omega) (by assumption)) (by omega)) (And.intro rfl (fun r9 A9 h9 => ?_)))))))
            obtain ⟨y10, rfl, rfl, by10⟩ := h9
            intro m11 em_42
            try have e11 : m11.toInt = (x1).toInt - (y10).toInt := by rw [em_42]; exact pm_sub _ _ (by omega) (by omega)
            refine hC.1 4 53 _ _ rfl _ _ _ _ _ ?_
            refine And.intro (fun c12 => ?_) (fun c12 => ?_)
            · skip
              refine hC.1 5 65 _ _ rfl _ _ _ _ _ ?_
              refine hC.1 6 72 _ _ rfl _ _ _ _ _ ?_
              intro m13 em_72
              try have e13 : m13.toInt = (z5_8).toInt + (1) := by rw [em_72]; exact pm_addc _ _ (1) rfl (by omega) (by omega)
              exact hC.2 [false, false, false, false, false, false, true] _ _ _ _ _ _ (ih2 z5_8 m11 m13 (by omega) (by omega))
            · skip
              refine hC.1 6 72 _ _ rfl _ _ _ _ _ ?_
              intro m14 em_72
              try have e14 : m14.toInt = (z5_8).toInt + (1) := by rw [em_72]; exact pm_addc _ _ (1) rfl (by omega) (by omega)
              exact hC.2 [false, false, false, false, false, false, true] _ _ _ _ _ _ (ih2 z3_8 z4_8 m14 (by omega) (by omega))
        · skip
          have dc4 : ((((v 7) >>> (z5_8 &&& 31)) &&& (1 : Int32))).toInt = (0 : Int32).toInt := congrArg Int32.toInt c4
          refine hC.1 6 72 _ _ rfl _ _ _ _ _ ?_
          intro m15 em_72
          try have e15 : m15.toInt = (z5_8).toInt + (1) := by rw [em_72]; exact pm_addc _ _ (1) rfl (by omega) (by omega)
          exact ih2 z3_8 z4_8 m15 (by omega) (by omega)
  exact lp1 (200 - (0 : Int32).toInt).toNat.succ (-1 : Int32) (-1 : Int32) (0 : Int32) (by omega) (by omega)

set_option maxRecDepth 100000 in
set_option maxHeartbeats 2000000 in
theorem c_X11_just (D : md_D h q) (v : Nat → Int32) (f : Nat → Nat → Int32) (hv : md_V v) (hf : md_F f) (x1 : Int32)  : pm_Mt l g 264 1 0 0 [.ref h, .int x1] (md A0 g h q v f) (md_Qp (md A0 g h q v f) (fun r => True)) := by
  refine mt_X11_just rfl (fun J hC => ?_)
  have hv9 := hv
  unfold md_V at hv9
  have rg_x1 := pm_rng x1
  refine hC.1 0 0 _ _ rfl _ _ _ _ _ ?_
  have k0 : (0 : Int32).toInt = 0 := rfl
  have lp1 : ∀ (n : Nat) (z2_4 : Int32) (z3_4 : Int32), (0 ≤ z3_4.toInt ∧ z3_4.toInt ≤ (v 0).toInt) → 200 - z3_4.toInt < (n : Int) → J 4 [some (.ref h), some (.int x1), some (.int z2_4), some (.int z3_4), none, none] [] (md A0 g h q v f) 0 0 := by
    intro n
    induction n with
    | zero =>
      intro z2_4 z3_4 j0_4 j1_4
      omega
    | succ n ih2 =>
      intro z2_4 z3_4 j0_4 j1_4
      refine hC.1 1 4 _ _ rfl _ _ _ _ _ ?_
      refine Exists.intro _ (And.intro md_o ?_)
      refine And.intro (fun c3 => ?_) (fun c3 => ?_)
      · skip
        refine hC.1 6 70 _ _ rfl _ _ _ _ _ ?_
        exact ⟨rfl, fun e9 => absurd e9 (by decide), rfl, z2_4, rfl, rfl, by exact True.intro⟩
      · skip
        have lp4 : ∀ (n : Nat) (z2_18 : Int32) (z4_18 : Int32) (z5_18 : Int32), (0 ≤ z5_18.toInt ∧ z5_18.toInt ≤ (v 0).toInt) → 200 - z5_18.toInt < (n : Int) → J 18 [some (.ref h), some (.int x1), some (.int z2_18), some (.int z3_4), some (.int z4_18), some (.int z5_18)] [] (md A0 g h q v f) 0 0 := by
          intro n
          induction n with
          | zero =>
            intro z2_18 z4_18 z5_18 j0_18 j1_18
            omega
          | succ n ih5 =>
            intro z2_18 z4_18 z5_18 j0_18 j1_18
            refine hC.1 2 18 _ _ rfl _ _ _ _ _ ?_
            refine Exists.intro _ (And.intro md_o ?_)
            refine And.intro (fun c6 => ?_) (fun c6 => ?_)
            · skip
              refine hC.1 5 64 _ _ rfl _ _ _ _ _ ?_
              have k1 : (1 : Int32).toInt = 1 := rfl
              intro m7 em_64
              try have e7 : m7.toInt = (z3_4).toInt + (1) := by rw [em_64]; exact pm_addc _ _ (1) rfl (by omega) (by omega)
              exact hC.2 [false, false, false, false, true, true] _ _ _ _ _ _ (ih2 z2_18 m7 (by omega) (by omega))
            · skip
              have k1 : (1 : Int32).toInt = 1 := rfl
              refine Exists.intro _ (And.intro md_o ?_)
              refine Exists.intro _ (Exists.intro _ (And.intro (Or.inl (md_a_colours D)) (And.intro (by omega) ?_)))
              have w8 : (0 : Int) ≤ (f 0 (z5_18).toInt.toNat).toInt ∧ (f 0 (z5_18).toInt.toNat).toInt ≤ (23 : Int) := hf 0 _
              refine Exists.intro _ (Exists.intro _ (Exists.intro _ (Exists.intro _ (And.intro (c_X11_bits (md A0 g h q v f) (z4_18 ||| ((1 : Int32) <<< ((f 0 (z5_18).toInt.toNat) &&& 31))) ) (And.intro rfl (fun r9 A9 h9 => ?_))))))
              obtain ⟨y9, rfl, rfl, by9⟩ := h9
              refine And.intro (fun c10 => ?_) (fun c10 => ?_)
              · skip
                have dc10 := pm_neI c10
                refine hC.1 3 55 _ _ rfl _ _ _ _ _ ?_
                refine hC.1 4 56 _ _ rfl _ _ _ _ _ ?_
                intro m11 em_56
                try have e11 : m11.toInt = (z2_18).toInt + (0) := by rw [em_56]; exact pm_addc _ _ (0) rfl (by omega) (by omega)
                intro m12 em_58
                try have e12 : m12.toInt = (z5_18).toInt + (1) := by rw [em_58]; exact pm_addc _ _ (1) rfl (by omega) (by omega)
                exact ih5 m11 (z4_18 ||| ((1 : Int32) <<< ((f 0 (z5_18).toInt.toNat) &&& 31))) m12 (by omega) (by omega)
              · skip
                have dc10 : (y9).toInt = (x1 : Int32).toInt := congrArg Int32.toInt c10
                refine hC.1 4 56 _ _ rfl _ _ _ _ _ ?_
                intro m13 em_56
                try have e13 : m13.toInt = (z2_18).toInt + (1) := by rw [em_56]; exact pm_addc _ _ (1) rfl (by omega) (by omega)
                intro m14 em_58
                try have e14 : m14.toInt = (z5_18).toInt + (1) := by rw [em_58]; exact pm_addc _ _ (1) rfl (by omega) (by omega)
                exact ih5 m13 (z4_18 ||| ((1 : Int32) <<< ((f 0 (z5_18).toInt.toNat) &&& 31))) m14 (by omega) (by omega)
        exact lp4 (200 - z3_4.toInt).toNat.succ z2_4 (0 : Int32) z3_4 (by omega) (by omega)
  exact lp1 (200 - (0 : Int32).toInt).toNat.succ (0 : Int32) (0 : Int32) (by omega) (by omega)

set_option maxRecDepth 100000 in
set_option maxHeartbeats 2000000 in
theorem c_X11_all (D : md_D h q) (v : Nat → Int32) (f : Nat → Nat → Int32) (hv : md_V v) (hf : md_F f)  : pm_Mt l g 265 1 0 0 [.ref h] (md A0 g h q v f) (md_Qj (md A0 g h q v f) (fun r => True)) := by
  refine mt_X11_all rfl (fun J hC => ?_)
  have hv9 := hv
  unfold md_V at hv9
  refine hC.1 0 0 _ _ rfl _ _ _ _ _ ?_
  have k0 : (0 : Int32).toInt = 0 := rfl
  have lp1 : ∀ (n : Nat) (z1_4 : Int64) (z3_4 : Int32), (0 ≤ z3_4.toInt ∧ z3_4.toInt ≤ (v 0).toInt) → 200 - z3_4.toInt < (n : Int) → J 4 [some (.ref h), some (.long z1_4), none, some (.int z3_4), none, none] [] (md A0 g h q v f) 0 0 := by
    intro n
    induction n with
    | zero =>
      intro z1_4 z3_4 j0_4 j1_4
      omega
    | succ n ih2 =>
      intro z1_4 z3_4 j0_4 j1_4
      refine hC.1 1 4 _ _ rfl _ _ _ _ _ ?_
      refine Exists.intro _ (And.intro md_o ?_)
      refine And.intro (fun c3 => ?_) (fun c3 => ?_)
      · skip
        refine hC.1 4 62 _ _ rfl _ _ _ _ _ ?_
        exact ⟨rfl, rfl, z1_4, rfl, rfl, by exact True.intro⟩
      · skip
        have lp4 : ∀ (n : Nat) (z1_18 : Int64) (z4_18 : Int32) (z5_18 : Int32), (0 ≤ z5_18.toInt ∧ z5_18.toInt ≤ (v 0).toInt) → 200 - z5_18.toInt < (n : Int) → J 18 [some (.ref h), some (.long z1_18), none, some (.int z3_4), some (.int z4_18), some (.int z5_18)] [] (md A0 g h q v f) 0 0 := by
          intro n
          induction n with
          | zero =>
            intro z1_18 z4_18 z5_18 j0_18 j1_18
            omega
          | succ n ih5 =>
            intro z1_18 z4_18 z5_18 j0_18 j1_18
            refine hC.1 2 18 _ _ rfl _ _ _ _ _ ?_
            refine Exists.intro _ (And.intro md_o ?_)
            refine And.intro (fun c6 => ?_) (fun c6 => ?_)
            · skip
              refine hC.1 3 56 _ _ rfl _ _ _ _ _ ?_
              have k1 : (1 : Int32).toInt = 1 := rfl
              intro m7 em_56
              try have e7 : m7.toInt = (z3_4).toInt + (1) := by rw [em_56]; exact pm_addc _ _ (1) rfl (by omega) (by omega)
              exact hC.2 [false, false, false, false, true, true] _ _ _ _ _ _ (ih2 z1_18 m7 (by omega) (by omega))
            · skip
              have k1 : (1 : Int32).toInt = 1 := rfl
              refine Exists.intro _ (And.intro md_o ?_)
              refine Exists.intro _ (Exists.intro _ (And.intro (Or.inl (md_a_colours D)) (And.intro (by omega) ?_)))
              have w8 : (0 : Int) ≤ (f 0 (z5_18).toInt.toNat).toInt ∧ (f 0 (z5_18).toInt.toNat).toInt ≤ (23 : Int) := hf 0 _
              refine Exists.intro _ (Exists.intro _ (Exists.intro _ (Exists.intro _ (And.intro (c_X11_bits (md A0 g h q v f) (z4_18 ||| ((1 : Int32) <<< ((f 0 (z5_18).toInt.toNat) &&& 31))) ) (And.intro rfl (fun r9 A9 h9 => ?_))))))
              obtain ⟨y9, rfl, rfl, by9⟩ := h9
              intro m10 em_50
              try have e10 : m10.toInt = (z5_18).toInt + (1) := by rw [em_50]; exact pm_addc _ _ (1) rfl (by omega) (by omega)
              exact ih5 (z1_18 + (y9).toInt64) (z4_18 ||| ((1 : Int32) <<< ((f 0 (z5_18).toInt.toNat) &&& 31))) m10 (by omega) (by omega)
        exact lp4 (200 - z3_4.toInt).toNat.succ z1_4 (0 : Int32) z3_4 (by omega) (by omega)
  exact lp1 (200 - (0 : Int32).toInt).toNat.succ (Int64.ofNat 0) (0 : Int32) (by omega) (by omega)

set_option maxRecDepth 100000 in
set_option maxHeartbeats 2000000 in
theorem c_X11_sets (D : md_D h q) (v : Nat → Int32) (f : Nat → Nat → Int32) (hv : md_V v) (hf : md_F f) (x1 : Int32)  : pm_Mt l g 266 1 0 0 [.ref h, .int x1] (md A0 g h q v f) (md_Qp (md A0 g h q v f) (fun r => True)) := by
  refine mt_X11_sets rfl (fun J hC => ?_)
  have hv9 := hv
  unfold md_V at hv9
  have rg_x1 := pm_rng x1
  refine hC.1 0 0 _ _ rfl _ _ _ _ _ ?_
  have k1 : (1 : Int32).toInt = 1 := rfl
  refine Exists.intro _ (And.intro md_o ?_)
  refine Exists.intro _ (Exists.intro _ (Exists.intro _ (Exists.intro _ (And.intro (c_X11_isIn (md A0 g h q v f) x1 (1 : Int32) (v 0) ) (And.intro rfl (fun r9 A9 h9 => ?_))))))
  rcases h9 with ⟨y1, rfl, rfl, ⟨rfl, by1⟩ | ⟨rfl, by1⟩⟩
  · skip
    refine And.intro (fun _ => ?_) (fun c9 => absurd c9 (by decide))
    refine hC.1 1 14 _ _ rfl _ _ _ _ _ ?_
    have k0 : (0 : Int32).toInt = 0 := rfl
    have lp2 : ∀ (n : Nat) (z2_18 : Int32) (z3_18 : Int32), (0 ≤ z3_18.toInt ∧ z3_18.toInt ≤ 161) → 200 - z3_18.toInt < (n : Int) → J 18 [some (.ref h), some (.int x1), some (.int z2_18), some (.int z3_18), none, none] [] (md A0 g h q v f) 0 0 := by
      intro n
      induction n with
      | zero =>
        intro z2_18 z3_18 j0_18 j1_18
        omega
      | succ n ih3 =>
        intro z2_18 z3_18 j0_18 j1_18
        refine hC.1 2 18 _ _ rfl _ _ _ _ _ ?_
        intro m4 em_20
        try have e4 : m4.toInt = (z3_18).toInt + (x1).toInt := by rw [em_20]; exact pm_add _ _ (by omega) (by omega)
        refine Exists.intro _ (And.intro md_o ?_)
        refine And.intro (fun c5 => ?_) (fun c5 => ?_)
        · skip
          refine hC.1 9 102 _ _ rfl _ _ _ _ _ ?_
          exact ⟨rfl, fun e9 => absurd e9 (by decide), rfl, z2_18, rfl, rfl, by exact True.intro⟩
        · skip
          have lp6 : ∀ (n : Nat) (z4_34 : Int32) (z5_34 : Int32), (0 ≤ z5_34.toInt ∧ z5_34.toInt ≤ z3_18.toInt) → 200 - z5_34.toInt < (n : Int) → J 34 [some (.ref h), some (.int x1), some (.int z2_18), some (.int z3_18), some (.int z4_34), some (.int z5_34)] [] (md A0 g h q v f) 0 0 := by
            intro n
            induction n with
            | zero =>
              intro z4_34 z5_34 j0_34 j1_34
              omega
            | succ n ih7 =>
              intro z4_34 z5_34 j0_34 j1_34
              refine hC.1 3 34 _ _ rfl _ _ _ _ _ ?_
              refine And.intro (fun c8 => ?_) (fun c8 => ?_)
              · skip
                refine hC.1 6 83 _ _ rfl _ _ _ _ _ ?_
                refine And.intro (fun c9 => ?_) (fun c9 => ?_)
                · skip
                  have dc9 : (z4_34).toInt = (0 : Int32).toInt := congrArg Int32.toInt c9
                  refine hC.1 7 93 _ _ rfl _ _ _ _ _ ?_
                  refine hC.1 8 94 _ _ rfl _ _ _ _ _ ?_
                  intro m10 em_94
                  try have e10 : m10.toInt = (z2_18).toInt + (0) := by rw [em_94]; exact pm_addc _ _ (0) rfl (by omega) (by omega)
                  intro m11 em_96
                  try have e11 : m11.toInt = (z3_18).toInt + (1) := by rw [em_96]; exact pm_addc _ _ (1) rfl (by omega) (by omega)
                  exact hC.2 [false, false, false, false, true, true] _ _ _ _ _ _ (ih3 m10 m11 (by omega) (by omega))
                · skip
                  have dc9 := pm_neI c9
                  refine hC.1 8 94 _ _ rfl _ _ _ _ _ ?_
                  intro m12 em_94
                  try have e12 : m12.toInt = (z2_18).toInt + (1) := by rw [em_94]; exact pm_addc _ _ (1) rfl (by omega) (by omega)
                  intro m13 em_96
                  try have e13 : m13.toInt = (z3_18).toInt + (1) := by rw [em_96]; exact pm_addc _ _ (1) rfl (by omega) (by omega)
                  exact hC.2 [false, false, false, false, true, true] _ _ _ _ _ _ (ih3 m12 m13 (by omega) (by omega))
              · skip
                refine And.intro (fun c14 => ?_) (fun c14 => ?_)
                · skip
                  have dc14 : (z4_34).toInt = (0 : Int32).toInt := congrArg Int32.toInt c14
                  refine hC.1 6 83 _ _ rfl _ _ _ _ _ ?_
                  refine And.intro (fun c15 => ?_) (fun c15 => ?_)
                  · skip
                    have dc15 : (z4_34).toInt = (0 : Int32).toInt := congrArg Int32.toInt c15
                    refine hC.1 7 93 _ _ rfl _ _ _ _ _ ?_
                    refine hC.1 8 94 _ _ rfl _ _ _ _ _ ?_
                    intro m16 em_94
                    try have e16 : m16.toInt = (z2_18).toInt + (0) := by rw [em_94]; exact pm_addc _ _ (0) rfl (by omega) (by omega)
                    intro m17 em_96
                    try have e17 : m17.toInt = (z3_18).toInt + (1) := by rw [em_96]; exact pm_addc _ _ (1) rfl (by omega) (by omega)
                    exact hC.2 [false, false, false, false, true, true] _ _ _ _ _ _ (ih3 m16 m17 (by omega) (by omega))
                  · skip
                    have dc15 := pm_neI c15
                    refine hC.1 8 94 _ _ rfl _ _ _ _ _ ?_
                    intro m18 em_94
                    try have e18 : m18.toInt = (z2_18).toInt + (1) := by rw [em_94]; exact pm_addc _ _ (1) rfl (by omega) (by omega)
                    intro m19 em_96
                    try have e19 : m19.toInt = (z3_18).toInt + (1) := by rw [em_96]; exact pm_addc _ _ (1) rfl (by omega) (by omega)
                    exact hC.2 [false, false, false, false, true, true] _ _ _ _ _ _ (ih3 m18 m19 (by omega) (by omega))
                · skip
                  have dc14 := pm_neI c14
                  intro m20 em_51
                  try have e20 : m20.toInt = (z5_34).toInt + (x1).toInt := by rw [em_51]; exact pm_add _ _ (by omega) (by omega)
                  intro m21 em_53
                  try have e21 : m21.toInt = (m20).toInt - (1) := by rw [em_53]; exact pm_subc _ _ (1) rfl (by omega) (by omega)
                  refine And.intro (Exists.intro _ md_o) (Exists.intro _ (Exists.intro _ (Exists.intro _ (Exists.intro _ (And.intro (c_X11_setOf D v f hv hf z5_34 m21 (by omega) (by omega)) (And.intro rfl (fun r9 A9 h9 => ?_)))))))
                  obtain ⟨y22, rfl, rfl, by22⟩ := h9
                  intro m23 em_61
                  try have e23 : m23.toInt = (z3_18).toInt + (x1).toInt := by rw [em_61]; exact pm_add _ _ (by omega) (by omega)
                  intro m24 em_63
                  try have e24 : m24.toInt = (m23).toInt - (1) := by rw [em_63]; exact pm_subc _ _ (1) rfl (by omega) (by omega)
                  refine And.intro (Exists.intro _ md_o) (Exists.intro _ (Exists.intro _ (Exists.intro _ (Exists.intro _ (And.intro (c_X11_setOf D v f hv hf z3_18 m24 (by omega) (by omega)) (And.intro rfl (fun r9 A9 h9 => ?_)))))))
                  obtain ⟨y25, rfl, rfl, by25⟩ := h9
                  refine And.intro (fun c26 => ?_) (fun c26 => ?_)
                  · skip
                    have dc26 : (y22).toInt = (y25 : Int32).toInt := congrArg Int32.toInt c26
                    refine hC.1 4 74 _ _ rfl _ _ _ _ _ ?_
                    refine hC.1 5 75 _ _ rfl _ _ _ _ _ ?_
                    intro m27 em_77
                    try have e27 : m27.toInt = (z5_34).toInt + (1) := by rw [em_77]; exact pm_addc _ _ (1) rfl (by omega) (by omega)
                    exact ih7 (0 : Int32) m27 (by omega) (by omega)
                  · skip
                    have dc26 := pm_neI c26
                    refine hC.1 5 75 _ _ rfl _ _ _ _ _ ?_
                    intro m28 em_77
                    try have e28 : m28.toInt = (z5_34).toInt + (1) := by rw [em_77]; exact pm_addc _ _ (1) rfl (by omega) (by omega)
                    exact ih7 (1 : Int32) m28 (by omega) (by omega)
          exact lp6 (200 - (0 : Int32).toInt).toNat.succ (1 : Int32) (0 : Int32) (by omega) (by omega)
    exact lp2 (200 - (0 : Int32).toInt).toNat.succ (0 : Int32) (0 : Int32) (by omega) (by omega)
  · skip
    have k0 : (0 : Int32).toInt = 0 := rfl
    refine And.intro (fun c9 => absurd c9 (by decide)) (fun _ => ?_)
    exact ⟨rfl, fun e9 => absurd e9 (by decide), rfl, (0 : Int32), rfl, rfl, by exact True.intro⟩

end
end
section
section
variable {l : Launch} {g : pm_G} {A0 : pm_H} {h : Nat} {q : Nat → Nat}
set_option maxRecDepth 100000 in
set_option maxHeartbeats 2000000 in
theorem c_X11_matched (D : md_D h q) (v : Nat → Int32) (f : Nat → Nat → Int32) (hv : md_V v) (hf : md_F f) (x1 : Int32) (x2 : Int32) (x3 : Int32) (p0 : 0 ≤ x1.toInt ∧ x1.toInt ≤ 160) (p1 : 0 ≤ x2.toInt ∧ x2.toInt ≤ 160) (p2 : x3.toInt ≤ 160) : pm_Mt l g 269 0 0 0 [.ref h, .int x1, .int x2, .int x3] (md A0 g h q v f) (md_Qp (md A0 g h q v f) (fun r => True)) := by
  refine mt_X11_matched rfl (fun J hC => ?_)
  have hv9 := hv
  unfold md_V at hv9
  have rg_x1 := pm_rng x1
  have rg_x2 := pm_rng x2
  have rg_x3 := pm_rng x3
  refine hC.1 0 0 _ _ rfl _ _ _ _ _ ?_
  have k0 : (0 : Int32).toInt = 0 := rfl
  have lp1 : ∀ (n : Nat) (z4_3 : Int32), (0 ≤ z4_3.toInt ∧ z4_3.toInt ≤ 160) → 200 - z4_3.toInt < (n : Int) → J 3 [some (.ref h), some (.int x1), some (.int x2), some (.int x3), some (.int z4_3)] [] (md A0 g h q v f) 0 0 := by
    intro n
    induction n with
    | zero =>
      intro z4_3 j0_3 j1_3
      omega
    | succ n ih2 =>
      intro z4_3 j0_3 j1_3
      refine hC.1 1 3 _ _ rfl _ _ _ _ _ ?_
      refine And.intro (fun c3 => ?_) (fun c3 => ?_)
      · skip
        refine hC.1 6 94 _ _ rfl _ _ _ _ _ ?_
        exact ⟨rfl, fun e9 => absurd e9 (by decide), rfl, z4_3, rfl, rfl, by exact True.intro⟩
      · skip
        intro m4 em_12
        try have e4 : m4.toInt = (x1).toInt + (z4_3).toInt := by rw [em_12]; exact pm_add _ _ (by omega) (by omega)
        refine Exists.intro _ (And.intro md_o ?_)
        refine And.intro (fun c5 => ?_) (fun c5 => ?_)
        · skip
          refine hC.1 6 94 _ _ rfl _ _ _ _ _ ?_
          exact ⟨rfl, fun e9 => absurd e9 (by decide), rfl, z4_3, rfl, rfl, by exact True.intro⟩
        · skip
          intro m6 em_23
          try have e6 : m6.toInt = (x2).toInt + (z4_3).toInt := by rw [em_23]; exact pm_add _ _ (by omega) (by omega)
          refine Exists.intro _ (And.intro md_o ?_)
          refine And.intro (fun c7 => ?_) (fun c7 => ?_)
          · skip
            refine hC.1 6 94 _ _ rfl _ _ _ _ _ ?_
            exact ⟨rfl, fun e9 => absurd e9 (by decide), rfl, z4_3, rfl, rfl, by exact True.intro⟩
          · skip
            refine Exists.intro _ (And.intro md_o ?_)
            intro m8 em_38
            try have e8 : m8.toInt = (x1).toInt + (z4_3).toInt := by rw [em_38]; exact pm_add _ _ (by omega) (by omega)
            refine Exists.intro _ (Exists.intro _ (And.intro (Or.inl (md_a_gaps D)) (And.intro (by omega) ?_)))
            refine And.intro (fun c9 => ?_) (fun c9 => ?_)
            · skip
              refine hC.1 2 49 _ _ rfl _ _ _ _ _ ?_
              refine Exists.intro _ (And.intro md_o ?_)
              intro m10 em_56
              try have e10 : m10.toInt = (x1).toInt + (z4_3).toInt := by rw [em_56]; exact pm_add _ _ (by omega) (by omega)
              refine Exists.intro _ (Exists.intro _ (And.intro (Or.inl (md_a_gaps D)) (And.intro (by omega) ?_)))
              refine hC.1 3 58 _ _ rfl _ _ _ _ _ ?_
              refine Exists.intro _ (And.intro md_o ?_)
              intro m11 em_65
              try have e11 : m11.toInt = (x2).toInt + (z4_3).toInt := by rw [em_65]; exact pm_add _ _ (by omega) (by omega)
              refine Exists.intro _ (Exists.intro _ (And.intro (Or.inl (md_a_gaps D)) (And.intro (by omega) ?_)))
              refine And.intro (fun c12 => ?_) (fun c12 => ?_)
              · skip
                refine hC.1 4 76 _ _ rfl _ _ _ _ _ ?_
                refine Exists.intro _ (And.intro md_o ?_)
                intro m13 em_83
                try have e13 : m13.toInt = (x2).toInt + (z4_3).toInt := by rw [em_83]; exact pm_add _ _ (by omega) (by omega)
                refine Exists.intro _ (Exists.intro _ (And.intro (Or.inl (md_a_gaps D)) (And.intro (by omega) ?_)))
                refine hC.1 5 85 _ _ rfl _ _ _ _ _ ?_
                refine And.intro (fun c14 => ?_) (fun c14 => ?_)
                · skip
                  have dc14 := pm_neI c14
                  refine hC.1 6 94 _ _ rfl _ _ _ _ _ ?_
                  exact ⟨rfl, fun e9 => absurd e9 (by decide), rfl, z4_3, rfl, rfl, by exact True.intro⟩
                · skip
                  have dc14 : ((f 17 (m10).toInt.toNat)).toInt = ((f 17 (m13).toInt.toNat) : Int32).toInt := congrArg Int32.toInt c14
                  have k1 : (1 : Int32).toInt = 1 := rfl
                  intro m15 em_88
                  try have e15 : m15.toInt = (z4_3).toInt + (1) := by rw [em_88]; exact pm_addc _ _ (1) rfl (by omega) (by omega)
                  exact ih2 m15 (by omega) (by omega)
              · skip
                refine hC.1 5 85 _ _ rfl _ _ _ _ _ ?_
                refine And.intro (fun c16 => ?_) (fun c16 => ?_)
                · skip
                  have dc16 := pm_neI c16
                  refine hC.1 6 94 _ _ rfl _ _ _ _ _ ?_
                  exact ⟨rfl, fun e9 => absurd e9 (by decide), rfl, z4_3, rfl, rfl, by exact True.intro⟩
                · skip
                  have dc16 : ((f 17 (m10).toInt.toNat)).toInt = ((0 : Int32) : Int32).toInt := congrArg Int32.toInt c16
                  have k1 : (1 : Int32).toInt = 1 := rfl
                  intro m17 em_88
                  try have e17 : m17.toInt = (z4_3).toInt + (1) := by rw [em_88]; exact pm_addc _ _ (1) rfl (by omega) (by omega)
                  exact ih2 m17 (by omega) (by omega)
            · skip
              refine hC.1 3 58 _ _ rfl _ _ _ _ _ ?_
              refine Exists.intro _ (And.intro md_o ?_)
              intro m18 em_65
              try have e18 : m18.toInt = (x2).toInt + (z4_3).toInt := by rw [em_65]; exact pm_add _ _ (by omega) (by omega)
              refine Exists.intro _ (Exists.intro _ (And.intro (Or.inl (md_a_gaps D)) (And.intro (by omega) ?_)))
              refine And.intro (fun c19 => ?_) (fun c19 => ?_)
              · skip
                refine hC.1 4 76 _ _ rfl _ _ _ _ _ ?_
                refine Exists.intro _ (And.intro md_o ?_)
                intro m20 em_83
                try have e20 : m20.toInt = (x2).toInt + (z4_3).toInt := by rw [em_83]; exact pm_add _ _ (by omega) (by omega)
                refine Exists.intro _ (Exists.intro _ (And.intro (Or.inl (md_a_gaps D)) (And.intro (by omega) ?_)))
                refine hC.1 5 85 _ _ rfl _ _ _ _ _ ?_
                refine And.intro (fun c21 => ?_) (fun c21 => ?_)
                · skip
                  have dc21 := pm_neI c21
                  refine hC.1 6 94 _ _ rfl _ _ _ _ _ ?_
                  exact ⟨rfl, fun e9 => absurd e9 (by decide), rfl, z4_3, rfl, rfl, by exact True.intro⟩
                · skip
                  have dc21 : ((0 : Int32)).toInt = ((f 17 (m20).toInt.toNat) : Int32).toInt := congrArg Int32.toInt c21
                  have k1 : (1 : Int32).toInt = 1 := rfl
                  intro m22 em_88
                  try have e22 : m22.toInt = (z4_3).toInt + (1) := by rw [em_88]; exact pm_addc _ _ (1) rfl (by omega) (by omega)
                  exact ih2 m22 (by omega) (by omega)
              · skip
                refine hC.1 5 85 _ _ rfl _ _ _ _ _ ?_
                refine And.intro (fun c9 => absurd c9 (by decide)) (fun _ => ?_)
                have k1 : (1 : Int32).toInt = 1 := rfl
                intro m23 em_88
                try have e23 : m23.toInt = (z4_3).toInt + (1) := by rw [em_88]; exact pm_addc _ _ (1) rfl (by omega) (by omega)
                exact ih2 m23 (by omega) (by omega)
  exact lp1 (200 - (0 : Int32).toInt).toNat.succ (0 : Int32) (by omega) (by omega)

set_option maxRecDepth 100000 in
set_option maxHeartbeats 2000000 in
theorem c_X11_parts (D : md_D h q) (v : Nat → Int32) (f : Nat → Nat → Int32) (hv : md_V v) (hf : md_F f) (x1 : Int32) (x2 : Int32)  : pm_Mt l g 271 2 0 0 [.ref h, .int x1, .int x2] (md A0 g h q v f) (md_Qp (md A0 g h q v f) (fun r => True)) := by
  refine mt_X11_parts rfl (fun J hC => ?_)
  have hv9 := hv
  unfold md_V at hv9
  have rg_x1 := pm_rng x1
  have rg_x2 := pm_rng x2
  refine hC.1 0 0 _ _ rfl _ _ _ _ _ ?_
  have k1 : (1 : Int32).toInt = 1 := rfl
  refine And.intro (fun c1 => ?_) (fun c1 => ?_)
  · skip
    refine hC.1 1 10 _ _ rfl _ _ _ _ _ ?_
    have km1 : (-1 : Int32).toInt = -1 := rfl
    exact ⟨rfl, fun e9 => absurd e9 (by decide), rfl, (-1 : Int32), rfl, rfl, by exact True.intro⟩
  · skip
    have km1 : (-1 : Int32).toInt = -1 := rfl
    refine And.intro (fun c2 => ?_) (fun c2 => ?_)
    · skip
      refine hC.1 2 12 _ _ rfl _ _ _ _ _ ?_
      have k0 : (0 : Int32).toInt = 0 := rfl
      have lp3 : ∀ (n : Nat) (z3_17 : Int32) (z4_17 : Int32), (0 ≤ z4_17.toInt ∧ z4_17.toInt ≤ (v 0).toInt) → 200 - z4_17.toInt < (n : Int) → J 17 [some (.ref h), some (.int x1), some (.int x2), some (.int z3_17), some (.int z4_17), none] [] (md A0 g h q v f) 0 0 := by
        intro n
        induction n with
        | zero =>
          intro z3_17 z4_17 j0_17 j1_17
          omega
        | succ n ih4 =>
          intro z3_17 z4_17 j0_17 j1_17
          refine hC.1 3 17 _ _ rfl _ _ _ _ _ ?_
          refine Exists.intro _ (And.intro md_o ?_)
          refine And.intro (fun c5 => ?_) (fun c5 => ?_)
          · skip
            refine hC.1 5 55 _ _ rfl _ _ _ _ _ ?_
            refine And.intro (fun c6 => ?_) (fun c6 => ?_)
            · skip
              have dc6 := pm_neI c6
              refine hC.1 6 64 _ _ rfl _ _ _ _ _ ?_
              refine hC.1 7 65 _ _ rfl _ _ _ _ _ ?_
              exact ⟨rfl, fun e9 => absurd e9 (by decide), rfl, (-1 : Int32), rfl, rfl, by exact True.intro⟩
            · skip
              have dc6 : (x2).toInt = ((-1 : Int32) : Int32).toInt := congrArg Int32.toInt c6
              refine hC.1 7 65 _ _ rfl _ _ _ _ _ ?_
              exact ⟨rfl, fun e9 => absurd e9 (by decide), rfl, z3_17, rfl, rfl, by exact True.intro⟩
          · skip
            refine And.intro (Exists.intro _ md_o) (Exists.intro _ (Exists.intro _ (Exists.intro _ (Exists.intro _ (And.intro (c_X11_farthest D v f hv hf z4_17 x1 (by omega)) (And.intro rfl (fun r9 A9 h9 => ?_)))))))
            obtain ⟨y7, rfl, rfl, by7⟩ := h9
            refine And.intro (fun c8 => ?_) (fun c8 => ?_)
            · skip
              have dc8 := pm_neI c8
              refine hC.1 4 43 _ _ rfl _ _ _ _ _ ?_
              intro m9 em_43
              try have e9 : m9.toInt = (z3_17).toInt + (1) := by rw [em_43]; exact pm_addc _ _ (1) rfl (by omega) (by omega)
              intro m10 em_49
              try have e10 : m10.toInt = (y7).toInt + (1) := by rw [em_49]; exact pm_addc _ _ (1) rfl (by omega) (by omega)
              exact hC.2 [false, false, false, false, false, true] _ _ _ _ _ _ (ih4 m9 m10 (by omega) (by omega))
            · skip
              have dc8 : (z3_17).toInt = (x2 : Int32).toInt := congrArg Int32.toInt c8
              exact ⟨rfl, fun e9 => absurd e9 (by decide), rfl, y7, rfl, rfl, by exact True.intro⟩
      exact lp3 (200 - (0 : Int32).toInt).toNat.succ (0 : Int32) (0 : Int32) (by omega) (by omega)
    · skip
      refine hC.1 1 10 _ _ rfl _ _ _ _ _ ?_
      exact ⟨rfl, fun e9 => absurd e9 (by decide), rfl, (-1 : Int32), rfl, rfl, by exact True.intro⟩

end
end
section
section
variable {l : Launch} {g : pm_G} {A0 : pm_H} {h : Nat} {q : Nat → Nat}
set_option maxRecDepth 100000 in
set_option maxHeartbeats 2000000 in
theorem c_X11_weigh (D : md_D h q) (v : Nat → Int32) (f : Nat → Nat → Int32) (hv : md_V v) (hf : md_F f) (x1 : Int32) (x2 : Int32)  : pm_Mt l g 194 2 0 0 [.ref h, .int x1, .int x2] (md A0 g h q v f) (fun r A9 => ((0 ≤ x1.toInt ∧ x1.toInt ≤ 23 ∧ 0 ≤ x2.toInt ∧ x2.toInt ≤ 999) ∧ r = some (.int (f 2 x1.toInt.toNat)) ∧ A9 = md A0 g h q v (va_up f 2 (upd (f 2) x1.toInt.toNat x2))) ∨ (¬ (0 ≤ x1.toInt ∧ x1.toInt ≤ 23 ∧ 0 ≤ x2.toInt ∧ x2.toInt ≤ 999) ∧ r = some (.int (-1)) ∧ A9 = md A0 g h q v f)) := by
  refine mt_X11_weigh rfl (fun J hC => ?_)
  have hv9 := hv
  unfold md_V at hv9
  have rg_x1 := pm_rng x1
  have rg_x2 := pm_rng x2
  refine hC.1 0 0 _ _ rfl _ _ _ _ _ ?_
  refine Exists.intro _ (Exists.intro _ (Exists.intro _ (Exists.intro _ (And.intro (c_X11_isColour (md A0 g h q v f) x1 ) (And.intro rfl (fun r9 A9 h9 => ?_))))))
  rcases h9 with ⟨y1, rfl, rfl, ⟨rfl, by1⟩ | ⟨rfl, by1⟩⟩
  · skip
    have k1 : (1 : Int32).toInt = 1 := rfl
    refine And.intro (fun c9 => absurd c9 (by decide)) (fun _ => ?_)
    have k0 : (0 : Int32).toInt = 0 := rfl
    have k999 : (999 : Int32).toInt = 999 := rfl
    refine Exists.intro _ (Exists.intro _ (Exists.intro _ (Exists.intro _ (And.intro (c_X11_isIn (md A0 g h q v f) x2 (0 : Int32) (999 : Int32) ) (And.intro rfl (fun r9 A9 h9 => ?_))))))
    rcases h9 with ⟨y2, rfl, rfl, ⟨rfl, by2⟩ | ⟨rfl, by2⟩⟩
    · skip
      refine And.intro (fun _ => ?_) (fun c9 => absurd c9 (by decide))
      refine hC.1 2 20 _ _ rfl _ _ _ _ _ ?_
      refine Exists.intro _ (And.intro md_o ?_)
      refine Exists.intro _ (Exists.intro _ (And.intro (Or.inl (md_a_weights D)) (And.intro (by omega) ?_)))
      refine Exists.intro _ (And.intro md_o ?_)
      refine Exists.intro _ (Exists.intro _ (And.intro (md_a_weights D) (And.intro (by omega) ?_)))
      rw [md_s_weights D]
      exact ⟨rfl, fun e9 => absurd e9 (by decide), rfl, Or.inl ⟨by omega, rfl, rfl⟩⟩
    · skip
      refine And.intro (fun c9 => absurd c9 (by decide)) (fun _ => ?_)
      refine hC.1 1 18 _ _ rfl _ _ _ _ _ ?_
      have km1 : (-1 : Int32).toInt = -1 := rfl
      exact ⟨rfl, fun e9 => absurd e9 (by decide), rfl, Or.inr ⟨by omega, rfl, rfl⟩⟩
  · skip
    have k0 : (0 : Int32).toInt = 0 := rfl
    refine And.intro (fun _ => ?_) (fun c9 => absurd c9 (by decide))
    refine hC.1 1 18 _ _ rfl _ _ _ _ _ ?_
    have km1 : (-1 : Int32).toInt = -1 := rfl
    exact ⟨rfl, fun e9 => absurd e9 (by decide), rfl, Or.inr ⟨by omega, rfl, rfl⟩⟩

end
end
