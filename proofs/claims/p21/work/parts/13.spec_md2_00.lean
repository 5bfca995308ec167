section
variable {l : Launch} {g : pm_G} {A0 : pm_H} {h : Nat} {q : Nat → Nat}
set_option maxRecDepth 100000 in
set_option maxHeartbeats 2000000 in
theorem c_X11_place (D : md_D h q) (v : Nat → Int32) (f : Nat → Nat → Int32) (hv : md_V v) (hf : md_F f) (x1 : Int32)  : pm_Mt l g 197 1 0 0 [.ref h, .int x1] (md A0 g h q v f) (md_Qp (md A0 g h q v f) (fun r => -1 ≤ r.toInt ∧ r.toInt < (v 0).toInt)) := by
  refine mt_X11_place rfl (fun J hC => ?_)
  have hv9 := hv
  unfold md_V at hv9
  have rg_x1 := pm_rng x1
  refine hC.1 0 0 _ _ rfl _ _ _ _ _ ?_
  refine And.intro (fun c1 => ?_) (fun c1 => ?_)
  · skip
    refine hC.1 1 8 _ _ rfl _ _ _ _ _ ?_
    refine And.intro (Exists.intro _ md_o) (Exists.intro _ (Exists.intro _ (Exists.intro _ (Exists.intro _ (And.intro (c_X11_placeOf D v f hv hf x1 ) (And.intro rfl (fun r9 A9 h9 => ?_)))))))
    obtain ⟨y2, rfl, rfl, by2⟩ := h9
    refine hC.1 2 13 _ _ rfl _ _ _ _ _ ?_
    exact ⟨rfl, fun e9 => absurd e9 (by decide), rfl, y2, rfl, rfl, by first | trivial | omega | (dsimp only; omega)⟩
  · skip
    have km1 : (-1 : Int32).toInt = -1 := rfl
    refine hC.1 2 13 _ _ rfl _ _ _ _ _ ?_
    exact ⟨rfl, fun e9 => absurd e9 (by decide), rfl, (-1 : Int32), rfl, rfl, by first | trivial | omega | (dsimp only; omega)⟩

set_option maxRecDepth 100000 in
set_option maxHeartbeats 2000000 in
theorem c_X11_first (D : md_D h q) (v : Nat → Int32) (f : Nat → Nat → Int32) (hv : md_V v) (hf : md_F f) (x1 : Int32)  : pm_Mt l g 201 0 0 0 [.ref h, .int x1] (md A0 g h q v f) (md_Qp (md A0 g h q v f) (fun r => True)) := by
  refine mt_X11_first rfl (fun J hC => ?_)
  have hv9 := hv
  unfold md_V at hv9
  have rg_x1 := pm_rng x1
  refine hC.1 0 0 _ _ rfl _ _ _ _ _ ?_
  have k0 : (0 : Int32).toInt = 0 := rfl
  have lp1 : ∀ (n : Nat) (z2_2 : Int32), 0 ≤ z2_2.toInt ∧ z2_2.toInt ≤ (v 0).toInt → 200 - z2_2.toInt < (n : Int) → J 2 [some (.ref h), some (.int x1), some (.int z2_2)] [] (md A0 g h q v f) 0 0 := by
    intro n
    induction n with
    | zero =>
      intro z2_2 j0_2 j1_2
      omega
    | succ n ih2 =>
      intro z2_2 j0_2 j1_2
      refine hC.1 1 2 _ _ rfl _ _ _ _ _ ?_
      refine Exists.intro _ (And.intro md_o ?_)
      refine And.intro (fun c3 => ?_) (fun c3 => ?_)
      · skip
        refine hC.1 3 28 _ _ rfl _ _ _ _ _ ?_
        have km1 : (-1 : Int32).toInt = -1 := rfl
        exact ⟨rfl, fun e9 => absurd e9 (by decide), rfl, (-1 : Int32), rfl, rfl, by first | trivial | omega | (dsimp only; omega)⟩
      · skip
        refine Exists.intro _ (And.intro md_o ?_)
        refine Exists.intro _ (Exists.intro _ (And.intro (Or.inl (md_a_colours D)) (And.intro (by omega) ?_)))
        have w4 : (0 : Int) ≤ (f 0 (z2_2).toInt.toNat).toInt ∧ (f 0 (z2_2).toInt.toNat).toInt ≤ (23 : Int) := hf 0 _
        refine And.intro (fun c5 => ?_) (fun c5 => ?_)
        · skip
          have dc5 := pm_neI c5
          refine hC.1 2 22 _ _ rfl _ _ _ _ _ ?_
          have k1 : (1 : Int32).toInt = 1 := rfl
          intro m6 em_22
          try have e6 : m6.toInt = (z2_2).toInt + (1) := by rw [em_22]; exact pm_addc _ _ (1) rfl (by omega) (by omega)
          exact ih2 m6 (by omega) (by omega)
        · skip
          have dc5 : ((f 0 (z2_2).toInt.toNat)).toInt = (x1 : Int32).toInt := congrArg Int32.toInt c5
          exact ⟨rfl, fun e9 => absurd e9 (by decide), rfl, z2_2, rfl, rfl, by first | trivial | omega | (dsimp only; omega)⟩
  exact lp1 (200 - (0 : Int32).toInt).toNat.succ (0 : Int32) (by omega) (by omega)

set_option maxRecDepth 100000 in
set_option maxHeartbeats 2000000 in
theorem c_X11_last (D : md_D h q) (v : Nat → Int32) (f : Nat → Nat → Int32) (hv : md_V v) (hf : md_F f) (x1 : Int32)  : pm_Mt l g 202 0 0 0 [.ref h, .int x1] (md A0 g h q v f) (md_Qp (md A0 g h q v f) (fun r => True)) := by
  refine mt_X11_last rfl (fun J hC => ?_)
  have hv9 := hv
  unfold md_V at hv9
  have rg_x1 := pm_rng x1
  refine hC.1 0 0 _ _ rfl _ _ _ _ _ ?_
  refine Exists.intro _ (And.intro md_o ?_)
  have k1 : (1 : Int32).toInt = 1 := rfl
  intro m1 em_5
  try have e1 : m1.toInt = ((v 0)).toInt - (1) := by rw [em_5]; exact pm_subc _ _ (1) rfl (by omega) (by omega)
  have lp2 : ∀ (n : Nat) (z2_7 : Int32), -1 ≤ z2_7.toInt ∧ z2_7.toInt < (v 0).toInt → z2_7.toInt + 1 < (n : Int) → J 7 [some (.ref h), some (.int x1), some (.int z2_7)] [] (md A0 g h q v f) 0 0 := by
    intro n
    induction n with
    | zero =>
      intro z2_7 j0_7 j1_7
      omega
    | succ n ih3 =>
      intro z2_7 j0_7 j1_7
      refine hC.1 1 7 _ _ rfl _ _ _ _ _ ?_
      refine And.intro (fun c4 => ?_) (fun c4 => ?_)
      · skip
        refine hC.1 3 29 _ _ rfl _ _ _ _ _ ?_
        have km1 : (-1 : Int32).toInt = -1 := rfl
        exact ⟨rfl, fun e9 => absurd e9 (by decide), rfl, (-1 : Int32), rfl, rfl, by first | trivial | omega | (dsimp only; omega)⟩
      · skip
        refine Exists.intro _ (And.intro md_o ?_)
        refine Exists.intro _ (Exists.intro _ (And.intro (Or.inl (md_a_colours D)) (And.intro (by omega) ?_)))
        have w5 : (0 : Int) ≤ (f 0 (z2_7).toInt.toNat).toInt ∧ (f 0 (z2_7).toInt.toNat).toInt ≤ (23 : Int) := hf 0 _
        refine And.intro (fun c6 => ?_) (fun c6 => ?_)
        · skip
          have dc6 := pm_neI c6
          refine hC.1 2 23 _ _ rfl _ _ _ _ _ ?_
          have km1 : (-1 : Int32).toInt = -1 := rfl
          intro m7 em_23
          try have e7 : m7.toInt = (z2_7).toInt + (-1) := by rw [em_23]; exact pm_addc _ _ (-1) rfl (by omega) (by omega)
          exact ih3 m7 (by omega) (by omega)
        · skip
          have dc6 : ((f 0 (z2_7).toInt.toNat)).toInt = (x1 : Int32).toInt := congrArg Int32.toInt c6
          exact ⟨rfl, fun e9 => absurd e9 (by decide), rfl, z2_7, rfl, rfl, by first | trivial | omega | (dsimp only; omega)⟩
  exact lp2 (m1.toInt + 1).toNat.succ m1 (by omega) (by omega)

set_option maxRecDepth 100000 in
set_option maxHeartbeats 2000000 in
theorem c_X11_widest (D : md_D h q) (v : Nat → Int32) (f : Nat → Nat → Int32) (hv : md_V v) (hf : md_F f) (x1 : Int32)  : pm_Mt l g 203 1 0 0 [.ref h, .int x1] (md A0 g h q v f) (md_Qp (md A0 g h q v f) (fun r => True)) := by
  refine mt_X11_widest rfl (fun J hC => ?_)
  have hv9 := hv
  unfold md_V at hv9
  have rg_x1 := pm_rng x1
  refine hC.1 0 0 _ _ rfl _ _ _ _ _ ?_
  have km1 : (-1 : Int32).toInt = -1 := rfl
  have k0 : (0 : Int32).toInt = 0 := rfl
  have lp1 : ∀ (n : Nat) (z2_4 : Int32) (z3_4 : Int32), 0 ≤ z3_4.toInt ∧ z3_4.toInt ≤ (v 0).toInt → 200 - z3_4.toInt < (n : Int) → J 4 [some (.ref h), some (.int x1), some (.int z2_4), some (.int z3_4)] [] (md A0 g h q v f) 0 0 := by
    intro n
    induction n with
    | zero =>
      intro z2_4 z3_4 j0_4 j1_4
      omega
    | succ n ih2 =>
      intro z2_4 z3_4 j0_4 j1_4
      refine hC.1 1 4 _ _ rfl _ _ _ _ _ ?_
      refine Exists.intro _ (And.intro md_o ?_)
      refine And.intro (fun c3 => ?_) (fun c3 => ?_)
      · skip
        refine hC.1 3 59 _ _ rfl _ _ _ _ _ ?_
        exact ⟨rfl, fun e9 => absurd e9 (by decide), rfl, z2_4, rfl, rfl, by first | trivial | omega | (dsimp only; omega)⟩
      · skip
        refine Exists.intro _ (And.intro md_o ?_)
        refine Exists.intro _ (Exists.intro _ (And.intro (Or.inl (md_a_colours D)) (And.intro (by omega) ?_)))
        have w4 : (0 : Int) ≤ (f 0 (z3_4).toInt.toNat).toInt ∧ (f 0 (z3_4).toInt.toNat).toInt ≤ (23 : Int) := hf 0 _
        refine And.intro (fun c5 => ?_) (fun c5 => ?_)
        · skip
          have dc5 := pm_neI c5
          refine hC.1 2 53 _ _ rfl _ _ _ _ _ ?_
          have k1 : (1 : Int32).toInt = 1 := rfl
          intro m6 em_53
          try have e6 : m6.toInt = (z3_4).toInt + (1) := by rw [em_53]; exact pm_addc _ _ (1) rfl (by omega) (by omega)
          exact ih2 z2_4 m6 (by omega) (by omega)
        · skip
          have dc5 : ((f 0 (z3_4).toInt.toNat)).toInt = (x1 : Int32).toInt := congrArg Int32.toInt c5
          refine And.intro (Exists.intro _ md_o) (Exists.intro _ (Exists.intro _ (Exists.intro _ (Exists.intro _ (And.intro (c_X11_ahead D v f hv hf z3_4 (by omega)) (And.intro rfl (fun r9 A9 h9 => ?_)))))))
          obtain ⟨y7, rfl, rfl, by7⟩ := h9
          refine And.intro (fun c8 => ?_) (fun c8 => ?_)
          · skip
            refine hC.1 2 53 _ _ rfl _ _ _ _ _ ?_
            have k1 : (1 : Int32).toInt = 1 := rfl
            intro m9 em_53
            try have e9 : m9.toInt = (z3_4).toInt + (1) := by rw [em_53]; exact pm_addc _ _ (1) rfl (by omega) (by omega)
            exact ih2 z2_4 m9 (by omega) (by omega)
          · skip
            refine And.intro (Exists.intro _ md_o) (Exists.intro _ (Exists.intro _ (Exists.intro _ (Exists.intro _ (And.intro (c_X11_ahead D v f hv hf z3_4 (by omega)) (And.intro rfl (fun r9 A9 h9 => ?_)))))))
            obtain ⟨y10, rfl, rfl, by10⟩ := h9
            intro m11 em_36
            try have e11 : m11.toInt = (z3_4).toInt - (y10).toInt := by rw [em_36]; exact pm_sub _ _ (by omega) (by omega)
            have k1 : (1 : Int32).toInt = 1 := rfl
            intro m12 em_38
            try have e12 : m12.toInt = (m11).toInt - (1) := by rw [em_38]; exact pm_subc _ _ (1) rfl (by omega) (by omega)
            refine And.intro (fun c13 => ?_) (fun c13 => ?_)
            · skip
              refine hC.1 2 53 _ _ rfl _ _ _ _ _ ?_
              intro m14 em_53
              try have e14 : m14.toInt = (z3_4).toInt + (1) := by rw [em_53]; exact pm_addc _ _ (1) rfl (by omega) (by omega)
              exact ih2 z2_4 m14 (by omega) (by omega)
            · skip
              refine And.intro (Exists.intro _ md_o) (Exists.intro _ (Exists.intro _ (Exists.intro _ (Exists.intro _ (And.intro (c_X11_ahead D v f hv hf z3_4 (by omega)) (And.intro rfl (fun r9 A9 h9 => ?_)))))))
              obtain ⟨y15, rfl, rfl, by15⟩ := h9
              intro m16 em_49
              try have e16 : m16.toInt = (z3_4).toInt - (y15).toInt := by rw [em_49]; exact pm_sub _ _ (by omega) (by omega)
              intro m17 em_51
              try have e17 : m17.toInt = (m16).toInt - (1) := by rw [em_51]; exact pm_subc _ _ (1) rfl (by omega) (by omega)
              refine hC.1 2 53 _ _ rfl _ _ _ _ _ ?_
              intro m18 em_53
              try have e18 : m18.toInt = (z3_4).toInt + (1) := by rw [em_53]; exact pm_addc _ _ (1) rfl (by omega) (by omega)
              exact ih2 m17 m18 (by omega) (by omega)
  exact lp1 (200 - (0 : Int32).toInt).toNat.succ (-1 : Int32) (0 : Int32) (by omega) (by omega)

set_option maxRecDepth 100000 in
set_option maxHeartbeats 2000000 in
theorem c_X11_timesIn (D : md_D h q) (v : Nat → Int32) (f : Nat → Nat → Int32) (hv : md_V v) (hf : md_F f) (x1 : Int32) (x2 : Int32) (x3 : Int32) (p0 : 0 ≤ x1.toInt ∧ x1.toInt ≤ 160) (p1 : -1 ≤ x2.toInt ∧ x2.toInt < 160) : pm_Mt l g 200 0 0 0 [.ref h, .int x1, .int x2, .int x3] (md A0 g h q v f) (md_Qp (md A0 g h q v f) (fun r => True)) := by
  refine mt_X11_timesIn rfl (fun J hC => ?_)
  have hv9 := hv
  unfold md_V at hv9
  have rg_x1 := pm_rng x1
  have rg_x2 := pm_rng x2
  have rg_x3 := pm_rng x3
  refine hC.1 0 0 _ _ rfl _ _ _ _ _ ?_
  have k0 : (0 : Int32).toInt = 0 := rfl
  have lp1 : ∀ (n : Nat) (z4_6 : Int32) (z5_6 : Int32), 0 ≤ z5_6.toInt ∧ z5_6.toInt ≤ 161 → 200 - z5_6.toInt < (n : Int) → J 6 [some (.ref h), some (.int x1), some (.int x2), some (.int x3), some (.int z4_6), some (.int z5_6)] [] (md A0 g h q v f) 0 0 := by
    intro n
    induction n with
    | zero =>
      intro z4_6 z5_6 j0_6 j1_6
      omega
    | succ n ih2 =>
      intro z4_6 z5_6 j0_6 j1_6
      refine hC.1 1 6 _ _ rfl _ _ _ _ _ ?_
      refine And.intro (fun c3 => ?_) (fun c3 => ?_)
      · skip
        refine hC.1 4 39 _ _ rfl _ _ _ _ _ ?_
        exact ⟨rfl, fun e9 => absurd e9 (by decide), rfl, z4_6, rfl, rfl, by first | trivial | omega | (dsimp only; omega)⟩
      · skip
        refine Exists.intro _ (And.intro md_o ?_)
        refine Exists.intro _ (Exists.intro _ (And.intro (Or.inl (md_a_colours D)) (And.intro (by omega) ?_)))
        have w4 : (0 : Int) ≤ (f 0 (z5_6).toInt.toNat).toInt ∧ (f 0 (z5_6).toInt.toNat).toInt ≤ (23 : Int) := hf 0 _
        refine And.intro (fun c5 => ?_) (fun c5 => ?_)
        · skip
          have dc5 := pm_neI c5
          refine hC.1 2 29 _ _ rfl _ _ _ _ _ ?_
          refine hC.1 3 30 _ _ rfl _ _ _ _ _ ?_
          intro m6 em_30
          try have e6 : m6.toInt = (z4_6).toInt + (0) := by rw [em_30]; exact pm_addc _ _ (0) rfl (by omega) (by omega)
          have k1 : (1 : Int32).toInt = 1 := rfl
          intro m7 em_33
          try have e7 : m7.toInt = (z5_6).toInt + (1) := by rw [em_33]; exact pm_addc _ _ (1) rfl (by omega) (by omega)
          exact ih2 m6 m7 (by omega) (by omega)
        · skip
          have dc5 : ((f 0 (z5_6).toInt.toNat)).toInt = (x3 : Int32).toInt := congrArg Int32.toInt c5
          have k1 : (1 : Int32).toInt = 1 := rfl
          refine hC.1 3 30 _ _ rfl _ _ _ _ _ ?_
          intro m8 em_30
          try have e8 : m8.toInt = (z4_6).toInt + (1) := by rw [em_30]; exact pm_addc _ _ (1) rfl (by omega) (by omega)
          intro m9 em_33
          try have e9 : m9.toInt = (z5_6).toInt + (1) := by rw [em_33]; exact pm_addc _ _ (1) rfl (by omega) (by omega)
          exact ih2 m8 m9 (by omega) (by omega)
  exact lp1 (200 - x1.toInt).toNat.succ (0 : Int32) x1 (by omega) (by omega)

set_option maxRecDepth 100000 in
set_option maxHeartbeats 2000000 in
theorem c_X11_setOf (D : md_D h q) (v : Nat → Int32) (f : Nat → Nat → Int32) (hv : md_V v) (hf : md_F f) (x1 : Int32) (x2 : Int32) (p0 : 0 ≤ x1.toInt ∧ x1.toInt ≤ 160) (p1 : -1 ≤ x2.toInt ∧ x2.toInt < 160) : pm_Mt l g 206 0 0 0 [.ref h, .int x1, .int x2] (md A0 g h q v f) (md_Qp (md A0 g h q v f) (fun r => r = setF (f 0) x1.toInt.toNat (x2.toInt + 1 - x1.toInt).toNat)) := by
  refine mt_X11_setOf rfl (fun J hC => ?_)
  have hv9 := hv
  unfold md_V at hv9
  have rg_x1 := pm_rng x1
  have rg_x2 := pm_rng x2
  refine hC.1 0 0 _ _ rfl _ _ _ _ _ ?_
  have k0 : (0 : Int32).toInt = 0 := rfl
  have lp1 : ∀ (n : Nat) (z3_5 : Int32) (z4_5 : Int32), x1.toInt ≤ z4_5.toInt ∧ z4_5.toInt ≤ 161 ∧ (z4_5.toInt ≤ x2.toInt + 1 ∨ z4_5.toInt = x1.toInt) → z3_5 = setF (f 0) x1.toInt.toNat (z4_5.toInt - x1.toInt).toNat → 200 - z4_5.toInt < (n : Int) → J 5 [some (.ref h), some (.int x1), some (.int x2), some (.int z3_5), some (.int z4_5)] [] (md A0 g h q v f) 0 0 := by
    intro n
    induction n with
    | zero =>
      intro z3_5 z4_5 j0_5 j1_5 j2_5
      omega
    | succ n ih2 =>
      intro z3_5 z4_5 j0_5 j1_5 j2_5
      refine hC.1 1 5 _ _ rfl _ _ _ _ _ ?_
      refine And.intro (fun c3 => ?_) (fun c3 => ?_)
      · skip
        refine hC.1 2 29 _ _ rfl _ _ _ _ _ ?_
        exact ⟨rfl, fun e9 => absurd e9 (by decide), rfl, z3_5, rfl, rfl, by rw [j1_5]; congr 1; omega⟩
      · skip
        have k1 : (1 : Int32).toInt = 1 := rfl
        refine Exists.intro _ (And.intro md_o ?_)
        refine Exists.intro _ (Exists.intro _ (And.intro (Or.inl (md_a_colours D)) (And.intro (by omega) ?_)))
        have w4 : (0 : Int) ≤ (f 0 (z4_5).toInt.toNat).toInt ∧ (f 0 (z4_5).toInt.toNat).toInt ≤ (23 : Int) := hf 0 _
        intro m5 em_23
        try have e5 : m5.toInt = (z4_5).toInt + (1) := by rw [em_23]; exact pm_addc _ _ (1) rfl (by omega) (by omega)
        exact ih2 (z3_5 ||| ((1 : Int32) <<< ((f 0 (z4_5).toInt.toNat) &&& 31))) m5 (by omega) (by rw [j1_5]; exact setF_s (m := m5) (by omega) (by omega)) (by omega)
  exact lp1 (200 - x1.toInt).toNat.succ (0 : Int32) x1 (by omega) (by rw [show (x1.toInt - x1.toInt).toNat = 0 by omega]; rfl) (by omega)

set_option maxRecDepth 100000 in
set_option maxHeartbeats 2000000 in
theorem c_X11_countOf (D : md_D h q) (v : Nat → Int32) (f : Nat → Nat → Int32) (hv : md_V v) (hf : md_F f) (x1 : Int32) (x2 : Int32) (p0 : 0 ≤ x1.toInt ∧ x1.toInt ≤ 160) (p1 : -1 ≤ x2.toInt ∧ x2.toInt < 160) : pm_Mt l g 209 1 0 0 [.ref h, .int x1, .int x2] (md A0 g h q v f) (md_Qp (md A0 g h q v f) (fun r => True)) := by
  refine mt_X11_countOf rfl (fun J hC => ?_)
  have hv9 := hv
  unfold md_V at hv9
  have rg_x1 := pm_rng x1
  have rg_x2 := pm_rng x2
  refine hC.1 0 0 _ _ rfl _ _ _ _ _ ?_
  refine And.intro (Exists.intro _ md_o) (Exists.intro _ (Exists.intro _ (Exists.intro _ (Exists.intro _ (And.intro (c_X11_setOf D v f hv hf x1 x2 (by omega) (by omega)) (And.intro rfl (fun r9 A9 h9 => ?_)))))))
  obtain ⟨y1, rfl, rfl, by1⟩ := h9
  refine Exists.intro _ (Exists.intro _ (Exists.intro _ (Exists.intro _ (And.intro (c_X11_bits (md A0 g h q v f) y1 ) (And.intro rfl (fun r9 A9 h9 => ?_))))))
  obtain ⟨y2, rfl, rfl, by2⟩ := h9
  exact ⟨rfl, fun e9 => absurd e9 (by decide), rfl, y2, rfl, rfl, by first | trivial | omega | (dsimp only; omega)⟩

set_option maxRecDepth 100000 in
set_option maxHeartbeats 2000000 in
theorem c_X11_weightOf (D : md_D h q) (v : Nat → Int32) (f : Nat → Nat → Int32) (hv : md_V v) (hf : md_F f) (x1 : Int32)  : pm_Mt l g 211 0 0 0 [.ref h, .int x1] (md A0 g h q v f) (md_Qp (md A0 g h q v f) (fun r => True)) := by
  refine mt_X11_weightOf rfl (fun J hC => ?_)
  have hv9 := hv
  unfold md_V at hv9
  have rg_x1 := pm_rng x1
  refine hC.1 0 0 _ _ rfl _ _ _ _ _ ?_
  have k0 : (0 : Int32).toInt = 0 := rfl
  have lp1 : ∀ (n : Nat) (z2_4 : Int32) (z3_4 : Int32), 0 ≤ z3_4.toInt ∧ z3_4.toInt ≤ 24 → 200 - z3_4.toInt < (n : Int) → J 4 [some (.ref h), some (.int x1), some (.int z2_4), some (.int z3_4)] [] (md A0 g h q v f) 0 0 := by
    intro n
    induction n with
    | zero =>
      intro z2_4 z3_4 j0_4 j1_4
      omega
    | succ n ih2 =>
      intro z2_4 z3_4 j0_4 j1_4
      refine hC.1 1 4 _ _ rfl _ _ _ _ _ ?_
      have k24 : (24 : Int32).toInt = 24 := rfl
      refine And.intro (fun c3 => ?_) (fun c3 => ?_)
      · skip
        refine hC.1 4 38 _ _ rfl _ _ _ _ _ ?_
        exact ⟨rfl, fun e9 => absurd e9 (by decide), rfl, z2_4, rfl, rfl, by first | trivial | omega | (dsimp only; omega)⟩
      · skip
        have k1 : (1 : Int32).toInt = 1 := rfl
        refine And.intro (fun c4 => ?_) (fun c4 => ?_)
        · skip
          have dc4 := pm_neI c4
          refine hC.1 2 29 _ _ rfl _ _ _ _ _ ?_
          refine hC.1 3 30 _ _ rfl _ _ _ _ _ ?_
          intro m5 em_30
          try have e5 : m5.toInt = (z2_4).toInt + (0) := by rw [em_30]; exact pm_addc _ _ (0) rfl (by omega) (by omega)
          intro m6 em_32
          try have e6 : m6.toInt = (z3_4).toInt + (1) := by rw [em_32]; exact pm_addc _ _ (1) rfl (by omega) (by omega)
          exact ih2 m5 m6 (by omega) (by omega)
        · skip
          have dc4 : (((x1 >>> (z3_4 &&& 31)) &&& (1 : Int32))).toInt = ((1 : Int32) : Int32).toInt := congrArg Int32.toInt c4
          refine Exists.intro _ (And.intro md_o ?_)
          refine Exists.intro _ (Exists.intro _ (And.intro (Or.inl (md_a_weights D)) (And.intro (by omega) ?_)))
          refine hC.1 3 30 _ _ rfl _ _ _ _ _ ?_
          intro m7 em_30
          try have e7 : m7.toInt = (z2_4).toInt + ((f 2 (z3_4).toInt.toNat)).toInt := by rw [em_30]; exact pm_add _ _ (by omega) (by omega)
          intro m8 em_32
          try have e8 : m8.toInt = (z3_4).toInt + (1) := by rw [em_32]; exact pm_addc _ _ (1) rfl (by omega) (by omega)
          exact ih2 m7 m8 (by omega) (by omega)
  exact lp1 (200 - (0 : Int32).toInt).toNat.succ (0 : Int32) (0 : Int32) (by omega) (by omega)

set_option maxRecDepth 100000 in
set_option maxHeartbeats 2000000 in
theorem c_X11_count (D : md_D h q) (v : Nat → Int32) (f : Nat → Nat → Int32) (hv : md_V v) (hf : md_F f) (x1 : Int32) (x2 : Int32)  : pm_Mt l g 208 2 0 0 [.ref h, .int x1, .int x2] (md A0 g h q v f) (md_Qp (md A0 g h q v f) (fun r => True)) := by
  refine mt_X11_count rfl (fun J hC => ?_)
  have hv9 := hv
  unfold md_V at hv9
  have rg_x1 := pm_rng x1
  have rg_x2 := pm_rng x2
  refine hC.1 0 0 _ _ rfl _ _ _ _ _ ?_
  refine And.intro (Exists.intro _ md_o) (Exists.intro _ (Exists.intro _ (Exists.intro _ (Exists.intro _ (And.intro (c_X11_isSpan D v f hv hf x1 x2 ) (And.intro rfl (fun r9 A9 h9 => ?_)))))))
  rcases h9 with ⟨y1, rfl, rfl, ⟨rfl, by1⟩ | ⟨rfl, by1⟩⟩
  · skip
    have k1 : (1 : Int32).toInt = 1 := rfl
    refine And.intro (fun c9 => absurd c9 (by decide)) (fun _ => ?_)
    refine And.intro (Exists.intro _ md_o) (Exists.intro _ (Exists.intro _ (Exists.intro _ (Exists.intro _ (And.intro (c_X11_countOf D v f hv hf x1 x2 (by omega) (by omega)) (And.intro rfl (fun r9 A9 h9 => ?_)))))))
    obtain ⟨y2, rfl, rfl, by2⟩ := h9
    refine hC.1 2 19 _ _ rfl _ _ _ _ _ ?_
    exact ⟨rfl, fun e9 => absurd e9 (by decide), rfl, y2, rfl, rfl, by first | trivial | omega | (dsimp only; omega)⟩
  · skip
    have k0 : (0 : Int32).toInt = 0 := rfl
    refine And.intro (fun _ => ?_) (fun c9 => absurd c9 (by decide))
    refine hC.1 1 18 _ _ rfl _ _ _ _ _ ?_
    have km1 : (-1 : Int32).toInt = -1 := rfl
    refine hC.1 2 19 _ _ rfl _ _ _ _ _ ?_
    exact ⟨rfl, fun e9 => absurd e9 (by decide), rfl, (-1 : Int32), rfl, rfl, by first | trivial | omega | (dsimp only; omega)⟩

set_option maxRecDepth 100000 in
set_option maxHeartbeats 2000000 in
theorem c_X11_set (D : md_D h q) (v : Nat → Int32) (f : Nat → Nat → Int32) (hv : md_V v) (hf : md_F f) (x1 : Int32) (x2 : Int32)  : pm_Mt l g 212 1 0 0 [.ref h, .int x1, .int x2] (md A0 g h q v f) (md_Qp (md A0 g h q v f) (fun r => True)) := by
  refine mt_X11_set rfl (fun J hC => ?_)
  have hv9 := hv
  unfold md_V at hv9
  have rg_x1 := pm_rng x1
  have rg_x2 := pm_rng x2
  refine hC.1 0 0 _ _ rfl _ _ _ _ _ ?_
  refine And.intro (Exists.intro _ md_o) (Exists.intro _ (Exists.intro _ (Exists.intro _ (Exists.intro _ (And.intro (c_X11_isSpan D v f hv hf x1 x2 ) (And.intro rfl (fun r9 A9 h9 => ?_)))))))
  rcases h9 with ⟨y1, rfl, rfl, ⟨rfl, by1⟩ | ⟨rfl, by1⟩⟩
  · skip
    have k1 : (1 : Int32).toInt = 1 := rfl
    refine And.intro (fun c9 => absurd c9 (by decide)) (fun _ => ?_)
    refine And.intro (Exists.intro _ md_o) (Exists.intro _ (Exists.intro _ (Exists.intro _ (Exists.intro _ (And.intro (c_X11_setOf D v f hv hf x1 x2 (by omega) (by omega)) (And.intro rfl (fun r9 A9 h9 => ?_)))))))
    obtain ⟨y2, rfl, rfl, by2⟩ := h9
    refine hC.1 2 19 _ _ rfl _ _ _ _ _ ?_
    exact ⟨rfl, fun e9 => absurd e9 (by decide), rfl, y2, rfl, rfl, by first | trivial | omega | (dsimp only; omega)⟩
  · skip
    have k0 : (0 : Int32).toInt = 0 := rfl
    refine And.intro (fun _ => ?_) (fun c9 => absurd c9 (by decide))
    refine hC.1 1 18 _ _ rfl _ _ _ _ _ ?_
    have km1 : (-1 : Int32).toInt = -1 := rfl
    refine hC.1 2 19 _ _ rfl _ _ _ _ _ ?_
    exact ⟨rfl, fun e9 => absurd e9 (by decide), rfl, (-1 : Int32), rfl, rfl, by first | trivial | omega | (dsimp only; omega)⟩

set_option maxRecDepth 100000 in
set_option maxHeartbeats 2000000 in
theorem c_X11_times (D : md_D h q) (v : Nat → Int32) (f : Nat → Nat → Int32) (hv : md_V v) (hf : md_F f) (x1 : Int32) (x2 : Int32) (x3 : Int32)  : pm_Mt l g 213 2 0 0 [.ref h, .int x1, .int x2, .int x3] (md A0 g h q v f) (md_Qp (md A0 g h q v f) (fun r => True)) := by
  refine mt_X11_times rfl (fun J hC => ?_)
  have hv9 := hv
  unfold md_V at hv9
  have rg_x1 := pm_rng x1
  have rg_x2 := pm_rng x2
  have rg_x3 := pm_rng x3
  refine hC.1 0 0 _ _ rfl _ _ _ _ _ ?_
  refine And.intro (Exists.intro _ md_o) (Exists.intro _ (Exists.intro _ (Exists.intro _ (Exists.intro _ (And.intro (c_X11_isSpan D v f hv hf x1 x2 ) (And.intro rfl (fun r9 A9 h9 => ?_)))))))
  rcases h9 with ⟨y1, rfl, rfl, ⟨rfl, by1⟩ | ⟨rfl, by1⟩⟩
  · skip
    have k1 : (1 : Int32).toInt = 1 := rfl
    refine And.intro (fun c9 => absurd c9 (by decide)) (fun _ => ?_)
    refine Exists.intro _ (Exists.intro _ (Exists.intro _ (Exists.intro _ (And.intro (c_X11_isColour (md A0 g h q v f) x3 ) (And.intro rfl (fun r9 A9 h9 => ?_))))))
    rcases h9 with ⟨y2, rfl, rfl, ⟨rfl, by2⟩ | ⟨rfl, by2⟩⟩
    · skip
      refine And.intro (fun c9 => absurd c9 (by decide)) (fun _ => ?_)
      refine And.intro (Exists.intro _ md_o) (Exists.intro _ (Exists.intro _ (Exists.intro _ (Exists.intro _ (And.intro (c_X11_timesIn D v f hv hf x1 x2 x3 (by omega) (by omega)) (And.intro rfl (fun r9 A9 h9 => ?_)))))))
      obtain ⟨y3, rfl, rfl, by3⟩ := h9
      refine hC.1 2 27 _ _ rfl _ _ _ _ _ ?_
      exact ⟨rfl, fun e9 => absurd e9 (by decide), rfl, y3, rfl, rfl, by first | trivial | omega | (dsimp only; omega)⟩
    · skip
      have k0 : (0 : Int32).toInt = 0 := rfl
      refine And.intro (fun _ => ?_) (fun c9 => absurd c9 (by decide))
      refine hC.1 1 26 _ _ rfl _ _ _ _ _ ?_
      have km1 : (-1 : Int32).toInt = -1 := rfl
      refine hC.1 2 27 _ _ rfl _ _ _ _ _ ?_
      exact ⟨rfl, fun e9 => absurd e9 (by decide), rfl, (-1 : Int32), rfl, rfl, by first | trivial | omega | (dsimp only; omega)⟩
  · skip
    have k0 : (0 : Int32).toInt = 0 := rfl
    refine And.intro (fun _ => ?_) (fun c9 => absurd c9 (by decide))
    refine hC.1 1 26 _ _ rfl _ _ _ _ _ ?_
    have km1 : (-1 : Int32).toInt = -1 := rfl
    refine hC.1 2 27 _ _ rfl _ _ _ _ _ ?_
    exact ⟨rfl, fun e9 => absurd e9 (by decide), rfl, (-1 : Int32), rfl, rfl, by first | trivial | omega | (dsimp only; omega)⟩

set_option maxRecDepth 100000 in
set_option maxHeartbeats 2000000 in
theorem c_X11_often (D : md_D h q) (v : Nat → Int32) (f : Nat → Nat → Int32) (hv : md_V v) (hf : md_F f) (x1 : Int32) (x2 : Int32) (x3 : Int32)  : pm_Mt l g 214 1 0 0 [.ref h, .int x1, .int x2, .int x3] (md A0 g h q v f) (md_Qp (md A0 g h q v f) (fun r => True)) := by
  refine mt_X11_often rfl (fun J hC => ?_)
  have hv9 := hv
  unfold md_V at hv9
  have rg_x1 := pm_rng x1
  have rg_x2 := pm_rng x2
  have rg_x3 := pm_rng x3
  refine hC.1 0 0 _ _ rfl _ _ _ _ _ ?_
  refine And.intro (Exists.intro _ md_o) (Exists.intro _ (Exists.intro _ (Exists.intro _ (Exists.intro _ (And.intro (c_X11_isSpan D v f hv hf x1 x2 ) (And.intro rfl (fun r9 A9 h9 => ?_)))))))
  rcases h9 with ⟨y1, rfl, rfl, ⟨rfl, by1⟩ | ⟨rfl, by1⟩⟩
  · skip
    have k1 : (1 : Int32).toInt = 1 := rfl
    refine And.intro (fun c9 => absurd c9 (by decide)) (fun _ => ?_)
    refine And.intro (fun c2 => ?_) (fun c2 => ?_)
    · skip
      refine hC.1 2 16 _ _ rfl _ _ _ _ _ ?_
      have k0 : (0 : Int32).toInt = 0 := rfl
      have lp3 : ∀ (n : Nat) (z4_22 : Int32) (z5_22 : Int32), 0 ≤ z5_22.toInt ∧ z5_22.toInt ≤ 24 → 200 - z5_22.toInt < (n : Int) → J 22 [some (.ref h), some (.int x1), some (.int x2), some (.int x3), some (.int z4_22), some (.int z5_22)] [] (md A0 g h q v f) 0 0 := by
        intro n
        induction n with
        | zero =>
          intro z4_22 z5_22 j0_22 j1_22
          omega
        | succ n ih4 =>
          intro z4_22 z5_22 j0_22 j1_22
          refine hC.1 3 22 _ _ rfl _ _ _ _ _ ?_
          have k24 : (24 : Int32).toInt = 24 := rfl
          refine And.intro (fun c5 => ?_) (fun c5 => ?_)
          · skip
            refine hC.1 6 57 _ _ rfl _ _ _ _ _ ?_
            exact ⟨rfl, fun e9 => absurd e9 (by decide), rfl, z4_22, rfl, rfl, by first | trivial | omega | (dsimp only; omega)⟩
          · skip
            refine And.intro (Exists.intro _ md_o) (Exists.intro _ (Exists.intro _ (Exists.intro _ (Exists.intro _ (And.intro (c_X11_timesIn D v f hv hf x1 x2 z5_22 (by omega) (by omega)) (And.intro rfl (fun r9 A9 h9 => ?_)))))))
            obtain ⟨y6, rfl, rfl, by6⟩ := h9
            refine And.intro (fun c7 => ?_) (fun c7 => ?_)
            · skip
              refine hC.1 4 47 _ _ rfl _ _ _ _ _ ?_
              refine hC.1 5 48 _ _ rfl _ _ _ _ _ ?_
              intro m8 em_48
              try have e8 : m8.toInt = (z4_22).toInt + (0) := by rw [em_48]; exact pm_addc _ _ (0) rfl (by omega) (by omega)
              intro m9 em_51
              try have e9 : m9.toInt = (z5_22).toInt + (1) := by rw [em_51]; exact pm_addc _ _ (1) rfl (by omega) (by omega)
              exact ih4 m8 m9 (by omega) (by omega)
            · skip
              refine hC.1 5 48 _ _ rfl _ _ _ _ _ ?_
              intro m10 em_48
              try have e10 : m10.toInt = (z4_22).toInt + (1) := by rw [em_48]; exact pm_addc _ _ (1) rfl (by omega) (by omega)
              intro m11 em_51
              try have e11 : m11.toInt = (z5_22).toInt + (1) := by rw [em_51]; exact pm_addc _ _ (1) rfl (by omega) (by omega)
              exact ih4 m10 m11 (by omega) (by omega)
      exact lp3 (200 - (0 : Int32).toInt).toNat.succ (0 : Int32) (0 : Int32) (by omega) (by omega)
    · skip
      refine hC.1 1 14 _ _ rfl _ _ _ _ _ ?_
      have km1 : (-1 : Int32).toInt = -1 := rfl
      exact ⟨rfl, fun e9 => absurd e9 (by decide), rfl, (-1 : Int32), rfl, rfl, by first | trivial | omega | (dsimp only; omega)⟩
  · skip
    have k0 : (0 : Int32).toInt = 0 := rfl
    refine And.intro (fun _ => ?_) (fun c9 => absurd c9 (by decide))
    refine hC.1 1 14 _ _ rfl _ _ _ _ _ ?_
    have km1 : (-1 : Int32).toInt = -1 := rfl
    exact ⟨rfl, fun e9 => absurd e9 (by decide), rfl, (-1 : Int32), rfl, rfl, by first | trivial | omega | (dsimp only; omega)⟩

end
