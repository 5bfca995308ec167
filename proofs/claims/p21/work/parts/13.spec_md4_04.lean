section
variable {l : Launch} {g : pm_G} {A0 : pm_H} {h : Nat} {q : Nat → Nat}
set_option maxRecDepth 100000 in
set_option maxHeartbeats 2000000 in
theorem c_X11_lastAhead (D : md_D h q) (v : Nat → Int32) (f : Nat → Nat → Int32) (hv : md_V v) (hf : md_F f) (x1 : Int32) (x2 : Int32) (p0 : ∃ k9 : Nat, (k9 : Int) < x2.toInt ∧ f 0 k9 = x1) (p1 : x2.toInt ≤ 160) : pm_Mt l g 261 0 0 0 [.ref h, .int x1, .int x2] (md A0 g h q v f) (md_Qp (md A0 g h q v f) (fun r => True)) := by
  refine mt_X11_lastAhead rfl (fun J hC => ?_)
  have hv9 := hv
  unfold md_V at hv9
  have rg_x1 := pm_rng x1
  have rg_x2 := pm_rng x2
  obtain ⟨k8, hk8, he8⟩ := p0
  refine hC.1 0 0 _ _ rfl _ _ _ _ _ ?_
  have k1 : (1 : Int32).toInt = 1 := rfl
  intro m1 em_2
  try have e1 : m1.toInt = (x2).toInt - (1) := by rw [em_2]; exact pm_subc _ _ (1) rfl (by omega) (by omega)
  have lp2 : ∀ (n : Nat) (z3_4 : Int32), (z3_4.toInt < x2.toInt) → (∃ k9 : Nat, (k9 : Int) ≤ z3_4.toInt ∧ f 0 k9 = x1) → z3_4.toInt + 1 < (n : Int) → J 4 [some (.ref h), some (.int x1), some (.int x2), some (.int z3_4)] [] (md A0 g h q v f) 0 0 := by
    intro n
    induction n with
    | zero =>
      intro z3_4 j0_4 j1_4 j2_4
      obtain ⟨k7, hk7, he7⟩ := j1_4; omega
    | succ n ih3 =>
      intro z3_4 j0_4 j1_4 j2_4
      obtain ⟨k7, hk7, he7⟩ := j1_4
      refine hC.1 1 4 _ _ rfl _ _ _ _ _ ?_
      refine Exists.intro _ (And.intro md_o ?_)
      refine Exists.intro _ (Exists.intro _ (And.intro (Or.inl (md_a_colours D)) (And.intro (by omega) ?_)))
      have w4 : (0 : Int) ≤ (f 0 (z3_4).toInt.toNat).toInt ∧ (f 0 (z3_4).toInt.toNat).toInt ≤ (23 : Int) := hf 0 _
      refine And.intro (fun c5 => ?_) (fun c5 => ?_)
      · skip
        have dc5 : ((f 0 (z3_4).toInt.toNat)).toInt = (x1 : Int32).toInt := congrArg Int32.toInt c5
        refine hC.1 2 20 _ _ rfl _ _ _ _ _ ?_
        exact ⟨rfl, fun e9 => absurd e9 (by decide), rfl, z3_4, rfl, rfl, by first | trivial | omega | (dsimp only; omega)⟩
      · skip
        have dc5 := pm_neI c5
        have km1 : (-1 : Int32).toInt = -1 := rfl
        intro m6 em_14
        try have e6 : m6.toInt = (z3_4).toInt + (-1) := by rw [em_14]; exact pm_addc _ _ (-1) rfl (by omega) (by omega)
        exact ih3 m6 (by omega) (by have h9 : k7 ≠ z3_4.toInt.toNat := fun e9 => absurd he7 (by rw [e9]; assumption); exact ⟨k7, by omega, he7⟩) (by omega)
  exact lp2 (m1.toInt + 1).toNat.succ m1 (by omega) (by exact ⟨k8, by omega, he8⟩) (by omega)

set_option maxRecDepth 100000 in
set_option maxHeartbeats 2000000 in
theorem c_X11_goner (D : md_D h q) (v : Nat → Int32) (f : Nat → Nat → Int32) (hv : md_V v) (hf : md_F f) (x1 : Int32) (x2 : Int32) (p0 : 0 ≤ x1.toInt ∧ x1.toInt ≤ 160) (p1 : goB (v 7) (f 0) x1.toInt) : pm_Mt l g 260 1 0 0 [.ref h, .int x1, .int x2] (md A0 g h q v f) (md_Qp (md A0 g h q v f) (fun r => True)) := by
  refine mt_X11_goner rfl (fun J hC => ?_)
  have hv9 := hv
  unfold md_V at hv9
  have rg_x1 := pm_rng x1
  have rg_x2 := pm_rng x2
  refine hC.1 0 0 _ _ rfl _ _ _ _ _ ?_
  have km1 : (-1 : Int32).toInt = -1 := rfl
  have k0 : (0 : Int32).toInt = 0 := rfl
  have lp1 : ∀ (n : Nat) (z3_8 : Int32) (z4_8 : Int32) (z5_8 : Int32), (0 ≤ z5_8.toInt ∧ z5_8.toInt ≤ 24) → 200 - z5_8.toInt < (n : Int) → J 8 [some (.ref h), some (.int x1), some (.int x2), some (.int z3_8), some (.int z4_8), some (.int z5_8), none] [] (md A0 g h q v f) 0 0 := by
    intro n
    induction n with
    | zero =>
      intro z3_8 z4_8 z5_8 j0_8 j1_8
      omega
    | succ n ih2 =>
      intro z3_8 z4_8 z5_8 j0_8 j1_8
      refine hC.1 1 8 _ _ rfl _ _ _ _ _ ?_
      have k24 : (24 : Int32).toInt = 24 := rfl
      refine And.intro (fun c3 => ?_) (fun c3 => ?_)
      · skip
        refine hC.1 7 78 _ _ rfl _ _ _ _ _ ?_
        exact ⟨rfl, fun e9 => absurd e9 (by decide), rfl, z3_8, rfl, rfl, by first | trivial | omega | (dsimp only; omega)⟩
      · skip
        refine Exists.intro _ (And.intro md_o ?_)
        have k1 : (1 : Int32).toInt = 1 := rfl
        refine And.intro (fun c4 => ?_) (fun c4 => ?_)
        · skip
          have dc4 := pm_neI c4
          refine hC.1 2 30 _ _ rfl _ _ _ _ _ ?_
          refine And.intro (fun c5 => ?_) (fun c5 => ?_)
          · skip
            have dc5 := pm_neI c5
            refine hC.1 3 46 _ _ rfl _ _ _ _ _ ?_
            refine And.intro (Exists.intro _ md_o) (Exists.intro _ (Exists.intro _ (Exists.intro _ (Exists.intro _ (And.intro (c_X11_nextBehind D v f hv hf z5_8 x1 (by omega)) (And.intro rfl (fun r9 A9 h9 => ?_)))))))
            obtain ⟨y6, rfl, rfl, by6⟩ := h9
            refine hC.1 4 53 _ _ rfl _ _ _ _ _ ?_
            refine And.intro (fun c7 => ?_) (fun c7 => ?_)
            · skip
              refine hC.1 5 65 _ _ rfl _ _ _ _ _ ?_
              refine hC.1 6 72 _ _ rfl _ _ _ _ _ ?_
              intro m8 em_72
              try have e8 : m8.toInt = (z5_8).toInt + (1) := by rw [em_72]; exact pm_addc _ _ (1) rfl (by omega) (by omega)
              exact hC.2 [false, false, false, false, false, false, true] _ _ _ _ _ _ (ih2 z5_8 y6 m8 (by omega) (by omega))
            · skip
              refine hC.1 6 72 _ _ rfl _ _ _ _ _ ?_
              intro m9 em_72
              try have e9 : m9.toInt = (z5_8).toInt + (1) := by rw [em_72]; exact pm_addc _ _ (1) rfl (by omega) (by omega)
              exact hC.2 [false, false, false, false, false, false, true] _ _ _ _ _ _ (ih2 z3_8 z4_8 m9 (by omega) (by omega))
          · skip
            have dc5 : (x2).toInt = (0 : Int32).toInt := congrArg Int32.toInt c5
            refine And.intro (Exists.intro _ md_o) (Exists.intro _ (Exists.intro _ (Exists.intro _ (Exists.intro _ (And.intro (c_X11_lastAhead D v f hv hf z5_8 x1 (by exact p1 _ (by omega) (by assumption)) (by omega)) (And.intro rfl (fun r9 A9 h9 => ?_)))))))
            obtain ⟨y10, rfl, rfl, by10⟩ := h9
            intro m11 em_42
            try have e11 : m11.toInt = (x1).toInt - (y10).toInt := by rw [em_42]; exact pm_sub _ _ (by omega) (by omega)
            refine hC.1 4 53 _ _ rfl _ _ _ _ _ ?_
            refine And.intro (fun c12 => ?_) (fun c12 => ?_)
            · skip
              refine hC.1 5 65 _ _ rfl _ _ _ _ _ ?_
              refine hC.1 6 72 _ _ rfl _ _ _ _ _ ?_
              intro m13 em_72
              try have e13 : m13.toInt = (z5_8).toInt + (1) := by rw [em_72]; exact pm_addc _ _ (1) rfl (by omega) (by omega)
              exact hC.2 [false, false, false, false, false, false, true] _ _ _ _ _ _ (ih2 z5_8 m11 m13 (by omega) (by omega))
            · skip
              refine hC.1 6 72 _ _ rfl _ _ _ _ _ ?_
              intro m14 em_72
              try have e14 : m14.toInt = (z5_8).toInt + (1) := by rw [em_72]; exact pm_addc _ _ (1) rfl (by omega) (by omega)
              exact hC.2 [false, false, false, false, false, false, true] _ _ _ _ _ _ (ih2 z3_8 z4_8 m14 (by omega) (by omega))
        · skip
          have dc4 : ((((v 7) >>> (z5_8 &&& 31)) &&& (1 : Int32))).toInt = (0 : Int32).toInt := congrArg Int32.toInt c4
          refine hC.1 6 72 _ _ rfl _ _ _ _ _ ?_
          intro m15 em_72
          try have e15 : m15.toInt = (z5_8).toInt + (1) := by rw [em_72]; exact pm_addc _ _ (1) rfl (by omega) (by omega)
          exact ih2 z3_8 z4_8 m15 (by omega) (by omega)
  exact lp1 (200 - (0 : Int32).toInt).toNat.succ (-1 : Int32) (-1 : Int32) (0 : Int32) (by omega) (by omega)

set_option maxRecDepth 100000 in
set_option maxHeartbeats 2000000 in
theorem c_X11_just (D : md_D h q) (v : Nat → Int32) (f : Nat → Nat → Int32) (hv : md_V v) (hf : md_F f) (x1 : Int32)  : pm_Mt l g 264 1 0 0 [.ref h, .int x1] (md A0 g h q v f) (md_Qp (md A0 g h q v f) (fun r => True)) := by
  refine mt_X11_just rfl (fun J hC => ?_)
  have hv9 := hv
  unfold md_V at hv9
  have rg_x1 := pm_rng x1
  refine hC.1 0 0 _ _ rfl _ _ _ _ _ ?_
  have k0 : (0 : Int32).toInt = 0 := rfl
  have lp1 : ∀ (n : Nat) (z2_4 : Int32) (z3_4 : Int32), (0 ≤ z3_4.toInt ∧ z3_4.toInt ≤ (v 0).toInt) → 200 - z3_4.toInt < (n : Int) → J 4 [some (.ref h), some (.int x1), some (.int z2_4), some (.int z3_4), none, none] [] (md A0 g h q v f) 0 0 := by
    intro n
    induction n with
    | zero =>
      intro z2_4 z3_4 j0_4 j1_4
      omega
    | succ n ih2 =>
      intro z2_4 z3_4 j0_4 j1_4
      refine hC.1 1 4 _ _ rfl _ _ _ _ _ ?_
      refine Exists.intro _ (And.intro md_o ?_)
      refine And.intro (fun c3 => ?_) (fun c3 => ?_)
      · skip
        refine hC.1 6 70 _ _ rfl _ _ _ _ _ ?_
        exact ⟨rfl, fun e9 => absurd e9 (by decide), rfl, z2_4, rfl, rfl, by first | trivial | omega | (dsimp only; omega)⟩
      · skip
        have lp4 : ∀ (n : Nat) (z2_18 : Int32) (z4_18 : Int32) (z5_18 : Int32), (0 ≤ z5_18.toInt ∧ z5_18.toInt ≤ (v 0).toInt) → 200 - z5_18.toInt < (n : Int) → J 18 [some (.ref h), some (.int x1), some (.int z2_18), some (.int z3_4), some (.int z4_18), some (.int z5_18)] [] (md A0 g h q v f) 0 0 := by
          intro n
          induction n with
          | zero =>
            intro z2_18 z4_18 z5_18 j0_18 j1_18
            omega
          | succ n ih5 =>
            intro z2_18 z4_18 z5_18 j0_18 j1_18
            refine hC.1 2 18 _ _ rfl _ _ _ _ _ ?_
            refine Exists.intro _ (And.intro md_o ?_)
            refine And.intro (fun c6 => ?_) (fun c6 => ?_)
            · skip
              refine hC.1 5 64 _ _ rfl _ _ _ _ _ ?_
              have k1 : (1 : Int32).toInt = 1 := rfl
              intro m7 em_64
              try have e7 : m7.toInt = (z3_4).toInt + (1) := by rw [em_64]; exact pm_addc _ _ (1) rfl (by omega) (by omega)
              exact hC.2 [false, false, false, false, true, true] _ _ _ _ _ _ (ih2 z2_18 m7 (by omega) (by omega))
            · skip
              have k1 : (1 : Int32).toInt = 1 := rfl
              refine Exists.intro _ (And.intro md_o ?_)
              refine Exists.intro _ (Exists.intro _ (And.intro (Or.inl (md_a_colours D)) (And.intro (by omega) ?_)))
              have w8 : (0 : Int) ≤ (f 0 (z5_18).toInt.toNat).toInt ∧ (f 0 (z5_18).toInt.toNat).toInt ≤ (23 : Int) := hf 0 _
              refine Exists.intro _ (Exists.intro _ (Exists.intro _ (Exists.intro _ (And.intro (c_X11_bits (md A0 g h q v f) (z4_18 ||| ((1 : Int32) <<< ((f 0 (z5_18).toInt.toNat) &&& 31))) ) (And.intro rfl (fun r9 A9 h9 => ?_))))))
              obtain ⟨y9, rfl, rfl, by9⟩ := h9
              refine And.intro (fun c10 => ?_) (fun c10 => ?_)
              · skip
                have dc10 := pm_neI c10
                refine hC.1 3 55 _ _ rfl _ _ _ _ _ ?_
                refine hC.1 4 56 _ _ rfl _ _ _ _ _ ?_
                intro m11 em_56
                try have e11 : m11.toInt = (z2_18).toInt + (0) := by rw [em_56]; exact pm_addc _ _ (0) rfl (by omega) (by omega)
                intro m12 em_58
                try have e12 : m12.toInt = (z5_18).toInt + (1) := by rw [em_58]; exact pm_addc _ _ (1) rfl (by omega) (by omega)
                exact ih5 m11 (z4_18 ||| ((1 : Int32) <<< ((f 0 (z5_18).toInt.toNat) &&& 31))) m12 (by omega) (by omega)
              · skip
                have dc10 : (y9).toInt = (x1 : Int32).toInt := congrArg Int32.toInt c10
                refine hC.1 4 56 _ _ rfl _ _ _ _ _ ?_
                intro m13 em_56
                try have e13 : m13.toInt = (z2_18).toInt + (1) := by rw [em_56]; exact pm_addc _ _ (1) rfl (by omega) (by omega)
                intro m14 em_58
                try have e14 : m14.toInt = (z5_18).toInt + (1) := by rw [em_58]; exact pm_addc _ _ (1) rfl (by omega) (by omega)
                exact ih5 m13 (z4_18 ||| ((1 : Int32) <<< ((f 0 (z5_18).toInt.toNat) &&& 31))) m14 (by omega) (by omega)
        exact lp4 (200 - z3_4.toInt).toNat.succ z2_4 (0 : Int32) z3_4 (by omega) (by omega)
  exact lp1 (200 - (0 : Int32).toInt).toNat.succ (0 : Int32) (0 : Int32) (by omega) (by omega)

set_option maxRecDepth 100000 in
set_option maxHeartbeats 2000000 in
theorem c_X11_all (D : md_D h q) (v : Nat → Int32) (f : Nat → Nat → Int32) (hv : md_V v) (hf : md_F f)  : pm_Mt l g 265 1 0 0 [.ref h] (md A0 g h q v f) (md_Qj (md A0 g h q v f) (fun r => True)) := by
  refine mt_X11_all rfl (fun J hC => ?_)
  have hv9 := hv
  unfold md_V at hv9
  refine hC.1 0 0 _ _ rfl _ _ _ _ _ ?_
  have k0 : (0 : Int32).toInt = 0 := rfl
  have lp1 : ∀ (n : Nat) (z1_4 : Int64) (z3_4 : Int32), (0 ≤ z3_4.toInt ∧ z3_4.toInt ≤ (v 0).toInt) → 200 - z3_4.toInt < (n : Int) → J 4 [some (.ref h), some (.long z1_4), none, some (.int z3_4), none, none] [] (md A0 g h q v f) 0 0 := by
    intro n
    induction n with
    | zero =>
      intro z1_4 z3_4 j0_4 j1_4
      omega
    | succ n ih2 =>
      intro z1_4 z3_4 j0_4 j1_4
      refine hC.1 1 4 _ _ rfl _ _ _ _ _ ?_
      refine Exists.intro _ (And.intro md_o ?_)
      refine And.intro (fun c3 => ?_) (fun c3 => ?_)
      · skip
        refine hC.1 4 62 _ _ rfl _ _ _ _ _ ?_
        exact ⟨rfl, rfl, z1_4, rfl, rfl, by first | trivial | omega | (dsimp only; omega)⟩
      · skip
        have lp4 : ∀ (n : Nat) (z1_18 : Int64) (z4_18 : Int32) (z5_18 : Int32), (0 ≤ z5_18.toInt ∧ z5_18.toInt ≤ (v 0).toInt) → 200 - z5_18.toInt < (n : Int) → J 18 [some (.ref h), some (.long z1_18), none, some (.int z3_4), some (.int z4_18), some (.int z5_18)] [] (md A0 g h q v f) 0 0 := by
          intro n
          induction n with
          | zero =>
            intro z1_18 z4_18 z5_18 j0_18 j1_18
            omega
          | succ n ih5 =>
            intro z1_18 z4_18 z5_18 j0_18 j1_18
            refine hC.1 2 18 _ _ rfl _ _ _ _ _ ?_
            refine Exists.intro _ (And.intro md_o ?_)
            refine And.intro (fun c6 => ?_) (fun c6 => ?_)
            · skip
              refine hC.1 3 56 _ _ rfl _ _ _ _ _ ?_
              have k1 : (1 : Int32).toInt = 1 := rfl
              intro m7 em_56
              try have e7 : m7.toInt = (z3_4).toInt + (1) := by rw [em_56]; exact pm_addc _ _ (1) rfl (by omega) (by omega)
              exact hC.2 [false, false, false, false, true, true] _ _ _ _ _ _ (ih2 z1_18 m7 (by omega) (by omega))
            · skip
              have k1 : (1 : Int32).toInt = 1 := rfl
              refine Exists.intro _ (And.intro md_o ?_)
              refine Exists.intro _ (Exists.intro _ (And.intro (Or.inl (md_a_colours D)) (And.intro (by omega) ?_)))
              have w8 : (0 : Int) ≤ (f 0 (z5_18).toInt.toNat).toInt ∧ (f 0 (z5_18).toInt.toNat).toInt ≤ (23 : Int) := hf 0 _
              refine Exists.intro _ (Exists.intro _ (Exists.intro _ (Exists.intro _ (And.intro (c_X11_bits (md A0 g h q v f) (z4_18 ||| ((1 : Int32) <<< ((f 0 (z5_18).toInt.toNat) &&& 31))) ) (And.intro rfl (fun r9 A9 h9 => ?_))))))
              obtain ⟨y9, rfl, rfl, by9⟩ := h9
              intro m10 em_50
              try have e10 : m10.toInt = (z5_18).toInt + (1) := by rw [em_50]; exact pm_addc _ _ (1) rfl (by omega) (by omega)
              exact ih5 (z1_18 + (y9).toInt64) (z4_18 ||| ((1 : Int32) <<< ((f 0 (z5_18).toInt.toNat) &&& 31))) m10 (by omega) (by omega)
        exact lp4 (200 - z3_4.toInt).toNat.succ z1_4 (0 : Int32) z3_4 (by omega) (by omega)
  exact lp1 (200 - (0 : Int32).toInt).toNat.succ (Int64.ofNat 0) (0 : Int32) (by omega) (by omega)

set_option maxRecDepth 100000 in
set_option maxHeartbeats 2000000 in
theorem c_X11_sets (D : md_D h q) (v : Nat → Int32) (f : Nat → Nat → Int32) (hv : md_V v) (hf : md_F f) (x1 : Int32)  : pm_Mt l g 266 1 0 0 [.ref h, .int x1] (md A0 g h q v f) (md_Qp (md A0 g h q v f) (fun r => True)) := by
  refine mt_X11_sets rfl (fun J hC => ?_)
  have hv9 := hv
  unfold md_V at hv9
  have rg_x1 := pm_rng x1
  refine hC.1 0 0 _ _ rfl _ _ _ _ _ ?_
  have k1 : (1 : Int32).toInt = 1 := rfl
  refine Exists.intro _ (And.intro md_o ?_)
  refine Exists.intro _ (Exists.intro _ (Exists.intro _ (Exists.intro _ (And.intro (c_X11_isIn (md A0 g h q v f) x1 (1 : Int32) (v 0) ) (And.intro rfl (fun r9 A9 h9 => ?_))))))
  rcases h9 with ⟨y1, rfl, rfl, ⟨rfl, by1⟩ | ⟨rfl, by1⟩⟩
  · skip
    refine And.intro (fun _ => ?_) (fun c9 => absurd c9 (by decide))
    refine hC.1 1 14 _ _ rfl _ _ _ _ _ ?_
    have k0 : (0 : Int32).toInt = 0 := rfl
    have lp2 : ∀ (n : Nat) (z2_18 : Int32) (z3_18 : Int32), (0 ≤ z3_18.toInt ∧ z3_18.toInt ≤ 161) → 200 - z3_18.toInt < (n : Int) → J 18 [some (.ref h), some (.int x1), some (.int z2_18), some (.int z3_18), none, none] [] (md A0 g h q v f) 0 0 := by
      intro n
      induction n with
      | zero =>
        intro z2_18 z3_18 j0_18 j1_18
        omega
      | succ n ih3 =>
        intro z2_18 z3_18 j0_18 j1_18
        refine hC.1 2 18 _ _ rfl _ _ _ _ _ ?_
        intro m4 em_20
        try have e4 : m4.toInt = (z3_18).toInt + (x1).toInt := by rw [em_20]; exact pm_add _ _ (by omega) (by omega)
        refine Exists.intro _ (And.intro md_o ?_)
        refine And.intro (fun c5 => ?_) (fun c5 => ?_)
        · skip
          refine hC.1 9 102 _ _ rfl _ _ _ _ _ ?_
          exact ⟨rfl, fun e9 => absurd e9 (by decide), rfl, z2_18, rfl, rfl, by first | trivial | omega | (dsimp only; omega)⟩
        · skip
          have lp6 : ∀ (n : Nat) (z4_34 : Int32) (z5_34 : Int32), (0 ≤ z5_34.toInt ∧ z5_34.toInt ≤ z3_18.toInt) → 200 - z5_34.toInt < (n : Int) → J 34 [some (.ref h), some (.int x1), some (.int z2_18), some (.int z3_18), some (.int z4_34), some (.int z5_34)] [] (md A0 g h q v f) 0 0 := by
            intro n
            induction n with
            | zero =>
              intro z4_34 z5_34 j0_34 j1_34
              omega
            | succ n ih7 =>
              intro z4_34 z5_34 j0_34 j1_34
              refine hC.1 3 34 _ _ rfl _ _ _ _ _ ?_
              refine And.intro (fun c8 => ?_) (fun c8 => ?_)
              · skip
                refine hC.1 6 83 _ _ rfl _ _ _ _ _ ?_
                refine And.intro (fun c9 => ?_) (fun c9 => ?_)
                · skip
                  have dc9 : (z4_34).toInt = (0 : Int32).toInt := congrArg Int32.toInt c9
                  refine hC.1 7 93 _ _ rfl _ _ _ _ _ ?_
                  refine hC.1 8 94 _ _ rfl _ _ _ _ _ ?_
                  intro m10 em_94
                  try have e10 : m10.toInt = (z2_18).toInt + (0) := by rw [em_94]; exact pm_addc _ _ (0) rfl (by omega) (by omega)
                  intro m11 em_96
                  try have e11 : m11.toInt = (z3_18).toInt + (1) := by rw [em_96]; exact pm_addc _ _ (1) rfl (by omega) (by omega)
                  exact hC.2 [false, false, false, false, true, true] _ _ _ _ _ _ (ih3 m10 m11 (by omega) (by omega))
                · skip
                  have dc9 := pm_neI c9
                  refine hC.1 8 94 _ _ rfl _ _ _ _ _ ?_
                  intro m12 em_94
                  try have e12 : m12.toInt = (z2_18).toInt + (1) := by rw [em_94]; exact pm_addc _ _ (1) rfl (by omega) (by omega)
                  intro m13 em_96
                  try have e13 : m13.toInt = (z3_18).toInt + (1) := by rw [em_96]; exact pm_addc _ _ (1) rfl (by omega) (by omega)
                  exact hC.2 [false, false, false, false, true, true] _ _ _ _ _ _ (ih3 m12 m13 (by omega) (by omega))
              · skip
                refine And.intro (fun c14 => ?_) (fun c14 => ?_)
                · skip
                  have dc14 : (z4_34).toInt = (0 : Int32).toInt := congrArg Int32.toInt c14
                  refine hC.1 6 83 _ _ rfl _ _ _ _ _ ?_
                  refine And.intro (fun c15 => ?_) (fun c15 => ?_)
                  · skip
                    have dc15 : (z4_34).toInt = (0 : Int32).toInt := congrArg Int32.toInt c15
                    refine hC.1 7 93 _ _ rfl _ _ _ _ _ ?_
                    refine hC.1 8 94 _ _ rfl _ _ _ _ _ ?_
                    intro m16 em_94
                    try have e16 : m16.toInt = (z2_18).toInt + (0) := by rw [em_94]; exact pm_addc _ _ (0) rfl (by omega) (by omega)
                    intro m17 em_96
                    try have e17 : m17.toInt = (z3_18).toInt + (1) := by rw [em_96]; exact pm_addc _ _ (1) rfl (by omega) (by omega)
                    exact hC.2 [false, false, false, false, true, true] _ _ _ _ _ _ (ih3 m16 m17 (by omega) (by omega))
                  · skip
                    have dc15 := pm_neI c15
                    refine hC.1 8 94 _ _ rfl _ _ _ _ _ ?_
                    intro m18 em_94
                    try have e18 : m18.toInt = (z2_18).toInt + (1) := by rw [em_94]; exact pm_addc _ _ (1) rfl (by omega) (by omega)
                    intro m19 em_96
                    try have e19 : m19.toInt = (z3_18).toInt + (1) := by rw [em_96]; exact pm_addc _ _ (1) rfl (by omega) (by omega)
                    exact hC.2 [false, false, false, false, true, true] _ _ _ _ _ _ (ih3 m18 m19 (by omega) (by omega))
                · skip
                  have dc14 := pm_neI c14
                  intro m20 em_51
                  try have e20 : m20.toInt = (z5_34).toInt + (x1).toInt := by rw [em_51]; exact pm_add _ _ (by omega) (by omega)
                  intro m21 em_53
                  try have e21 : m21.toInt = (m20).toInt - (1) := by rw [em_53]; exact pm_subc _ _ (1) rfl (by omega) (by omega)
                  refine And.intro (Exists.intro _ md_o) (Exists.intro _ (Exists.intro _ (Exists.intro _ (Exists.intro _ (And.intro (c_X11_setOf D v f hv hf z5_34 m21 (by omega) (by omega)) (And.intro rfl (fun r9 A9 h9 => ?_)))))))
                  obtain ⟨y22, rfl, rfl, by22⟩ := h9
                  intro m23 em_61
                  try have e23 : m23.toInt = (z3_18).toInt + (x1).toInt := by rw [em_61]; exact pm_add _ _ (by omega) (by omega)
                  intro m24 em_63
                  try have e24 : m24.toInt = (m23).toInt - (1) := by rw [em_63]; exact pm_subc _ _ (1) rfl (by omega) (by omega)
                  refine And.intro (Exists.intro _ md_o) (Exists.intro _ (Exists.intro _ (Exists.intro _ (Exists.intro _ (And.intro (c_X11_setOf D v f hv hf z3_18 m24 (by omega) (by omega)) (And.intro rfl (fun r9 A9 h9 => ?_)))))))
                  obtain ⟨y25, rfl, rfl, by25⟩ := h9
                  refine And.intro (fun c26 => ?_) (fun c26 => ?_)
                  · skip
                    have dc26 : (y22).toInt = (y25 : Int32).toInt := congrArg Int32.toInt c26
                    refine hC.1 4 74 _ _ rfl _ _ _ _ _ ?_
                    refine hC.1 5 75 _ _ rfl _ _ _ _ _ ?_
                    intro m27 em_77
                    try have e27 : m27.toInt = (z5_34).toInt + (1) := by rw [em_77]; exact pm_addc _ _ (1) rfl (by omega) (by omega)
                    exact ih7 (0 : Int32) m27 (by omega) (by omega)
                  · skip
                    have dc26 := pm_neI c26
                    refine hC.1 5 75 _ _ rfl _ _ _ _ _ ?_
                    intro m28 em_77
                    try have e28 : m28.toInt = (z5_34).toInt + (1) := by rw [em_77]; exact pm_addc _ _ (1) rfl (by omega) (by omega)
                    exact ih7 (1 : Int32) m28 (by omega) (by omega)
          exact lp6 (200 - (0 : Int32).toInt).toNat.succ (1 : Int32) (0 : Int32) (by omega) (by omega)
    exact lp2 (200 - (0 : Int32).toInt).toNat.succ (0 : Int32) (0 : Int32) (by omega) (by omega)
  · skip
    have k0 : (0 : Int32).toInt = 0 := rfl
    refine And.intro (fun c9 => absurd c9 (by decide)) (fun _ => ?_)
    exact ⟨rfl, fun e9 => absurd e9 (by decide), rfl, (0 : Int32), rfl, rfl, by first | trivial | omega | (dsimp only; omega)⟩

end
