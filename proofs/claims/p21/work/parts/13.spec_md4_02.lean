section
variable {l : Launch} {g : pm_G} {A0 : pm_H} {h : Nat} {q : Nat → Nat}
set_option maxRecDepth 100000 in
set_option maxHeartbeats 2000000 in
theorem c_X11_haveAll (D : md_D h q) (v : Nat → Int32) (f : Nat → Nat → Int32) (hv : md_V v) (hf : md_F f) (x1 : Int32) (x2 : Int32) (x3 : Int32) (x4 : Int32) (p0 : 0 ≤ x1.toInt ∧ x2.toInt < 160 ∧ x1.toInt ≤ 160 ∧ -1 ≤ x2.toInt) (p1 : 1 ≤ x3.toInt ∧ x3.toInt ≤ 160) : pm_Mt l g 241 1 0 0 [.ref h, .int x1, .int x2, .int x3, .int x4] (md A0 g h q v f) (md_Qp (md A0 g h q v f) (fun r => (r = 1 ∧ (True)) ∨ (r = 0 ∧ (∃ p9 : Int, x1.toInt ≤ p9 ∧ p9 + x3.toInt - 1 ≤ x2.toInt ∧ ¬ setF (f 0) p9.toNat x3.toInt.toNat = x4)))) := by
  refine mt_X11_haveAll rfl (fun J hC => ?_)
  have hv9 := hv
  unfold md_V at hv9
  have rg_x1 := pm_rng x1
  have rg_x2 := pm_rng x2
  have rg_x3 := pm_rng x3
  have rg_x4 := pm_rng x4
  refine hC.1 0 0 _ _ rfl _ _ _ _ _ ?_
  have lp1 : ∀ (n : Nat) (z5_3 : Int32), (x1.toInt ≤ z5_3.toInt ∧ z5_3.toInt ≤ 161) → 200 - z5_3.toInt < (n : Int) → J 3 [some (.ref h), some (.int x1), some (.int x2), some (.int x3), some (.int x4), some (.int z5_3)] [] (md A0 g h q v f) 0 0 := by
    intro n
    induction n with
    | zero =>
      intro z5_3 j0_3 j1_3
      omega
    | succ n ih2 =>
      intro z5_3 j0_3 j1_3
      refine hC.1 1 3 _ _ rfl _ _ _ _ _ ?_
      intro m3 em_6
      try have e3 : m3.toInt = (z5_3).toInt + (x3).toInt := by rw [em_6]; exact pm_add _ _ (by omega) (by omega)
      have k1 : (1 : Int32).toInt = 1 := rfl
      intro m4 em_8
      try have e4 : m4.toInt = (m3).toInt - (1) := by rw [em_8]; exact pm_subc _ _ (1) rfl (by omega) (by omega)
      refine And.intro (fun c5 => ?_) (fun c5 => ?_)
      · skip
        refine hC.1 3 38 _ _ rfl _ _ _ _ _ ?_
        exact ⟨rfl, fun _ => (by decide), rfl, (1 : Int32), rfl, rfl, Or.inl ⟨rfl, by trivial⟩⟩
      · skip
        intro m6 em_19
        try have e6 : m6.toInt = (z5_3).toInt + (x3).toInt := by rw [em_19]; exact pm_add _ _ (by omega) (by omega)
        intro m7 em_21
        try have e7 : m7.toInt = (m6).toInt - (1) := by rw [em_21]; exact pm_subc _ _ (1) rfl (by omega) (by omega)
        refine And.intro (Exists.intro _ md_o) (Exists.intro _ (Exists.intro _ (Exists.intro _ (Exists.intro _ (And.intro (c_X11_setOf D v f hv hf z5_3 m7 (by omega) (by omega)) (And.intro rfl (fun r9 A9 h9 => ?_)))))))
        obtain ⟨y8, rfl, rfl, by8⟩ := h9
        have hs9 : y8 = setF (f 0) z5_3.toInt.toNat x3.toInt.toNat := by8.trans (congrArg _ (by omega))
        refine And.intro (fun c9 => ?_) (fun c9 => ?_)
        · skip
          have dc9 : (y8).toInt = (x4 : Int32).toInt := congrArg Int32.toInt c9
          refine hC.1 2 32 _ _ rfl _ _ _ _ _ ?_
          intro m10 em_32
          try have e10 : m10.toInt = (z5_3).toInt + (1) := by rw [em_32]; exact pm_addc _ _ (1) rfl (by omega) (by omega)
          exact ih2 m10 (by omega) (by omega)
        · skip
          have dc9 := pm_neI c9
          have k0 : (0 : Int32).toInt = 0 := rfl
          exact ⟨rfl, fun _ => (by decide), rfl, (0 : Int32), rfl, rfl, Or.inr ⟨rfl, by exact ⟨z5_3.toInt, by omega, by omega, fun e9 => absurd (hs9.trans e9) (by assumption)⟩⟩⟩
  exact lp1 (200 - x1.toInt).toNat.succ x1 (by omega) (by omega)

set_option maxRecDepth 100000 in
set_option maxHeartbeats 2000000 in
theorem c_X11_cover (D : md_D h q) (v : Nat → Int32) (f : Nat → Nat → Int32) (hv : md_V v) (hf : md_F f) (x1 : Int32) (x2 : Int32)  : pm_Mt l g 240 2 0 0 [.ref h, .int x1, .int x2] (md A0 g h q v f) (md_Qp (md A0 g h q v f) (fun r => True)) := by
  refine mt_X11_cover rfl (fun J hC => ?_)
  have hv9 := hv
  unfold md_V at hv9
  have rg_x1 := pm_rng x1
  have rg_x2 := pm_rng x2
  refine hC.1 0 0 _ _ rfl _ _ _ _ _ ?_
  refine And.intro (Exists.intro _ md_o) (Exists.intro _ (Exists.intro _ (Exists.intro _ (Exists.intro _ (And.intro (c_X11_isSpan D v f hv hf x1 x2 ) (And.intro rfl (fun r9 A9 h9 => ?_)))))))
  rcases h9 with ⟨y1, rfl, rfl, ⟨rfl, by1⟩ | ⟨rfl, by1⟩⟩
  · skip
    have k1 : (1 : Int32).toInt = 1 := rfl
    refine And.intro (fun _ => ?_) (fun c9 => absurd c9 (by decide))
    refine hC.1 1 11 _ _ rfl _ _ _ _ _ ?_
    refine And.intro (Exists.intro _ md_o) (Exists.intro _ (Exists.intro _ (Exists.intro _ (Exists.intro _ (And.intro (c_X11_setOf D v f hv hf x1 x2 (by omega) (by omega)) (And.intro rfl (fun r9 A9 h9 => ?_)))))))
    obtain ⟨y2, rfl, rfl, by2⟩ := h9
    have ha9 := by2
    have lp3 : ∀ (n : Nat) (z4_21 : Int32), (1 ≤ z4_21.toInt ∧ z4_21.toInt ≤ x2.toInt + 1 - x1.toInt) → 200 - z4_21.toInt < (n : Int) → J 21 [some (.ref h), some (.int x1), some (.int x2), some (.int y2), some (.int z4_21)] [] (md A0 g h q v f) 0 0 := by
      intro n
      induction n with
      | zero =>
        intro z4_21 j0_21 j1_21
        omega
      | succ n ih4 =>
        intro z4_21 j0_21 j1_21
        refine hC.1 2 21 _ _ rfl _ _ _ _ _ ?_
        refine And.intro (Exists.intro _ md_o) (Exists.intro _ (Exists.intro _ (Exists.intro _ (Exists.intro _ (And.intro (c_X11_haveAll D v f hv hf x1 x2 z4_21 y2 (by omega) (by omega)) (And.intro rfl (fun r9 A9 h9 => ?_)))))))
        rcases h9 with ⟨y5, rfl, rfl, ⟨rfl, by5⟩ | ⟨rfl, by5⟩⟩
        · skip
          refine And.intro (fun _ => ?_) (fun c9 => absurd c9 (by decide))
          refine hC.1 3 39 _ _ rfl _ _ _ _ _ ?_
          exact ⟨rfl, fun e9 => absurd e9 (by decide), rfl, z4_21, rfl, rfl, by first | trivial | omega | (dsimp only; omega)⟩
        · skip
          have k0 : (0 : Int32).toInt = 0 := rfl
          obtain ⟨p9, h91, h92, h93⟩ := by5
          have hn9 : ¬ z4_21.toInt = x2.toInt + 1 - x1.toInt := fun e9 => h93 (by rw [show p9 = x1.toInt by omega, e9]; exact ha9.symm)
          refine And.intro (fun c9 => absurd c9 (by decide)) (fun _ => ?_)
          intro m6 em_33
          try have e6 : m6.toInt = (z4_21).toInt + (1) := by rw [em_33]; exact pm_addc _ _ (1) rfl (by omega) (by omega)
          exact ih4 m6 (by omega) (by omega)
    exact lp3 (200 - (1 : Int32).toInt).toNat.succ (1 : Int32) (by omega) (by omega)
  · skip
    have k0 : (0 : Int32).toInt = 0 := rfl
    refine And.intro (fun c9 => absurd c9 (by decide)) (fun _ => ?_)
    have km1 : (-1 : Int32).toInt = -1 := rfl
    exact ⟨rfl, fun e9 => absurd e9 (by decide), rfl, (-1 : Int32), rfl, rfl, by first | trivial | omega | (dsimp only; omega)⟩

set_option maxRecDepth 100000 in
set_option maxHeartbeats 2000000 in
theorem c_X11_fair (D : md_D h q) (v : Nat → Int32) (f : Nat → Nat → Int32) (hv : md_V v) (hf : md_F f) (x1 : Int32) (x2 : Int32) (x3 : Int32)  : pm_Mt l g 243 1 0 0 [.ref h, .int x1, .int x2, .int x3] (md A0 g h q v f) (md_Qp (md A0 g h q v f) (fun r => True)) := by
  refine mt_X11_fair rfl (fun J hC => ?_)
  have hv9 := hv
  unfold md_V at hv9
  have rg_x1 := pm_rng x1
  have rg_x2 := pm_rng x2
  have rg_x3 := pm_rng x3
  refine hC.1 0 0 _ _ rfl _ _ _ _ _ ?_
  refine And.intro (Exists.intro _ md_o) (Exists.intro _ (Exists.intro _ (Exists.intro _ (Exists.intro _ (And.intro (c_X11_isSpan D v f hv hf x1 x2 ) (And.intro rfl (fun r9 A9 h9 => ?_)))))))
  rcases h9 with ⟨y1, rfl, rfl, ⟨rfl, by1⟩ | ⟨rfl, by1⟩⟩
  · skip
    have k1 : (1 : Int32).toInt = 1 := rfl
    refine And.intro (fun c9 => absurd c9 (by decide)) (fun _ => ?_)
    refine And.intro (fun c2 => ?_) (fun c2 => ?_)
    · skip
      refine hC.1 2 16 _ _ rfl _ _ _ _ _ ?_
      have k0 : (0 : Int32).toInt = 0 := rfl
      have lp3 : ∀ (n : Nat) (z4_22 : Int32) (z5_22 : Int32), (0 ≤ z5_22.toInt ∧ z5_22.toInt ≤ 24) → 200 - z5_22.toInt < (n : Int) → J 22 [some (.ref h), some (.int x1), some (.int x2), some (.int x3), some (.int z4_22), some (.int z5_22)] [] (md A0 g h q v f) 0 0 := by
        intro n
        induction n with
        | zero =>
          intro z4_22 z5_22 j0_22 j1_22
          omega
        | succ n ih4 =>
          intro z4_22 z5_22 j0_22 j1_22
          refine hC.1 3 22 _ _ rfl _ _ _ _ _ ?_
          have k24 : (24 : Int32).toInt = 24 := rfl
          refine And.intro (fun c5 => ?_) (fun c5 => ?_)
          · skip
            refine hC.1 6 70 _ _ rfl _ _ _ _ _ ?_
            exact ⟨rfl, fun e9 => absurd e9 (by decide), rfl, z4_22, rfl, rfl, by first | trivial | omega | (dsimp only; omega)⟩
          · skip
            refine And.intro (Exists.intro _ md_o) (Exists.intro _ (Exists.intro _ (Exists.intro _ (Exists.intro _ (And.intro (c_X11_timesIn D v f hv hf x1 x2 z5_22 (by omega) (by omega)) (And.intro rfl (fun r9 A9 h9 => ?_)))))))
            obtain ⟨y6, rfl, rfl, by6⟩ := h9
            intro m7 em_45
            try have e7 : m7.toInt = (x2).toInt - (x1).toInt := by rw [em_45]; exact pm_sub _ _ (by omega) (by omega)
            intro m8 em_47
            try have e8 : m8.toInt = (m7).toInt + (1) := by rw [em_47]; exact pm_addc _ _ (1) rfl (by omega) (by omega)
            refine And.intro (fun c9 => ?_) (fun c9 => ?_)
            · skip
              refine hC.1 4 60 _ _ rfl _ _ _ _ _ ?_
              refine hC.1 5 61 _ _ rfl _ _ _ _ _ ?_
              intro m10 em_64
              try have e10 : m10.toInt = (z5_22).toInt + (1) := by rw [em_64]; exact pm_addc _ _ (1) rfl (by omega) (by omega)
              exact ih4 (z4_22 ||| (0 : Int32)) m10 (by omega) (by omega)
            · skip
              refine hC.1 5 61 _ _ rfl _ _ _ _ _ ?_
              intro m11 em_64
              try have e11 : m11.toInt = (z5_22).toInt + (1) := by rw [em_64]; exact pm_addc _ _ (1) rfl (by omega) (by omega)
              exact ih4 (z4_22 ||| ((1 : Int32) <<< (z5_22 &&& 31))) m11 (by omega) (by omega)
      exact lp3 (200 - (0 : Int32).toInt).toNat.succ (0 : Int32) (0 : Int32) (by omega) (by omega)
    · skip
      refine hC.1 1 14 _ _ rfl _ _ _ _ _ ?_
      have km1 : (-1 : Int32).toInt = -1 := rfl
      exact ⟨rfl, fun e9 => absurd e9 (by decide), rfl, (-1 : Int32), rfl, rfl, by first | trivial | omega | (dsimp only; omega)⟩
  · skip
    have k0 : (0 : Int32).toInt = 0 := rfl
    refine And.intro (fun _ => ?_) (fun c9 => absurd c9 (by decide))
    refine hC.1 1 14 _ _ rfl _ _ _ _ _ ?_
    have km1 : (-1 : Int32).toInt = -1 := rfl
    exact ⟨rfl, fun e9 => absurd e9 (by decide), rfl, (-1 : Int32), rfl, rfl, by first | trivial | omega | (dsimp only; omega)⟩

set_option maxRecDepth 100000 in
set_option maxHeartbeats 2000000 in
theorem c_X11_alike (D : md_D h q) (v : Nat → Int32) (f : Nat → Nat → Int32) (hv : md_V v) (hf : md_F f) (x1 : Int32) (x2 : Int32)  : pm_Mt l g 244 1 0 0 [.ref h, .int x1, .int x2] (md A0 g h q v f) (md_Qp (md A0 g h q v f) (fun r => True)) := by
  refine mt_X11_alike rfl (fun J hC => ?_)
  have hv9 := hv
  unfold md_V at hv9
  have rg_x1 := pm_rng x1
  have rg_x2 := pm_rng x2
  refine hC.1 0 0 _ _ rfl _ _ _ _ _ ?_
  refine And.intro (Exists.intro _ md_o) (Exists.intro _ (Exists.intro _ (Exists.intro _ (Exists.intro _ (And.intro (c_X11_isSpan D v f hv hf x1 x2 ) (And.intro rfl (fun r9 A9 h9 => ?_)))))))
  rcases h9 with ⟨y1, rfl, rfl, ⟨rfl, by1⟩ | ⟨rfl, by1⟩⟩
  · skip
    have k1 : (1 : Int32).toInt = 1 := rfl
    refine And.intro (fun _ => ?_) (fun c9 => absurd c9 (by decide))
    refine hC.1 1 11 _ _ rfl _ _ _ _ _ ?_
    have k0 : (0 : Int32).toInt = 0 := rfl
    have lp2 : ∀ (n : Nat) (z3_16 : Int32) (z4_16 : Int32), (x1.toInt ≤ z4_16.toInt ∧ z4_16.toInt ≤ x2.toInt + 1) → 200 - z4_16.toInt < (n : Int) → J 16 [some (.ref h), some (.int x1), some (.int x2), some (.int z3_16), some (.int z4_16)] [] (md A0 g h q v f) 0 0 := by
      intro n
      induction n with
      | zero =>
        intro z3_16 z4_16 j0_16 j1_16
        omega
      | succ n ih3 =>
        intro z3_16 z4_16 j0_16 j1_16
        refine hC.1 2 16 _ _ rfl _ _ _ _ _ ?_
        refine And.intro (fun c4 => ?_) (fun c4 => ?_)
        · skip
          refine hC.1 3 47 _ _ rfl _ _ _ _ _ ?_
          exact ⟨rfl, fun e9 => absurd e9 (by decide), rfl, z3_16, rfl, rfl, by first | trivial | omega | (dsimp only; omega)⟩
        · skip
          intro m5 em_28
          try have e5 : m5.toInt = (z4_16).toInt - (1) := by rw [em_28]; exact pm_subc _ _ (1) rfl (by omega) (by omega)
          refine Exists.intro _ (And.intro md_o ?_)
          refine Exists.intro _ (Exists.intro _ (And.intro (Or.inl (md_a_colours D)) (And.intro (by omega) ?_)))
          have w6 : (0 : Int) ≤ (f 0 (z4_16).toInt.toNat).toInt ∧ (f 0 (z4_16).toInt.toNat).toInt ≤ (23 : Int) := hf 0 _
          refine And.intro (Exists.intro _ md_o) (Exists.intro _ (Exists.intro _ (Exists.intro _ (Exists.intro _ (And.intro (c_X11_timesIn D v f hv hf x1 m5 (f 0 (z4_16).toInt.toNat) (by omega) (by omega)) (And.intro rfl (fun r9 A9 h9 => ?_)))))))
          obtain ⟨y7, rfl, rfl, by7⟩ := h9
          intro m8 em_39
          try have e8 : m8.toInt = (z3_16).toInt + (y7).toInt := by rw [em_39]; exact pm_add _ _ (by omega) (by omega)
          intro m9 em_41
          try have e9 : m9.toInt = (z4_16).toInt + (1) := by rw [em_41]; exact pm_addc _ _ (1) rfl (by omega) (by omega)
          exact ih3 m8 m9 (by omega) (by omega)
    exact lp2 (200 - x1.toInt).toNat.succ (0 : Int32) x1 (by omega) (by omega)
  · skip
    have k0 : (0 : Int32).toInt = 0 := rfl
    refine And.intro (fun c9 => absurd c9 (by decide)) (fun _ => ?_)
    have km1 : (-1 : Int32).toInt = -1 := rfl
    exact ⟨rfl, fun e9 => absurd e9 (by decide), rfl, (-1 : Int32), rfl, rfl, by first | trivial | omega | (dsimp only; omega)⟩

set_option maxRecDepth 100000 in
set_option maxHeartbeats 2000000 in
theorem c_X11_even (D : md_D h q) (v : Nat → Int32) (f : Nat → Nat → Int32) (hv : md_V v) (hf : md_F f) (x1 : Int32) (x2 : Int32)  : pm_Mt l g 245 2 0 0 [.ref h, .int x1, .int x2] (md A0 g h q v f) (md_Qp (md A0 g h q v f) (fun r => True)) := by
  refine mt_X11_even rfl (fun J hC => ?_)
  have hv9 := hv
  unfold md_V at hv9
  have rg_x1 := pm_rng x1
  have rg_x2 := pm_rng x2
  refine hC.1 0 0 _ _ rfl _ _ _ _ _ ?_
  refine And.intro (Exists.intro _ md_o) (Exists.intro _ (Exists.intro _ (Exists.intro _ (Exists.intro _ (And.intro (c_X11_isSpan D v f hv hf x1 x2 ) (And.intro rfl (fun r9 A9 h9 => ?_)))))))
  rcases h9 with ⟨y1, rfl, rfl, ⟨rfl, by1⟩ | ⟨rfl, by1⟩⟩
  · skip
    have k1 : (1 : Int32).toInt = 1 := rfl
    refine And.intro (fun _ => ?_) (fun c9 => absurd c9 (by decide))
    refine hC.1 1 11 _ _ rfl _ _ _ _ _ ?_
    have km1 : (-1 : Int32).toInt = -1 := rfl
    have k268435456 : (268435456 : Int32).toInt = 268435456 := rfl
    have lp2 : ∀ (n : Nat) (z3_20 : Int32) (z4_20 : Int32) (z5_20 : Int32), (x1.toInt ≤ z5_20.toInt ∧ z5_20.toInt ≤ x2.toInt) → 200 - z5_20.toInt < (n : Int) → J 20 [some (.ref h), some (.int x1), some (.int x2), some (.int z3_20), some (.int z4_20), some (.int z5_20), none, none] [] (md A0 g h q v f) 0 0 := by
      intro n
      induction n with
      | zero =>
        intro z3_20 z4_20 z5_20 j0_20 j1_20
        omega
      | succ n ih3 =>
        intro z3_20 z4_20 z5_20 j0_20 j1_20
        refine hC.1 2 20 _ _ rfl _ _ _ _ _ ?_
        refine And.intro (fun c4 => ?_) (fun c4 => ?_)
        · skip
          refine hC.1 7 83 _ _ rfl _ _ _ _ _ ?_
          exact ⟨rfl, fun e9 => absurd e9 (by decide), rfl, z3_20, rfl, rfl, by first | trivial | omega | (dsimp only; omega)⟩
        · skip
          refine And.intro (Exists.intro _ md_o) (Exists.intro _ (Exists.intro _ (Exists.intro _ (Exists.intro _ (And.intro (c_X11_countOf D v f hv hf x1 z5_20 (by omega) (by omega)) (And.intro rfl (fun r9 A9 h9 => ?_)))))))
          obtain ⟨y5, rfl, rfl, by5⟩ := h9
          intro m6 em_37
          try have e6 : m6.toInt = (z5_20).toInt + (1) := by rw [em_37]; exact pm_addc _ _ (1) rfl (by omega) (by omega)
          refine And.intro (Exists.intro _ md_o) (Exists.intro _ (Exists.intro _ (Exists.intro _ (Exists.intro _ (And.intro (c_X11_countOf D v f hv hf m6 x2 (by omega) (by omega)) (And.intro rfl (fun r9 A9 h9 => ?_)))))))
          obtain ⟨y7, rfl, rfl, by7⟩ := h9
          intro m8 em_42
          try have e8 : m8.toInt = (y5).toInt - (y7).toInt := by rw [em_42]; exact pm_sub _ _ (by omega) (by omega)
          refine And.intro (fun c9 => ?_) (fun c9 => ?_)
          · skip
            refine hC.1 3 56 _ _ rfl _ _ _ _ _ ?_
            refine hC.1 4 58 _ _ rfl _ _ _ _ _ ?_
            refine And.intro (fun c10 => ?_) (fun c10 => ?_)
            · skip
              refine hC.1 5 70 _ _ rfl _ _ _ _ _ ?_
              refine hC.1 6 77 _ _ rfl _ _ _ _ _ ?_
              intro m11 em_77
              try have e11 : m11.toInt = (z5_20).toInt + (1) := by rw [em_77]; exact pm_addc _ _ (1) rfl (by omega) (by omega)
              exact hC.2 [false, false, false, false, false, false, true, true] _ _ _ _ _ _ (ih3 z5_20 m8 m11 (by omega) (by omega))
            · skip
              refine hC.1 6 77 _ _ rfl _ _ _ _ _ ?_
              intro m12 em_77
              try have e12 : m12.toInt = (z5_20).toInt + (1) := by rw [em_77]; exact pm_addc _ _ (1) rfl (by omega) (by omega)
              exact hC.2 [false, false, false, false, false, false, true, true] _ _ _ _ _ _ (ih3 z3_20 z4_20 m12 (by omega) (by omega))
          · skip
            intro m13 em_52
            refine hC.1 4 58 _ _ rfl _ _ _ _ _ ?_
            refine And.intro (fun c14 => ?_) (fun c14 => ?_)
            · skip
              refine hC.1 5 70 _ _ rfl _ _ _ _ _ ?_
              refine hC.1 6 77 _ _ rfl _ _ _ _ _ ?_
              intro m15 em_77
              try have e15 : m15.toInt = (z5_20).toInt + (1) := by rw [em_77]; exact pm_addc _ _ (1) rfl (by omega) (by omega)
              exact hC.2 [false, false, false, false, false, false, true, true] _ _ _ _ _ _ (ih3 z5_20 m13 m15 (by omega) (by omega))
            · skip
              refine hC.1 6 77 _ _ rfl _ _ _ _ _ ?_
              intro m16 em_77
              try have e16 : m16.toInt = (z5_20).toInt + (1) := by rw [em_77]; exact pm_addc _ _ (1) rfl (by omega) (by omega)
              exact hC.2 [false, false, false, false, false, false, true, true] _ _ _ _ _ _ (ih3 z3_20 z4_20 m16 (by omega) (by omega))
    exact lp2 (200 - x1.toInt).toNat.succ (-1 : Int32) (268435456 : Int32) x1 (by omega) (by omega)
  · skip
    have k0 : (0 : Int32).toInt = 0 := rfl
    refine And.intro (fun c9 => absurd c9 (by decide)) (fun _ => ?_)
    have km1 : (-1 : Int32).toInt = -1 := rfl
    exact ⟨rfl, fun e9 => absurd e9 (by decide), rfl, (-1 : Int32), rfl, rfl, by first | trivial | omega | (dsimp only; omega)⟩

set_option maxRecDepth 100000 in
set_option maxHeartbeats 2000000 in
theorem c_X11_nextBehind (D : md_D h q) (v : Nat → Int32) (f : Nat → Nat → Int32) (hv : md_V v) (hf : md_F f) (x1 : Int32) (x2 : Int32) (p0 : 0 ≤ x2.toInt ∧ x2.toInt ≤ 160) : pm_Mt l g 247 0 0 0 [.ref h, .int x1, .int x2] (md A0 g h q v f) (md_Qp (md A0 g h q v f) (fun r => True)) := by
  refine mt_X11_nextBehind rfl (fun J hC => ?_)
  have hv9 := hv
  unfold md_V at hv9
  have rg_x1 := pm_rng x1
  have rg_x2 := pm_rng x2
  refine hC.1 0 0 _ _ rfl _ _ _ _ _ ?_
  have k1 : (1 : Int32).toInt = 1 := rfl
  intro m1 em_2
  try have e1 : m1.toInt = (x2).toInt + (1) := by rw [em_2]; exact pm_addc _ _ (1) rfl (by omega) (by omega)
  have lp2 : ∀ (n : Nat) (z3_4 : Int32), (0 ≤ z3_4.toInt ∧ z3_4.toInt ≤ 161) → 200 - z3_4.toInt < (n : Int) → J 4 [some (.ref h), some (.int x1), some (.int x2), some (.int z3_4)] [] (md A0 g h q v f) 0 0 := by
    intro n
    induction n with
    | zero =>
      intro z3_4 j0_4 j1_4
      omega
    | succ n ih3 =>
      intro z3_4 j0_4 j1_4
      refine hC.1 1 4 _ _ rfl _ _ _ _ _ ?_
      refine Exists.intro _ (And.intro md_o ?_)
      refine And.intro (fun c4 => ?_) (fun c4 => ?_)
      · skip
        refine hC.1 3 30 _ _ rfl _ _ _ _ _ ?_
        have k268435456 : (268435456 : Int32).toInt = 268435456 := rfl
        exact ⟨rfl, fun e9 => absurd e9 (by decide), rfl, (268435456 : Int32), rfl, rfl, by first | trivial | omega | (dsimp only; omega)⟩
      · skip
        refine Exists.intro _ (And.intro md_o ?_)
        refine Exists.intro _ (Exists.intro _ (And.intro (Or.inl (md_a_colours D)) (And.intro (by omega) ?_)))
        have w5 : (0 : Int) ≤ (f 0 (z3_4).toInt.toNat).toInt ∧ (f 0 (z3_4).toInt.toNat).toInt ≤ (23 : Int) := hf 0 _
        refine And.intro (fun c6 => ?_) (fun c6 => ?_)
        · skip
          have dc6 := pm_neI c6
          refine hC.1 2 24 _ _ rfl _ _ _ _ _ ?_
          intro m7 em_24
          try have e7 : m7.toInt = (z3_4).toInt + (1) := by rw [em_24]; exact pm_addc _ _ (1) rfl (by omega) (by omega)
          exact ih3 m7 (by omega) (by omega)
        · skip
          have dc6 : ((f 0 (z3_4).toInt.toNat)).toInt = (x1 : Int32).toInt := congrArg Int32.toInt c6
          exact ⟨rfl, fun e9 => absurd e9 (by decide), rfl, z3_4, rfl, rfl, by first | trivial | omega | (dsimp only; omega)⟩
  exact lp2 (200 - m1.toInt).toNat.succ m1 (by omega) (by omega)

set_option maxRecDepth 100000 in
set_option maxHeartbeats 2000000 in
theorem c_X11_apart (D : md_D h q) (v : Nat → Int32) (f : Nat → Nat → Int32) (hv : md_V v) (hf : md_F f) (x1 : Int32) (x2 : Int32) (x3 : Int32)  : pm_Mt l g 246 2 0 0 [.ref h, .int x1, .int x2, .int x3] (md A0 g h q v f) (md_Qp (md A0 g h q v f) (fun r => True)) := by
  refine mt_X11_apart rfl (fun J hC => ?_)
  have hv9 := hv
  unfold md_V at hv9
  have rg_x1 := pm_rng x1
  have rg_x2 := pm_rng x2
  have rg_x3 := pm_rng x3
  refine hC.1 0 0 _ _ rfl _ _ _ _ _ ?_
  refine Exists.intro _ (Exists.intro _ (Exists.intro _ (Exists.intro _ (And.intro (c_X11_isColour (md A0 g h q v f) x1 ) (And.intro rfl (fun r9 A9 h9 => ?_))))))
  rcases h9 with ⟨y1, rfl, rfl, ⟨rfl, by1⟩ | ⟨rfl, by1⟩⟩
  · skip
    have k1 : (1 : Int32).toInt = 1 := rfl
    refine And.intro (fun c9 => absurd c9 (by decide)) (fun _ => ?_)
    refine Exists.intro _ (Exists.intro _ (Exists.intro _ (Exists.intro _ (And.intro (c_X11_isColour (md A0 g h q v f) x2 ) (And.intro rfl (fun r9 A9 h9 => ?_))))))
    rcases h9 with ⟨y2, rfl, rfl, ⟨rfl, by2⟩ | ⟨rfl, by2⟩⟩
    · skip
      refine And.intro (fun c9 => absurd c9 (by decide)) (fun _ => ?_)
      refine And.intro (fun c3 => ?_) (fun c3 => ?_)
      · skip
        have dc3 : (x1).toInt = (x2 : Int32).toInt := congrArg Int32.toInt c3
        refine hC.1 1 28 _ _ rfl _ _ _ _ _ ?_
        have km1 : (-1 : Int32).toInt = -1 := rfl
        exact ⟨rfl, fun e9 => absurd e9 (by decide), rfl, (-1 : Int32), rfl, rfl, by first | trivial | omega | (dsimp only; omega)⟩
      · skip
        have dc3 := pm_neI c3
        have k0 : (0 : Int32).toInt = 0 := rfl
        refine Exists.intro _ (Exists.intro _ (Exists.intro _ (Exists.intro _ (And.intro (c_X11_isIn (md A0 g h q v f) x3 (0 : Int32) (1 : Int32) ) (And.intro rfl (fun r9 A9 h9 => ?_))))))
        rcases h9 with ⟨y4, rfl, rfl, ⟨rfl, by4⟩ | ⟨rfl, by4⟩⟩
        · skip
          refine And.intro (fun _ => ?_) (fun c9 => absurd c9 (by decide))
          refine hC.1 2 30 _ _ rfl _ _ _ _ _ ?_
          have km1 : (-1 : Int32).toInt = -1 := rfl
          have k268435456 : (268435456 : Int32).toInt = 268435456 := rfl
          have lp5 : ∀ (n : Nat) (z4_40 : Int32) (z5_40 : Int32) (z6_40 : Int32), (0 ≤ z6_40.toInt ∧ z6_40.toInt ≤ (v 0).toInt) → 200 - z6_40.toInt < (n : Int) → J 40 [some (.ref h), some (.int x1), some (.int x2), some (.int x3), some (.int z4_40), some (.int z5_40), some (.int z6_40), none] [] (md A0 g h q v f) 0 0 := by
            intro n
            induction n with
            | zero =>
              intro z4_40 z5_40 z6_40 j0_40 j1_40
              omega
            | succ n ih6 =>
              intro z4_40 z5_40 z6_40 j0_40 j1_40
              refine hC.1 3 40 _ _ rfl _ _ _ _ _ ?_
              refine Exists.intro _ (And.intro md_o ?_)
              refine And.intro (fun c7 => ?_) (fun c7 => ?_)
              · skip
                refine hC.1 9 135 _ _ rfl _ _ _ _ _ ?_
                refine And.intro (fun c8 => ?_) (fun c8 => ?_)
                · skip
                  refine hC.1 10 145 _ _ rfl _ _ _ _ _ ?_
                  refine hC.1 12 152 _ _ rfl _ _ _ _ _ ?_
                  exact ⟨rfl, fun e9 => absurd e9 (by decide), rfl, z4_40, rfl, rfl, by first | trivial | omega | (dsimp only; omega)⟩
                · skip
                  refine And.intro (fun c9 => ?_) (fun c9 => ?_)
                  · skip
                    have dc9 := pm_neI c9
                    refine hC.1 11 150 _ _ rfl _ _ _ _ _ ?_
                    refine hC.1 12 152 _ _ rfl _ _ _ _ _ ?_
                    exact ⟨rfl, fun e9 => absurd e9 (by decide), rfl, z5_40, rfl, rfl, by first | trivial | omega | (dsimp only; omega)⟩
                  · skip
                    have dc9 : (x3).toInt = ((1 : Int32) : Int32).toInt := congrArg Int32.toInt c9
                    refine hC.1 10 145 _ _ rfl _ _ _ _ _ ?_
                    refine hC.1 12 152 _ _ rfl _ _ _ _ _ ?_
                    exact ⟨rfl, fun e9 => absurd e9 (by decide), rfl, z4_40, rfl, rfl, by first | trivial | omega | (dsimp only; omega)⟩
              · skip
                refine Exists.intro _ (And.intro md_o ?_)
                refine Exists.intro _ (Exists.intro _ (And.intro (Or.inl (md_a_colours D)) (And.intro (by omega) ?_)))
                have w10 : (0 : Int) ≤ (f 0 (z6_40).toInt.toNat).toInt ∧ (f 0 (z6_40).toInt.toNat).toInt ≤ (23 : Int) := hf 0 _
                refine And.intro (fun c11 => ?_) (fun c11 => ?_)
                · skip
                  have dc11 : ((f 0 (z6_40).toInt.toNat)).toInt = (x1 : Int32).toInt := congrArg Int32.toInt c11
                  refine hC.1 4 74 _ _ rfl _ _ _ _ _ ?_
                  refine Exists.intro _ (And.intro md_o ?_)
                  refine Exists.intro _ (Exists.intro _ (And.intro (Or.inl (md_a_colours D)) (And.intro (by omega) ?_)))
                  have w12 : (0 : Int) ≤ (f 0 (z6_40).toInt.toNat).toInt ∧ (f 0 (z6_40).toInt.toNat).toInt ≤ (23 : Int) := hf 0 _
                  refine And.intro (fun c13 => ?_) (fun c13 => ?_)
                  · skip
                    have dc13 := pm_neI c13
                    refine hC.1 5 90 _ _ rfl _ _ _ _ _ ?_
                    refine hC.1 6 91 _ _ rfl _ _ _ _ _ ?_
                    refine And.intro (Exists.intro _ md_o) (Exists.intro _ (Exists.intro _ (Exists.intro _ (Exists.intro _ (And.intro (c_X11_nextBehind D v f hv hf x1 z6_40 (by omega)) (And.intro rfl (fun r9 A9 h9 => ?_)))))))
                    obtain ⟨y14, rfl, rfl, by14⟩ := h9
                    intro m15 em_102
                    try have e15 : m15.toInt = (y14).toInt - (z6_40).toInt := by rw [em_102]; exact pm_sub _ _ (by omega) (by omega)
                    refine And.intro (fun c16 => ?_) (fun c16 => ?_)
                    · skip
                      refine hC.1 8 129 _ _ rfl _ _ _ _ _ ?_
                      intro m17 em_129
                      try have e17 : m17.toInt = (z6_40).toInt + (1) := by rw [em_129]; exact pm_addc _ _ (1) rfl (by omega) (by omega)
                      exact hC.2 [false, false, false, false, false, false, false, true] _ _ _ _ _ _ (ih6 z4_40 z5_40 m17 (by omega) (by omega))
                    · skip
                      refine And.intro (fun c18 => ?_) (fun c18 => ?_)
                      · skip
                        have dc18 := pm_neI c18
                        refine hC.1 7 118 _ _ rfl _ _ _ _ _ ?_
                        intro m19 em_126
                        try have e19 : m19.toInt = (y14).toInt - (z6_40).toInt := by rw [em_126]; exact pm_sub _ _ (by omega) (by omega)
                        refine hC.1 8 129 _ _ rfl _ _ _ _ _ ?_
                        intro m20 em_129
                        try have e20 : m20.toInt = (z6_40).toInt + (1) := by rw [em_129]; exact pm_addc _ _ (1) rfl (by omega) (by omega)
                        exact hC.2 [false, false, false, false, false, false, false, true] _ _ _ _ _ _ (ih6 z6_40 m19 m20 (by omega) (by omega))
                      · skip
                        have dc18 : (y14).toInt = ((268435456 : Int32) : Int32).toInt := congrArg Int32.toInt c18
                        refine hC.1 8 129 _ _ rfl _ _ _ _ _ ?_
                        intro m21 em_129
                        try have e21 : m21.toInt = (z6_40).toInt + (1) := by rw [em_129]; exact pm_addc _ _ (1) rfl (by omega) (by omega)
                        exact hC.2 [false, false, false, false, false, false, false, true] _ _ _ _ _ _ (ih6 z4_40 z5_40 m21 (by omega) (by omega))
                  · skip
                    have dc13 : ((f 0 (z6_40).toInt.toNat)).toInt = (x1 : Int32).toInt := congrArg Int32.toInt c13
                    refine hC.1 6 91 _ _ rfl _ _ _ _ _ ?_
                    refine And.intro (Exists.intro _ md_o) (Exists.intro _ (Exists.intro _ (Exists.intro _ (Exists.intro _ (And.intro (c_X11_nextBehind D v f hv hf x2 z6_40 (by omega)) (And.intro rfl (fun r9 A9 h9 => ?_)))))))
                    obtain ⟨y22, rfl, rfl, by22⟩ := h9
                    intro m23 em_102
                    try have e23 : m23.toInt = (y22).toInt - (z6_40).toInt := by rw [em_102]; exact pm_sub _ _ (by omega) (by omega)
                    refine And.intro (fun c24 => ?_) (fun c24 => ?_)
                    · skip
                      refine hC.1 8 129 _ _ rfl _ _ _ _ _ ?_
                      intro m25 em_129
                      try have e25 : m25.toInt = (z6_40).toInt + (1) := by rw [em_129]; exact pm_addc _ _ (1) rfl (by omega) (by omega)
                      exact hC.2 [false, false, false, false, false, false, false, true] _ _ _ _ _ _ (ih6 z4_40 z5_40 m25 (by omega) (by omega))
                    · skip
                      refine And.intro (fun c26 => ?_) (fun c26 => ?_)
                      · skip
                        have dc26 := pm_neI c26
                        refine hC.1 7 118 _ _ rfl _ _ _ _ _ ?_
                        intro m27 em_126
                        try have e27 : m27.toInt = (y22).toInt - (z6_40).toInt := by rw [em_126]; exact pm_sub _ _ (by omega) (by omega)
                        refine hC.1 8 129 _ _ rfl _ _ _ _ _ ?_
                        intro m28 em_129
                        try have e28 : m28.toInt = (z6_40).toInt + (1) := by rw [em_129]; exact pm_addc _ _ (1) rfl (by omega) (by omega)
                        exact hC.2 [false, false, false, false, false, false, false, true] _ _ _ _ _ _ (ih6 z6_40 m27 m28 (by omega) (by omega))
                      · skip
                        have dc26 : (y22).toInt = ((268435456 : Int32) : Int32).toInt := congrArg Int32.toInt c26
                        refine hC.1 8 129 _ _ rfl _ _ _ _ _ ?_
                        intro m29 em_129
                        try have e29 : m29.toInt = (z6_40).toInt + (1) := by rw [em_129]; exact pm_addc _ _ (1) rfl (by omega) (by omega)
                        exact hC.2 [false, false, false, false, false, false, false, true] _ _ _ _ _ _ (ih6 z4_40 z5_40 m29 (by omega) (by omega))
                · skip
                  have dc11 := pm_neI c11
                  refine Exists.intro _ (And.intro md_o ?_)
                  refine Exists.intro _ (Exists.intro _ (And.intro (Or.inl (md_a_colours D)) (And.intro (by omega) ?_)))
                  have w30 : (0 : Int) ≤ (f 0 (z6_40).toInt.toNat).toInt ∧ (f 0 (z6_40).toInt.toNat).toInt ≤ (23 : Int) := hf 0 _
                  refine And.intro (fun c31 => ?_) (fun c31 => ?_)
                  · skip
                    have dc31 : ((f 0 (z6_40).toInt.toNat)).toInt = (x2 : Int32).toInt := congrArg Int32.toInt c31
                    refine hC.1 4 74 _ _ rfl _ _ _ _ _ ?_
                    refine Exists.intro _ (And.intro md_o ?_)
                    refine Exists.intro _ (Exists.intro _ (And.intro (Or.inl (md_a_colours D)) (And.intro (by omega) ?_)))
                    have w32 : (0 : Int) ≤ (f 0 (z6_40).toInt.toNat).toInt ∧ (f 0 (z6_40).toInt.toNat).toInt ≤ (23 : Int) := hf 0 _
                    refine And.intro (fun c33 => ?_) (fun c33 => ?_)
                    · skip
                      have dc33 := pm_neI c33
                      refine hC.1 5 90 _ _ rfl _ _ _ _ _ ?_
                      refine hC.1 6 91 _ _ rfl _ _ _ _ _ ?_
                      refine And.intro (Exists.intro _ md_o) (Exists.intro _ (Exists.intro _ (Exists.intro _ (Exists.intro _ (And.intro (c_X11_nextBehind D v f hv hf x1 z6_40 (by omega)) (And.intro rfl (fun r9 A9 h9 => ?_)))))))
                      obtain ⟨y34, rfl, rfl, by34⟩ := h9
                      intro m35 em_102
                      try have e35 : m35.toInt = (y34).toInt - (z6_40).toInt := by rw [em_102]; exact pm_sub _ _ (by omega) (by omega)
                      refine And.intro (fun c36 => ?_) (fun c36 => ?_)
                      · skip
                        refine hC.1 8 129 _ _ rfl _ _ _ _ _ ?_
                        intro m37 em_129
                        try have e37 : m37.toInt = (z6_40).toInt + (1) := by rw [em_129]; exact pm_addc _ _ (1) rfl (by omega) (by omega)
                        exact hC.2 [false, false, false, false, false, false, false, true] _ _ _ _ _ _ (ih6 z4_40 z5_40 m37 (by omega) (by omega))
                      · skip
                        refine And.intro (fun c38 => ?_) (fun c38 => ?_)
                        · skip
                          have dc38 := pm_neI c38
                          refine hC.1 7 118 _ _ rfl _ _ _ _ _ ?_
                          intro m39 em_126
                          try have e39 : m39.toInt = (y34).toInt - (z6_40).toInt := by rw [em_126]; exact pm_sub _ _ (by omega) (by omega)
                          refine hC.1 8 129 _ _ rfl _ _ _ _ _ ?_
                          intro m40 em_129
                          try have e40 : m40.toInt = (z6_40).toInt + (1) := by rw [em_129]; exact pm_addc _ _ (1) rfl (by omega) (by omega)
                          exact hC.2 [false, false, false, false, false, false, false, true] _ _ _ _ _ _ (ih6 z6_40 m39 m40 (by omega) (by omega))
                        · skip
                          have dc38 : (y34).toInt = ((268435456 : Int32) : Int32).toInt := congrArg Int32.toInt c38
                          refine hC.1 8 129 _ _ rfl _ _ _ _ _ ?_
                          intro m41 em_129
                          try have e41 : m41.toInt = (z6_40).toInt + (1) := by rw [em_129]; exact pm_addc _ _ (1) rfl (by omega) (by omega)
                          exact hC.2 [false, false, false, false, false, false, false, true] _ _ _ _ _ _ (ih6 z4_40 z5_40 m41 (by omega) (by omega))
                    · skip
                      have dc33 : ((f 0 (z6_40).toInt.toNat)).toInt = (x1 : Int32).toInt := congrArg Int32.toInt c33
                      refine hC.1 6 91 _ _ rfl _ _ _ _ _ ?_
                      refine And.intro (Exists.intro _ md_o) (Exists.intro _ (Exists.intro _ (Exists.intro _ (Exists.intro _ (And.intro (c_X11_nextBehind D v f hv hf x2 z6_40 (by omega)) (And.intro rfl (fun r9 A9 h9 => ?_)))))))
                      obtain ⟨y42, rfl, rfl, by42⟩ := h9
                      intro m43 em_102
                      try have e43 : m43.toInt = (y42).toInt - (z6_40).toInt := by rw [em_102]; exact pm_sub _ _ (by omega) (by omega)
                      refine And.intro (fun c44 => ?_) (fun c44 => ?_)
                      · skip
                        refine hC.1 8 129 _ _ rfl _ _ _ _ _ ?_
                        intro m45 em_129
                        try have e45 : m45.toInt = (z6_40).toInt + (1) := by rw [em_129]; exact pm_addc _ _ (1) rfl (by omega) (by omega)
                        exact hC.2 [false, false, false, false, false, false, false, true] _ _ _ _ _ _ (ih6 z4_40 z5_40 m45 (by omega) (by omega))
                      · skip
                        refine And.intro (fun c46 => ?_) (fun c46 => ?_)
                        · skip
                          have dc46 := pm_neI c46
                          refine hC.1 7 118 _ _ rfl _ _ _ _ _ ?_
                          intro m47 em_126
                          try have e47 : m47.toInt = (y42).toInt - (z6_40).toInt := by rw [em_126]; exact pm_sub _ _ (by omega) (by omega)
                          refine hC.1 8 129 _ _ rfl _ _ _ _ _ ?_
                          intro m48 em_129
                          try have e48 : m48.toInt = (z6_40).toInt + (1) := by rw [em_129]; exact pm_addc _ _ (1) rfl (by omega) (by omega)
                          exact hC.2 [false, false, false, false, false, false, false, true] _ _ _ _ _ _ (ih6 z6_40 m47 m48 (by omega) (by omega))
                        · skip
                          have dc46 : (y42).toInt = ((268435456 : Int32) : Int32).toInt := congrArg Int32.toInt c46
                          refine hC.1 8 129 _ _ rfl _ _ _ _ _ ?_
                          intro m49 em_129
                          try have e49 : m49.toInt = (z6_40).toInt + (1) := by rw [em_129]; exact pm_addc _ _ (1) rfl (by omega) (by omega)
                          exact hC.2 [false, false, false, false, false, false, false, true] _ _ _ _ _ _ (ih6 z4_40 z5_40 m49 (by omega) (by omega))
                  · skip
                    have dc31 := pm_neI c31
                    refine hC.1 8 129 _ _ rfl _ _ _ _ _ ?_
                    intro m50 em_129
                    try have e50 : m50.toInt = (z6_40).toInt + (1) := by rw [em_129]; exact pm_addc _ _ (1) rfl (by omega) (by omega)
                    exact ih6 z4_40 z5_40 m50 (by omega) (by omega)
          exact lp5 (200 - (0 : Int32).toInt).toNat.succ (-1 : Int32) (268435456 : Int32) (0 : Int32) (by omega) (by omega)
        · skip
          refine And.intro (fun c9 => absurd c9 (by decide)) (fun _ => ?_)
          refine hC.1 1 28 _ _ rfl _ _ _ _ _ ?_
          have km1 : (-1 : Int32).toInt = -1 := rfl
          exact ⟨rfl, fun e9 => absurd e9 (by decide), rfl, (-1 : Int32), rfl, rfl, by first | trivial | omega | (dsimp only; omega)⟩
    · skip
      have k0 : (0 : Int32).toInt = 0 := rfl
      refine And.intro (fun _ => ?_) (fun c9 => absurd c9 (by decide))
      refine hC.1 1 28 _ _ rfl _ _ _ _ _ ?_
      have km1 : (-1 : Int32).toInt = -1 := rfl
      exact ⟨rfl, fun e9 => absurd e9 (by decide), rfl, (-1 : Int32), rfl, rfl, by first | trivial | omega | (dsimp only; omega)⟩
  · skip
    have k0 : (0 : Int32).toInt = 0 := rfl
    refine And.intro (fun _ => ?_) (fun c9 => absurd c9 (by decide))
    refine hC.1 1 28 _ _ rfl _ _ _ _ _ ?_
    have km1 : (-1 : Int32).toInt = -1 := rfl
    exact ⟨rfl, fun e9 => absurd e9 (by decide), rfl, (-1 : Int32), rfl, rfl, by first | trivial | omega | (dsimp only; omega)⟩

set_option maxRecDepth 100000 in
set_option maxHeartbeats 2000000 in
theorem c_X11_reach (D : md_D h q) (v : Nat → Int32) (f : Nat → Nat → Int32) (hv : md_V v) (hf : md_F f) (x1 : Int32) (x2 : Int32)  : pm_Mt l g 248 2 0 0 [.ref h, .int x1, .int x2] (md A0 g h q v f) (md_Qp (md A0 g h q v f) (fun r => True)) := by
  refine mt_X11_reach rfl (fun J hC => ?_)
  have hv9 := hv
  unfold md_V at hv9
  have rg_x1 := pm_rng x1
  have rg_x2 := pm_rng x2
  refine hC.1 0 0 _ _ rfl _ _ _ _ _ ?_
  refine And.intro (Exists.intro _ md_o) (Exists.intro _ (Exists.intro _ (Exists.intro _ (Exists.intro _ (And.intro (c_X11_isPlace D v f hv hf x1 ) (And.intro rfl (fun r9 A9 h9 => ?_)))))))
  rcases h9 with ⟨y1, rfl, rfl, ⟨rfl, by1⟩ | ⟨rfl, by1⟩⟩
  · skip
    have k1 : (1 : Int32).toInt = 1 := rfl
    refine And.intro (fun c9 => absurd c9 (by decide)) (fun _ => ?_)
    refine And.intro (fun c2 => ?_) (fun c2 => ?_)
    · skip
      refine hC.1 2 15 _ _ rfl _ _ _ _ _ ?_
      have lp3 : ∀ (n : Nat) (z3_17 : Int32), (x1.toInt ≤ z3_17.toInt ∧ z3_17.toInt ≤ (v 0).toInt) → 200 - z3_17.toInt < (n : Int) → J 17 [some (.ref h), some (.int x1), some (.int x2), some (.int z3_17)] [] (md A0 g h q v f) 0 0 := by
        intro n
        induction n with
        | zero =>
          intro z3_17 j0_17 j1_17
          omega
        | succ n ih4 =>
          intro z3_17 j0_17 j1_17
          refine hC.1 3 17 _ _ rfl _ _ _ _ _ ?_
          refine Exists.intro _ (And.intro md_o ?_)
          refine And.intro (fun c5 => ?_) (fun c5 => ?_)
          · skip
            refine hC.1 5 43 _ _ rfl _ _ _ _ _ ?_
            have km1 : (-1 : Int32).toInt = -1 := rfl
            exact ⟨rfl, fun e9 => absurd e9 (by decide), rfl, (-1 : Int32), rfl, rfl, by first | trivial | omega | (dsimp only; omega)⟩
          · skip
            refine And.intro (Exists.intro _ md_o) (Exists.intro _ (Exists.intro _ (Exists.intro _ (Exists.intro _ (And.intro (c_X11_countOf D v f hv hf x1 z3_17 (by omega) (by omega)) (And.intro rfl (fun r9 A9 h9 => ?_)))))))
            obtain ⟨y6, rfl, rfl, by6⟩ := h9
            refine And.intro (fun c7 => ?_) (fun c7 => ?_)
            · skip
              refine hC.1 4 37 _ _ rfl _ _ _ _ _ ?_
              intro m8 em_37
              try have e8 : m8.toInt = (z3_17).toInt + (1) := by rw [em_37]; exact pm_addc _ _ (1) rfl (by omega) (by omega)
              exact ih4 m8 (by omega) (by omega)
            · skip
              exact ⟨rfl, fun e9 => absurd e9 (by decide), rfl, z3_17, rfl, rfl, by first | trivial | omega | (dsimp only; omega)⟩
      exact lp3 (200 - x1.toInt).toNat.succ x1 (by omega) (by omega)
    · skip
      refine hC.1 1 13 _ _ rfl _ _ _ _ _ ?_
      have km1 : (-1 : Int32).toInt = -1 := rfl
      exact ⟨rfl, fun e9 => absurd e9 (by decide), rfl, (-1 : Int32), rfl, rfl, by first | trivial | omega | (dsimp only; omega)⟩
  · skip
    have k0 : (0 : Int32).toInt = 0 := rfl
    refine And.intro (fun _ => ?_) (fun c9 => absurd c9 (by decide))
    refine hC.1 1 13 _ _ rfl _ _ _ _ _ ?_
    have km1 : (-1 : Int32).toInt = -1 := rfl
    exact ⟨rfl, fun e9 => absurd e9 (by decide), rfl, (-1 : Int32), rfl, rfl, by first | trivial | omega | (dsimp only; omega)⟩

end
