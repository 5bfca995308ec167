section
variable {l : Launch} {g : pm_G} {A0 : pm_H} {h : Nat} {q : Nat → Nat}
set_option maxRecDepth 100000 in
set_option maxHeartbeats 2000000 in
theorem c_X11_best (D : md_D h q) (v : Nat → Int32) (f : Nat → Nat → Int32) (hv : md_V v) (hf : md_F f) (x1 : Int32) (x2 : Int32)  : pm_Mt l g 272 3 0 0 [.ref h, .int x1, .int x2] (md A0 g h q v f) (md_Qw A0 g h q f (fun r v2 f2 => (v2 0).toInt = (v 0).toInt ∧ (v2 1).toInt = (v 1).toInt ∧ (v2 2).toInt = (v 2).toInt ∧ (v2 3).toInt = (v 3).toInt ∧ (v2 4).toInt = (v 4).toInt ∧ (v2 6).toInt = (v 6).toInt)) := by
  refine mt_X11_best rfl (fun J hC => ?_)
  have hv9 := hv
  unfold md_V at hv9
  have rg_x1 := pm_rng x1
  have rg_x2 := pm_rng x2
  refine hC.1 0 0 _ _ rfl _ _ _ _ _ ?_
  have k1 : (1 : Int32).toInt = 1 := rfl
  have k8 : (8 : Int32).toInt = 8 := rfl
  refine Exists.intro _ (Exists.intro _ (Exists.intro _ (Exists.intro _ (And.intro (c_X11_isIn (md A0 g h q v f) x1 (1 : Int32) (8 : Int32) ) (And.intro rfl (fun r9 A9 h9 => ?_))))))
  rcases h9 with ⟨y1, rfl, rfl, ⟨rfl, by1⟩ | ⟨rfl, by1⟩⟩
  · skip
    refine And.intro (fun c9 => absurd c9 (by decide)) (fun _ => ?_)
    refine Exists.intro _ (And.intro md_o ?_)
    refine And.intro (fun c2 => ?_) (fun c2 => ?_)
    · skip
      refine hC.1 1 29 _ _ rfl _ _ _ _ _ ?_
      have km1 : (-1 : Int32).toInt = -1 := rfl
      exact ⟨rfl, fun e9 => absurd e9 (by decide), rfl, (-1 : Int32), v, f, rfl, rfl, hv, hf, rfl, by first | trivial | omega | (dsimp only; omega)⟩
    · skip
      have km1 : (-1 : Int32).toInt = -1 := rfl
      intro m3 em_22
      try have e3 : m3.toInt = (x1).toInt - (1) := by rw [em_22]; exact pm_subc _ _ (1) rfl (by omega) (by omega)
      refine Exists.intro _ (Exists.intro _ (Exists.intro _ (Exists.intro _ (And.intro (c_X11_isIn (md A0 g h q v f) x2 (-1 : Int32) m3 ) (And.intro rfl (fun r9 A9 h9 => ?_))))))
      rcases h9 with ⟨y4, rfl, rfl, ⟨rfl, by4⟩ | ⟨rfl, by4⟩⟩
      · skip
        refine And.intro (fun _ => ?_) (fun c9 => absurd c9 (by decide))
        refine hC.1 2 31 _ _ rfl _ _ _ _ _ ?_
        refine And.intro (Exists.intro _ md_o) (Exists.intro _ (Exists.intro _ (Exists.intro _ (Exists.intro _ (And.intro (c_X11_layBest D v f hv hf x1 (by omega)) (And.intro rfl (fun r9 A9 h9 => ?_)))))))
        obtain ⟨v6, f6, rfl, rfl, hv6, hf6, hx6, by5⟩ := h9
        have hw6 : f6 2 = f 2 := hx6.trans rfl
        have hu7 := hv6
        unfold md_V at hu7
        have k161 : (161 : Int32).toInt = 161 := rfl
        refine And.intro (fun c8 => ?_) (fun c8 => ?_)
        · skip
          have dc8 := pm_neI c8
          refine hC.1 3 54 _ _ rfl _ _ _ _ _ ?_
          have k0 : (0 : Int32).toInt = 0 := rfl
          have lp9 : ∀ (n : Nat) (z4_60 : Int32) (z5_60 : Int32), (0 ≤ z4_60.toInt ∧ z4_60.toInt ≤ 160) → (0 ≤ z5_60.toInt ∧ z5_60.toInt ≤ x1.toInt) → z5_60.toInt < (n : Int) → J 60 [some (.ref h), some (.int x1), some (.int x2), some (.int (161 : Int32)), some (.int z4_60), some (.int z5_60)] [] (md A0 g h q v6 f6) 0 0 := by
            intro n
            induction n with
            | zero =>
              intro z4_60 z5_60 j0_60 j1_60 j2_60
              omega
            | succ n ih10 =>
              intro z4_60 z5_60 j0_60 j1_60 j2_60
              refine hC.1 4 60 _ _ rfl _ _ _ _ _ ?_
              intro m11 em_64
              try have e11 : m11.toInt = (x1).toInt - (x2).toInt := by rw [em_64]; exact pm_sub _ _ (by omega) (by omega)
              refine And.intro (fun c12 => ?_) (fun c12 => ?_)
              · skip
                refine hC.1 5 90 _ _ rfl _ _ _ _ _ ?_
                refine Exists.intro _ (And.intro md_o ?_)
                intro m13 em_97
                try have e13 : m13.toInt = (x1).toInt - (x2).toInt := by rw [em_97]; exact pm_sub _ _ (by omega) (by omega)
                intro m14 em_98
                try have e14 : m14.toInt = 161 * (m13).toInt := by rw [em_98]; exact pm_mulk _ _ 161 rfl (by omega) (by omega)
                intro m15 em_101
                try have e15 : m15.toInt = (m14).toInt + (z4_60).toInt := by rw [em_101]; exact pm_add _ _ (by omega) (by omega)
                refine Exists.intro _ (Exists.intro _ (And.intro (Or.inl (md_a_ends0 D)) (And.intro (by omega) ?_)))
                have w16 : (0 : Int) ≤ (f6 19 (m15).toInt.toNat).toInt ∧ (f6 19 (m15).toInt.toNat).toInt ≤ (159 : Int) := hf6 19 _
                exact ⟨rfl, fun e9 => absurd e9 (by decide), rfl, (f6 19 (m15).toInt.toNat), v6, f6, rfl, rfl, hv6, hf6, hw6, by first | trivial | omega | (dsimp only; omega)⟩
              · skip
                refine Exists.intro _ (And.intro md_o ?_)
                intro m17 em_75
                try have e17 : m17.toInt = 161 * (z5_60).toInt := by rw [em_75]; exact pm_mulk _ _ 161 rfl (by omega) (by omega)
                intro m18 em_78
                try have e18 : m18.toInt = (m17).toInt + (z4_60).toInt := by rw [em_78]; exact pm_add _ _ (by omega) (by omega)
                refine Exists.intro _ (Exists.intro _ (And.intro (Or.inl (md_a_ends0 D)) (And.intro (by omega) ?_)))
                have w19 : (0 : Int) ≤ (f6 19 (m18).toInt.toNat).toInt ∧ (f6 19 (m18).toInt.toNat).toInt ≤ (159 : Int) := hf6 19 _
                intro m20 em_81
                try have e20 : m20.toInt = ((f6 19 (m18).toInt.toNat)).toInt + (1) := by rw [em_81]; exact pm_addc _ _ (1) rfl (by omega) (by omega)
                intro m21 em_84
                try have e21 : m21.toInt = (z5_60).toInt + (-1) := by rw [em_84]; exact pm_addc _ _ (-1) rfl (by omega) (by omega)
                exact ih10 m20 m21 (by omega) (by omega) (by omega)
          exact lp9 (x1.toInt).toNat.succ (0 : Int32) x1 (by omega) (by omega) (by omega)
        · skip
          have dc8 : (x2).toInt = ((-1 : Int32) : Int32).toInt := congrArg Int32.toInt c8
          refine Exists.intro _ (And.intro md_o ?_)
          intro m22 em_51
          try have e22 : m22.toInt = 161 * (x1).toInt := by rw [em_51]; exact pm_mulk _ _ 161 rfl (by omega) (by omega)
          refine Exists.intro _ (Exists.intro _ (And.intro (Or.inl (md_a_worth D)) (And.intro (by omega) ?_)))
          exact ⟨rfl, fun e9 => absurd e9 (by decide), rfl, (f6 18 (m22).toInt.toNat), v6, f6, rfl, rfl, hv6, hf6, hw6, by first | trivial | omega | (dsimp only; omega)⟩
      · skip
        have k0 : (0 : Int32).toInt = 0 := rfl
        refine And.intro (fun c9 => absurd c9 (by decide)) (fun _ => ?_)
        refine hC.1 1 29 _ _ rfl _ _ _ _ _ ?_
        exact ⟨rfl, fun e9 => absurd e9 (by decide), rfl, (-1 : Int32), v, f, rfl, rfl, hv, hf, rfl, by first | trivial | omega | (dsimp only; omega)⟩
  · skip
    have k0 : (0 : Int32).toInt = 0 := rfl
    refine And.intro (fun _ => ?_) (fun c9 => absurd c9 (by decide))
    refine hC.1 1 29 _ _ rfl _ _ _ _ _ ?_
    have km1 : (-1 : Int32).toInt = -1 := rfl
    exact ⟨rfl, fun e9 => absurd e9 (by decide), rfl, (-1 : Int32), v, f, rfl, rfl, hv, hf, rfl, by first | trivial | omega | (dsimp only; omega)⟩

set_option maxRecDepth 100000 in
set_option maxHeartbeats 2000000 in
theorem c_X11_asks (D : md_D h q) (v : Nat → Int32) (f : Nat → Nat → Int32) (hv : md_V v) (hf : md_F f) (x1 : Int32) (x2 : Int32) (x3 : Int32) (p0 : (v 6).toInt < 30) : pm_Mt l g 276 0 0 0 [.ref h, .int x1, .int x2, .int x3] (md A0 g h q v f) (md_Qw A0 g h q f (fun r v2 f2 => (v2 0).toInt = (v 0).toInt ∧ (v2 1).toInt = (v 1).toInt ∧ (v2 2).toInt = (v 2).toInt ∧ (v2 3).toInt = (v 3).toInt ∧ (v2 4).toInt = (v 4).toInt)) := by
  refine mt_X11_asks rfl (fun J hC => ?_)
  have hv9 := hv
  unfold md_V at hv9
  have rg_x1 := pm_rng x1
  have rg_x2 := pm_rng x2
  have rg_x3 := pm_rng x3
  refine hC.1 0 0 _ _ rfl _ _ _ _ _ ?_
  refine Exists.intro _ (And.intro md_o ?_)
  refine Exists.intro _ (And.intro md_o ?_)
  refine Exists.intro _ (Exists.intro _ (And.intro (md_a_askedOne D) (And.intro (by omega) ?_)))
  rw [md_s_askedOne D]
  obtain ⟨f1, ef1⟩ : ∃ z9, z9 = va_up f 7 (upd (f 7) ((v 6)).toInt.toNat x2) := ⟨_, rfl⟩
  rw [← ef1]
  have hf1 : md_F f1 := by rw [ef1]; exact md_F_st hf 7 _ _ (md_rng _ _ (by decide))
  have hw1 : f1 2 = f 2 := (show f1 2 = f 2 by rw [ef1]; rfl).trans rfl
  refine Exists.intro _ (And.intro md_o ?_)
  refine Exists.intro _ (And.intro md_o ?_)
  refine Exists.intro _ (Exists.intro _ (And.intro (md_a_askedOther D) (And.intro (by omega) ?_)))
  rw [md_s_askedOther D]
  obtain ⟨f2, ef2⟩ : ∃ z9, z9 = va_up f1 8 (upd (f1 8) ((v 6)).toInt.toNat x3) := ⟨_, rfl⟩
  rw [← ef2]
  have hf2 : md_F f2 := by rw [ef2]; exact md_F_st hf1 8 _ _ (md_rng _ _ (by decide))
  have hw2 : f2 2 = f 2 := (show f2 2 = f1 2 by rw [ef2]; rfl).trans hw1
  refine Exists.intro _ (And.intro md_o ?_)
  refine Exists.intro _ (And.intro md_o ?_)
  refine Exists.intro _ (Exists.intro _ (And.intro (md_a_askedEdit D) (And.intro (by omega) ?_)))
  rw [md_s_askedEdit D]
  obtain ⟨f3, ef3⟩ : ∃ z9, z9 = va_up f2 11 (upd (f2 11) ((v 6)).toInt.toNat x1) := ⟨_, rfl⟩
  rw [← ef3]
  have hf3 : md_F f3 := by rw [ef3]; exact md_F_st hf2 11 _ _ (md_rng _ _ (by decide))
  have hw3 : f3 2 = f 2 := (show f3 2 = f2 2 by rw [ef3]; rfl).trans hw2
  refine Exists.intro _ (And.intro md_o ?_)
  refine Exists.intro _ (And.intro md_o ?_)
  have km1 : (-1 : Int32).toInt = -1 := rfl
  refine Exists.intro _ (Exists.intro _ (And.intro (md_a_answerCount D) (And.intro (by omega) ?_)))
  rw [md_s_answerCount D]
  obtain ⟨f4, ef4⟩ : ∃ z9, z9 = va_up f3 9 (upd (f3 9) ((v 6)).toInt.toNat (-1 : Int32)) := ⟨_, rfl⟩
  rw [← ef4]
  have hf4 : md_F f4 := by rw [ef4]; exact md_F_st hf3 9 _ _ (md_rng _ _ (by decide))
  have hw4 : f4 2 = f 2 := (show f4 2 = f3 2 by rw [ef4]; rfl).trans hw3
  refine Exists.intro _ (And.intro md_o ?_)
  refine Exists.intro _ (And.intro md_o ?_)
  refine Exists.intro _ (Exists.intro _ (And.intro (md_a_answerWeight D) (And.intro (by omega) ?_)))
  rw [md_s_answerWeight D]
  obtain ⟨f5, ef5⟩ : ∃ z9, z9 = va_up f4 10 (upd (f4 10) ((v 6)).toInt.toNat (-1 : Int32)) := ⟨_, rfl⟩
  rw [← ef5]
  have hf5 : md_F f5 := by rw [ef5]; exact md_F_st hf4 10 _ _ (md_rng _ _ (by decide))
  have hw5 : f5 2 = f 2 := (show f5 2 = f4 2 by rw [ef5]; rfl).trans hw4
  refine Exists.intro _ (And.intro md_o ?_)
  have k1 : (1 : Int32).toInt = 1 := rfl
  intro m6 em_56
  try have e6 : m6.toInt = ((v 6)).toInt + (1) := by rw [em_56]; exact pm_addc _ _ (1) rfl (by omega) (by omega)
  refine Exists.intro _ (And.intro md_o (And.intro rfl ?_))
  rw [md_p_askedMany D]
  obtain ⟨v7, ev7⟩ : ∃ z9, z9 = upd v 6 m6 := ⟨_, rfl⟩
  rw [← ev7]
  have ev7_0 : (v7 0).toInt = (v 0).toInt := by rw [ev7]; rfl
  have ev7_1 : (v7 1).toInt = (v 1).toInt := by rw [ev7]; rfl
  have ev7_2 : (v7 2).toInt = (v 2).toInt := by rw [ev7]; rfl
  have ev7_3 : (v7 3).toInt = (v 3).toInt := by rw [ev7]; rfl
  have ev7_4 : (v7 4).toInt = (v 4).toInt := by rw [ev7]; rfl
  have ev7_5 : (v7 5).toInt = (v 5).toInt := by rw [ev7]; rfl
  have ev7_6 : (v7 6).toInt = (m6).toInt := by rw [ev7]; rfl
  have ev7_7 : (v7 7).toInt = (v 7).toInt := by rw [ev7]; rfl
  have pn_57 : v7 6 = m6 := by rw [ev7]; rfl
  refine Exists.intro _ (And.intro md_o ?_)
  intro m8 em_65
  try have e8 : m8.toInt = ((v7 6)).toInt - (1) := by rw [em_65]; exact pm_subc _ _ (1) rfl (by omega) (by omega)
  have hv9 : md_V v7 := by unfold md_V; omega
  exact ⟨rfl, fun e9 => absurd e9 (by decide), rfl, m8, v7, f5, rfl, rfl, hv9, hf5, hw5, by first | trivial | omega | (dsimp only; omega)⟩

set_option maxRecDepth 100000 in
set_option maxHeartbeats 2000000 in
theorem c_X11_ask (D : md_D h q) (v : Nat → Int32) (f : Nat → Nat → Int32) (hv : md_V v) (hf : md_F f) (x1 : Int32) (x2 : Int32)  : pm_Mt l g 275 2 0 0 [.ref h, .int x1, .int x2] (md A0 g h q v f) (md_Qw A0 g h q f (fun r v2 f2 => (v2 0).toInt = (v 0).toInt ∧ (v2 1).toInt = (v 1).toInt ∧ (v2 2).toInt = (v 2).toInt ∧ (v2 3).toInt = (v 3).toInt ∧ (v2 4).toInt = (v 4).toInt)) := by
  refine mt_X11_ask rfl (fun J hC => ?_)
  have hv9 := hv
  unfold md_V at hv9
  have rg_x1 := pm_rng x1
  have rg_x2 := pm_rng x2
  refine hC.1 0 0 _ _ rfl _ _ _ _ _ ?_
  refine Exists.intro _ (And.intro md_o ?_)
  have k30 : (30 : Int32).toInt = 30 := rfl
  refine And.intro (fun c1 => ?_) (fun c1 => ?_)
  · skip
    refine hC.1 1 35 _ _ rfl _ _ _ _ _ ?_
    have km1 : (-1 : Int32).toInt = -1 := rfl
    refine hC.1 2 36 _ _ rfl _ _ _ _ _ ?_
    exact ⟨rfl, fun e9 => absurd e9 (by decide), rfl, (-1 : Int32), v, f, rfl, rfl, hv, hf, rfl, by first | trivial | omega | (dsimp only; omega)⟩
  · skip
    refine And.intro (Exists.intro _ md_o) (Exists.intro _ (Exists.intro _ (Exists.intro _ (Exists.intro _ (And.intro (c_X11_place D v f hv hf x1 ) (And.intro rfl (fun r9 A9 h9 => ?_)))))))
    obtain ⟨y2, rfl, rfl, by2⟩ := h9
    refine And.intro (fun c3 => ?_) (fun c3 => ?_)
    · skip
      refine hC.1 1 35 _ _ rfl _ _ _ _ _ ?_
      have km1 : (-1 : Int32).toInt = -1 := rfl
      refine hC.1 2 36 _ _ rfl _ _ _ _ _ ?_
      exact ⟨rfl, fun e9 => absurd e9 (by decide), rfl, (-1 : Int32), v, f, rfl, rfl, hv, hf, rfl, by first | trivial | omega | (dsimp only; omega)⟩
    · skip
      refine And.intro (Exists.intro _ md_o) (Exists.intro _ (Exists.intro _ (Exists.intro _ (Exists.intro _ (And.intro (c_X11_place D v f hv hf x2 ) (And.intro rfl (fun r9 A9 h9 => ?_)))))))
      obtain ⟨y4, rfl, rfl, by4⟩ := h9
      refine And.intro (fun c5 => ?_) (fun c5 => ?_)
      · skip
        refine hC.1 1 35 _ _ rfl _ _ _ _ _ ?_
        have km1 : (-1 : Int32).toInt = -1 := rfl
        refine hC.1 2 36 _ _ rfl _ _ _ _ _ ?_
        exact ⟨rfl, fun e9 => absurd e9 (by decide), rfl, (-1 : Int32), v, f, rfl, rfl, hv, hf, rfl, by first | trivial | omega | (dsimp only; omega)⟩
      · skip
        have km1 : (-1 : Int32).toInt = -1 := rfl
        refine And.intro (Exists.intro _ md_o) (Exists.intro _ (Exists.intro _ (Exists.intro _ (Exists.intro _ (And.intro (c_X11_asks D v f hv hf (-1 : Int32) x1 x2 (by omega)) (And.intro rfl (fun r9 A9 h9 => ?_)))))))
        obtain ⟨y6, v7, f7, rfl, rfl, hv7, hf7, hx7, by6⟩ := h9
        have hw7 : f7 2 = f 2 := hx7.trans rfl
        have hu8 := hv7
        unfold md_V at hu8
        refine hC.1 2 36 _ _ rfl _ _ _ _ _ ?_
        exact ⟨rfl, fun e9 => absurd e9 (by decide), rfl, y6, v7, f7, rfl, rfl, hv7, hf7, hw7, by first | trivial | omega | (dsimp only; omega)⟩

set_option maxRecDepth 100000 in
set_option maxHeartbeats 2000000 in
theorem c_X11_askOf (D : md_D h q) (v : Nat → Int32) (f : Nat → Nat → Int32) (hv : md_V v) (hf : md_F f) (x1 : Int32) (x2 : Int32) (x3 : Int32)  : pm_Mt l g 277 2 0 0 [.ref h, .int x1, .int x2, .int x3] (md A0 g h q v f) (md_Qw A0 g h q f (fun r v2 f2 => (v2 0).toInt = (v 0).toInt ∧ (v2 1).toInt = (v 1).toInt ∧ (v2 2).toInt = (v 2).toInt ∧ (v2 3).toInt = (v 3).toInt ∧ (v2 4).toInt = (v 4).toInt)) := by
  refine mt_X11_askOf rfl (fun J hC => ?_)
  have hv9 := hv
  unfold md_V at hv9
  have rg_x1 := pm_rng x1
  have rg_x2 := pm_rng x2
  have rg_x3 := pm_rng x3
  refine hC.1 0 0 _ _ rfl _ _ _ _ _ ?_
  refine Exists.intro _ (And.intro md_o ?_)
  have k30 : (30 : Int32).toInt = 30 := rfl
  refine And.intro (fun c1 => ?_) (fun c1 => ?_)
  · skip
    have dc1 : ((v 6)).toInt = ((30 : Int32) : Int32).toInt := congrArg Int32.toInt c1
    refine hC.1 1 43 _ _ rfl _ _ _ _ _ ?_
    have km1 : (-1 : Int32).toInt = -1 := rfl
    exact ⟨rfl, fun e9 => absurd e9 (by decide), rfl, (-1 : Int32), v, f, rfl, rfl, hv, hf, rfl, by first | trivial | omega | (dsimp only; omega)⟩
  · skip
    have dc1 := pm_neI c1
    refine And.intro (Exists.intro _ md_o) (Exists.intro _ (Exists.intro _ (Exists.intro _ (Exists.intro _ (And.intro (c_X11_isKnown D v f hv hf x1 ) (And.intro rfl (fun r9 A9 h9 => ?_)))))))
    rcases h9 with ⟨y2, rfl, rfl, ⟨rfl, by2⟩ | ⟨rfl, by2⟩⟩
    · skip
      have k1 : (1 : Int32).toInt = 1 := rfl
      refine And.intro (fun c9 => absurd c9 (by decide)) (fun _ => ?_)
      refine And.intro (fun c3 => ?_) (fun c3 => ?_)
      · skip
        refine hC.1 1 43 _ _ rfl _ _ _ _ _ ?_
        have km1 : (-1 : Int32).toInt = -1 := rfl
        exact ⟨rfl, fun e9 => absurd e9 (by decide), rfl, (-1 : Int32), v, f, rfl, rfl, hv, hf, rfl, by first | trivial | omega | (dsimp only; omega)⟩
      · skip
        refine And.intro (fun c4 => ?_) (fun c4 => ?_)
        · skip
          refine hC.1 1 43 _ _ rfl _ _ _ _ _ ?_
          have km1 : (-1 : Int32).toInt = -1 := rfl
          exact ⟨rfl, fun e9 => absurd e9 (by decide), rfl, (-1 : Int32), v, f, rfl, rfl, hv, hf, rfl, by first | trivial | omega | (dsimp only; omega)⟩
        · skip
          refine And.intro (Exists.intro _ md_o) (Exists.intro _ (Exists.intro _ (Exists.intro _ (Exists.intro _ (And.intro (c_X11_wasPlace D v f hv hf x1 x2 (by omega)) (And.intro rfl (fun r9 A9 h9 => ?_)))))))
          obtain ⟨y5, rfl, rfl, by5⟩ := h9
          refine And.intro (fun c6 => ?_) (fun c6 => ?_)
          · skip
            refine hC.1 1 43 _ _ rfl _ _ _ _ _ ?_
            have km1 : (-1 : Int32).toInt = -1 := rfl
            exact ⟨rfl, fun e9 => absurd e9 (by decide), rfl, (-1 : Int32), v, f, rfl, rfl, hv, hf, rfl, by first | trivial | omega | (dsimp only; omega)⟩
          · skip
            refine And.intro (Exists.intro _ md_o) (Exists.intro _ (Exists.intro _ (Exists.intro _ (Exists.intro _ (And.intro (c_X11_wasPlace D v f hv hf x1 x3 (by omega)) (And.intro rfl (fun r9 A9 h9 => ?_)))))))
            obtain ⟨y7, rfl, rfl, by7⟩ := h9
            refine And.intro (fun c8 => ?_) (fun c8 => ?_)
            · skip
              refine hC.1 2 45 _ _ rfl _ _ _ _ _ ?_
              refine And.intro (Exists.intro _ md_o) (Exists.intro _ (Exists.intro _ (Exists.intro _ (Exists.intro _ (And.intro (c_X11_asks D v f hv hf x1 x2 x3 (by omega)) (And.intro rfl (fun r9 A9 h9 => ?_)))))))
              obtain ⟨y9, v10, f10, rfl, rfl, hv10, hf10, hx10, by9⟩ := h9
              have hw10 : f10 2 = f 2 := hx10.trans rfl
              have hu11 := hv10
              unfold md_V at hu11
              exact ⟨rfl, fun e9 => absurd e9 (by decide), rfl, y9, v10, f10, rfl, rfl, hv10, hf10, hw10, by first | trivial | omega | (dsimp only; omega)⟩
            · skip
              refine hC.1 1 43 _ _ rfl _ _ _ _ _ ?_
              have km1 : (-1 : Int32).toInt = -1 := rfl
              exact ⟨rfl, fun e9 => absurd e9 (by decide), rfl, (-1 : Int32), v, f, rfl, rfl, hv, hf, rfl, by first | trivial | omega | (dsimp only; omega)⟩
    · skip
      have k0 : (0 : Int32).toInt = 0 := rfl
      refine And.intro (fun _ => ?_) (fun c9 => absurd c9 (by decide))
      refine hC.1 1 43 _ _ rfl _ _ _ _ _ ?_
      have km1 : (-1 : Int32).toInt = -1 := rfl
      exact ⟨rfl, fun e9 => absurd e9 (by decide), rfl, (-1 : Int32), v, f, rfl, rfl, hv, hf, rfl, by first | trivial | omega | (dsimp only; omega)⟩

set_option maxRecDepth 100000 in
set_option maxHeartbeats 2000000 in
theorem c_X11_placeBy (D : md_D h q) (v : Nat → Int32) (f : Nat → Nat → Int32) (hv : md_V v) (hf : md_F f) (x1 : Int32) (x2 : Int32)  : pm_Mt l g 279 2 0 0 [.ref h, .int x1, .int x2] (md A0 g h q v f) (md_Qp (md A0 g h q v f) (fun r => -1 ≤ r.toInt ∧ r.toInt < 160 ∧ (0 ≤ r.toInt → x1.toInt = -1 ∨ 0 ≤ x1.toInt))) := by
  refine mt_X11_placeBy rfl (fun J hC => ?_)
  have hv9 := hv
  unfold md_V at hv9
  have rg_x1 := pm_rng x1
  have rg_x2 := pm_rng x2
  refine hC.1 0 0 _ _ rfl _ _ _ _ _ ?_
  have km1 : (-1 : Int32).toInt = -1 := rfl
  refine And.intro (fun c1 => ?_) (fun c1 => ?_)
  · skip
    have dc1 := pm_neI c1
    refine hC.1 1 13 _ _ rfl _ _ _ _ _ ?_
    refine And.intro (Exists.intro _ md_o) (Exists.intro _ (Exists.intro _ (Exists.intro _ (Exists.intro _ (And.intro (c_X11_isKnown D v f hv hf x1 ) (And.intro rfl (fun r9 A9 h9 => ?_)))))))
    rcases h9 with ⟨y2, rfl, rfl, ⟨rfl, by2⟩ | ⟨rfl, by2⟩⟩
    · skip
      have k1 : (1 : Int32).toInt = 1 := rfl
      refine And.intro (fun c9 => absurd c9 (by decide)) (fun _ => ?_)
      refine And.intro (Exists.intro _ md_o) (Exists.intro _ (Exists.intro _ (Exists.intro _ (Exists.intro _ (And.intro (c_X11_wasPlace D v f hv hf x1 x2 (by omega)) (And.intro rfl (fun r9 A9 h9 => ?_)))))))
      obtain ⟨y3, rfl, rfl, by3⟩ := h9
      refine hC.1 3 31 _ _ rfl _ _ _ _ _ ?_
      exact ⟨rfl, fun e9 => absurd e9 (by decide), rfl, y3, rfl, rfl, by first | trivial | omega | (dsimp only; omega)⟩
    · skip
      have k0 : (0 : Int32).toInt = 0 := rfl
      refine And.intro (fun _ => ?_) (fun c9 => absurd c9 (by decide))
      refine hC.1 2 30 _ _ rfl _ _ _ _ _ ?_
      refine hC.1 3 31 _ _ rfl _ _ _ _ _ ?_
      exact ⟨rfl, fun e9 => absurd e9 (by decide), rfl, (-1 : Int32), rfl, rfl, by first | trivial | omega | (dsimp only; omega)⟩
  · skip
    have dc1 : (x1).toInt = ((-1 : Int32) : Int32).toInt := congrArg Int32.toInt c1
    refine And.intro (Exists.intro _ md_o) (Exists.intro _ (Exists.intro _ (Exists.intro _ (Exists.intro _ (And.intro (c_X11_placeOf D v f hv hf x2 ) (And.intro rfl (fun r9 A9 h9 => ?_)))))))
    obtain ⟨y4, rfl, rfl, by4⟩ := h9
    refine hC.1 3 31 _ _ rfl _ _ _ _ _ ?_
    exact ⟨rfl, fun e9 => absurd e9 (by decide), rfl, y4, rfl, rfl, by first | trivial | omega | (dsimp only; omega)⟩

set_option maxRecDepth 100000 in
set_option maxHeartbeats 2000000 in
theorem c_X11_setBy (D : md_D h q) (v : Nat → Int32) (f : Nat → Nat → Int32) (hv : md_V v) (hf : md_F f) (x1 : Int32) (x2 : Int32) (x3 : Int32) (p0 : x1.toInt = -1 ∨ 0 ≤ x1.toInt) (p1 : 0 ≤ x2.toInt ∧ x2.toInt ≤ 160) (p2 : -1 ≤ x3.toInt ∧ x3.toInt < 160) : pm_Mt l g 280 2 0 0 [.ref h, .int x1, .int x2, .int x3] (md A0 g h q v f) (md_Qp (md A0 g h q v f) (fun r => True)) := by
  refine mt_X11_setBy rfl (fun J hC => ?_)
  have hv9 := hv
  unfold md_V at hv9
  have rg_x1 := pm_rng x1
  have rg_x2 := pm_rng x2
  have rg_x3 := pm_rng x3
  refine hC.1 0 0 _ _ rfl _ _ _ _ _ ?_
  have km1 : (-1 : Int32).toInt = -1 := rfl
  refine And.intro (fun c1 => ?_) (fun c1 => ?_)
  · skip
    have dc1 := pm_neI c1
    refine hC.1 1 14 _ _ rfl _ _ _ _ _ ?_
    refine And.intro (Exists.intro _ md_o) (Exists.intro _ (Exists.intro _ (Exists.intro _ (Exists.intro _ (And.intro (c_X11_wasSet D v f hv hf x1 x2 x3 (by omega) (by omega) (by omega)) (And.intro rfl (fun r9 A9 h9 => ?_)))))))
    obtain ⟨y2, rfl, rfl, by2⟩ := h9
    refine hC.1 2 21 _ _ rfl _ _ _ _ _ ?_
    exact ⟨rfl, fun e9 => absurd e9 (by decide), rfl, y2, rfl, rfl, by first | trivial | omega | (dsimp only; omega)⟩
  · skip
    have dc1 : (x1).toInt = ((-1 : Int32) : Int32).toInt := congrArg Int32.toInt c1
    refine And.intro (Exists.intro _ md_o) (Exists.intro _ (Exists.intro _ (Exists.intro _ (Exists.intro _ (And.intro (c_X11_setOf D v f hv hf x2 x3 (by omega) (by omega)) (And.intro rfl (fun r9 A9 h9 => ?_)))))))
    obtain ⟨y3, rfl, rfl, by3⟩ := h9
    refine hC.1 2 21 _ _ rfl _ _ _ _ _ ?_
    exact ⟨rfl, fun e9 => absurd e9 (by decide), rfl, y3, rfl, rfl, by first | trivial | omega | (dsimp only; omega)⟩

set_option maxRecDepth 100000 in
set_option maxHeartbeats 2000000 in
theorem c_X11_solve (D : md_D h q) (v : Nat → Int32) (f : Nat → Nat → Int32) (hv : md_V v) (hf : md_F f)  : pm_Mt l g 278 3 0 0 [.ref h] (md A0 g h q v f) (md_Qw A0 g h q f (fun r v2 f2 => (v2 0).toInt = (v 0).toInt ∧ (v2 1).toInt = (v 1).toInt ∧ (v2 2).toInt = (v 2).toInt ∧ (v2 3).toInt = (v 3).toInt ∧ (v2 4).toInt = (v 4).toInt ∧ (v2 6).toInt = (v 6).toInt)) := by
  refine mt_X11_solve rfl (fun J hC => ?_)
  have hv9 := hv
  unfold md_V at hv9
  refine hC.1 0 0 _ _ rfl _ _ _ _ _ ?_
  have k0 : (0 : Int32).toInt = 0 := rfl
  have lp2 : ∀ (n : Nat) (z1_4 : Int32) (z2_4 : Int32) (v1 : Nat → Int32) (f1 : Nat → Nat → Int32), md_V v1 → md_F f1 → f1 2 = f 2 → (0 ≤ z2_4.toInt ∧ z2_4.toInt ≤ (v 6).toInt) → (v1 0).toInt = (v 0).toInt → (v1 1).toInt = (v 1).toInt → (v1 2).toInt = (v 2).toInt → (v1 3).toInt = (v 3).toInt → (v1 4).toInt = (v 4).toInt → (v1 6).toInt = (v 6).toInt → 200 - z2_4.toInt < (n : Int) → J 4 [some (.ref h), some (.int z1_4), some (.int z2_4), none, none, none, none] [] (md A0 g h q v1 f1) 0 0 := by
    intro n
    induction n with
    | zero =>
      intro z1_4 z2_4 v1 f1 hv1 hf1 hw1 j0_4 j1_4 j2_4 j3_4 j4_4 j5_4 j6_4 j7_4
      omega
    | succ n ih3 =>
      intro z1_4 z2_4 v1 f1 hv1 hf1 hw1 j0_4 j1_4 j2_4 j3_4 j4_4 j5_4 j6_4 j7_4
      refine hC.1 1 4 _ _ rfl _ _ _ _ _ ?_
      have hu4 := hv1
      unfold md_V at hu4
      refine Exists.intro _ (And.intro md_o ?_)
      refine And.intro (fun c5 => ?_) (fun c5 => ?_)
      · skip
        refine hC.1 13 169 _ _ rfl _ _ _ _ _ ?_
        exact ⟨rfl, fun e9 => absurd e9 (by decide), rfl, z1_4, v1, f1, rfl, rfl, hv1, hf1, hw1, by first | trivial | omega | (dsimp only; omega)⟩
      · skip
        refine Exists.intro _ (And.intro md_o ?_)
        refine Exists.intro _ (Exists.intro _ (And.intro (Or.inl (md_a_askedEdit D)) (And.intro (by omega) ?_)))
        refine Exists.intro _ (And.intro md_o ?_)
        refine Exists.intro _ (Exists.intro _ (And.intro (Or.inl (md_a_askedOne D)) (And.intro (by omega) ?_)))
        refine And.intro (Exists.intro _ md_o) (Exists.intro _ (Exists.intro _ (Exists.intro _ (Exists.intro _ (And.intro (c_X11_placeBy D v1 f1 hv1 hf1 (f1 11 (z2_4).toInt.toNat) (f1 7 (z2_4).toInt.toNat) ) (And.intro rfl (fun r9 A9 h9 => ?_)))))))
        obtain ⟨y6, rfl, rfl, by6⟩ := h9
        refine Exists.intro _ (And.intro md_o ?_)
        refine Exists.intro _ (Exists.intro _ (And.intro (Or.inl (md_a_askedEdit D)) (And.intro (by omega) ?_)))
        refine Exists.intro _ (And.intro md_o ?_)
        refine Exists.intro _ (Exists.intro _ (And.intro (Or.inl (md_a_askedOther D)) (And.intro (by omega) ?_)))
        refine And.intro (Exists.intro _ md_o) (Exists.intro _ (Exists.intro _ (Exists.intro _ (Exists.intro _ (And.intro (c_X11_placeBy D v1 f1 hv1 hf1 (f1 11 (z2_4).toInt.toNat) (f1 8 (z2_4).toInt.toNat) ) (And.intro rfl (fun r9 A9 h9 => ?_)))))))
        obtain ⟨y7, rfl, rfl, by7⟩ := h9
        refine And.intro (fun c8 => ?_) (fun c8 => ?_)
        · skip
          refine hC.1 2 60 _ _ rfl _ _ _ _ _ ?_
          refine hC.1 3 61 _ _ rfl _ _ _ _ _ ?_
          refine And.intro (fun c9 => absurd c9 (by decide)) (fun _ => ?_)
          refine hC.1 6 107 _ _ rfl _ _ _ _ _ ?_
          refine Exists.intro _ (And.intro md_o ?_)
          refine And.intro (fun _ => ?_) (fun c9 => absurd c9 (by decide))
          refine hC.1 7 127 _ _ rfl _ _ _ _ _ ?_
          have km1 : (-1 : Int32).toInt = -1 := rfl
          refine hC.1 8 128 _ _ rfl _ _ _ _ _ ?_
          refine Exists.intro _ (Exists.intro _ (And.intro (md_a_answerCount D) (And.intro (by omega) ?_)))
          rw [md_s_answerCount D]
          obtain ⟨f9, ef9⟩ : ∃ z9, z9 = va_up f1 9 (upd (f1 9) (z2_4).toInt.toNat (-1 : Int32)) := ⟨_, rfl⟩
          rw [← ef9]
          have hf9 : md_F f9 := by rw [ef9]; exact md_F_st hf1 9 _ _ (md_rng _ _ (by decide))
          have hw9 : f9 2 = f 2 := (show f9 2 = f1 2 by rw [ef9]; rfl).trans hw1
          refine Exists.intro _ (And.intro md_o ?_)
          refine And.intro (fun _ => ?_) (fun c9 => absurd c9 (by decide))
          refine hC.1 9 148 _ _ rfl _ _ _ _ _ ?_
          refine hC.1 10 149 _ _ rfl _ _ _ _ _ ?_
          refine Exists.intro _ (Exists.intro _ (And.intro (md_a_answerWeight D) (And.intro (by omega) ?_)))
          rw [md_s_answerWeight D]
          obtain ⟨f10, ef10⟩ : ∃ z9, z9 = va_up f9 10 (upd (f9 10) (z2_4).toInt.toNat (-1 : Int32)) := ⟨_, rfl⟩
          rw [← ef10]
          have hf10 : md_F f10 := by rw [ef10]; exact md_F_st hf9 10 _ _ (md_rng _ _ (by decide))
          have hw10 : f10 2 = f 2 := (show f10 2 = f9 2 by rw [ef10]; rfl).trans hw9
          refine And.intro (fun _ => ?_) (fun c9 => absurd c9 (by decide))
          refine hC.1 11 160 _ _ rfl _ _ _ _ _ ?_
          refine hC.1 12 161 _ _ rfl _ _ _ _ _ ?_
          intro m11 em_161
          try have e11 : m11.toInt = (z1_4).toInt + (0) := by rw [em_161]; exact pm_addc _ _ (0) rfl (by omega) (by omega)
          have k1 : (1 : Int32).toInt = 1 := rfl
          intro m12 em_163
          try have e12 : m12.toInt = (z2_4).toInt + (1) := by rw [em_163]; exact pm_addc _ _ (1) rfl (by omega) (by omega)
          exact hC.2 [false, false, false, true, true, true, true] _ _ _ _ _ _ (ih3 m11 m12 v1 f10 hv1 hf10 hw10 (by omega) (by omega) (by omega) (by omega) (by omega) (by omega) (by omega) (by omega))
        · skip
          refine And.intro (fun c13 => ?_) (fun c13 => ?_)
          · skip
            refine hC.1 2 60 _ _ rfl _ _ _ _ _ ?_
            refine hC.1 3 61 _ _ rfl _ _ _ _ _ ?_
            refine And.intro (fun c9 => absurd c9 (by decide)) (fun _ => ?_)
            refine hC.1 6 107 _ _ rfl _ _ _ _ _ ?_
            refine Exists.intro _ (And.intro md_o ?_)
            refine And.intro (fun _ => ?_) (fun c9 => absurd c9 (by decide))
            refine hC.1 7 127 _ _ rfl _ _ _ _ _ ?_
            have km1 : (-1 : Int32).toInt = -1 := rfl
            refine hC.1 8 128 _ _ rfl _ _ _ _ _ ?_
            refine Exists.intro _ (Exists.intro _ (And.intro (md_a_answerCount D) (And.intro (by omega) ?_)))
            rw [md_s_answerCount D]
            obtain ⟨f14, ef14⟩ : ∃ z9, z9 = va_up f1 9 (upd (f1 9) (z2_4).toInt.toNat (-1 : Int32)) := ⟨_, rfl⟩
            rw [← ef14]
            have hf14 : md_F f14 := by rw [ef14]; exact md_F_st hf1 9 _ _ (md_rng _ _ (by decide))
            have hw14 : f14 2 = f 2 := (show f14 2 = f1 2 by rw [ef14]; rfl).trans hw1
            refine Exists.intro _ (And.intro md_o ?_)
            refine And.intro (fun _ => ?_) (fun c9 => absurd c9 (by decide))
            refine hC.1 9 148 _ _ rfl _ _ _ _ _ ?_
            refine hC.1 10 149 _ _ rfl _ _ _ _ _ ?_
            refine Exists.intro _ (Exists.intro _ (And.intro (md_a_answerWeight D) (And.intro (by omega) ?_)))
            rw [md_s_answerWeight D]
            obtain ⟨f15, ef15⟩ : ∃ z9, z9 = va_up f14 10 (upd (f14 10) (z2_4).toInt.toNat (-1 : Int32)) := ⟨_, rfl⟩
            rw [← ef15]
            have hf15 : md_F f15 := by rw [ef15]; exact md_F_st hf14 10 _ _ (md_rng _ _ (by decide))
            have hw15 : f15 2 = f 2 := (show f15 2 = f14 2 by rw [ef15]; rfl).trans hw14
            refine And.intro (fun _ => ?_) (fun c9 => absurd c9 (by decide))
            refine hC.1 11 160 _ _ rfl _ _ _ _ _ ?_
            refine hC.1 12 161 _ _ rfl _ _ _ _ _ ?_
            intro m16 em_161
            try have e16 : m16.toInt = (z1_4).toInt + (0) := by rw [em_161]; exact pm_addc _ _ (0) rfl (by omega) (by omega)
            have k1 : (1 : Int32).toInt = 1 := rfl
            intro m17 em_163
            try have e17 : m17.toInt = (z2_4).toInt + (1) := by rw [em_163]; exact pm_addc _ _ (1) rfl (by omega) (by omega)
            exact hC.2 [false, false, false, true, true, true, true] _ _ _ _ _ _ (ih3 m16 m17 v1 f15 hv1 hf15 hw15 (by omega) (by omega) (by omega) (by omega) (by omega) (by omega) (by omega) (by omega))
          · skip
            have k1 : (1 : Int32).toInt = 1 := rfl
            refine hC.1 3 61 _ _ rfl _ _ _ _ _ ?_
            refine And.intro (fun _ => ?_) (fun c9 => absurd c9 (by decide))
            refine hC.1 4 72 _ _ rfl _ _ _ _ _ ?_
            refine And.intro (fun c18 => ?_) (fun c18 => ?_)
            · skip
              refine hC.1 5 94 _ _ rfl _ _ _ _ _ ?_
              refine Exists.intro _ (And.intro md_o ?_)
              refine Exists.intro _ (Exists.intro _ (And.intro (Or.inl (md_a_askedEdit D)) (And.intro (by omega) ?_)))
              refine And.intro (Exists.intro _ md_o) (Exists.intro _ (Exists.intro _ (Exists.intro _ (Exists.intro _ (And.intro (c_X11_setBy D v1 f1 hv1 hf1 (f1 11 (z2_4).toInt.toNat) y7 y6 (by omega) (by omega) (by omega)) (And.intro rfl (fun r9 A9 h9 => ?_)))))))
              obtain ⟨y19, rfl, rfl, by19⟩ := h9
              refine hC.1 6 107 _ _ rfl _ _ _ _ _ ?_
              refine Exists.intro _ (And.intro md_o ?_)
              refine And.intro (fun c9 => absurd c9 (by decide)) (fun _ => ?_)
              refine Exists.intro _ (Exists.intro _ (Exists.intro _ (Exists.intro _ (And.intro (c_X11_bits (md A0 g h q v1 f1) y19 ) (And.intro rfl (fun r9 A9 h9 => ?_))))))
              obtain ⟨y20, rfl, rfl, by20⟩ := h9
              refine hC.1 8 128 _ _ rfl _ _ _ _ _ ?_
              refine Exists.intro _ (Exists.intro _ (And.intro (md_a_answerCount D) (And.intro (by omega) ?_)))
              rw [md_s_answerCount D]
              obtain ⟨f21, ef21⟩ : ∃ z9, z9 = va_up f1 9 (upd (f1 9) (z2_4).toInt.toNat y20) := ⟨_, rfl⟩
              rw [← ef21]
              have hf21 : md_F f21 := by rw [ef21]; exact md_F_st hf1 9 _ _ (md_rng _ _ (by decide))
              have hw21 : f21 2 = f 2 := (show f21 2 = f1 2 by rw [ef21]; rfl).trans hw1
              refine Exists.intro _ (And.intro md_o ?_)
              refine And.intro (fun c9 => absurd c9 (by decide)) (fun _ => ?_)
              refine And.intro (Exists.intro _ md_o) (Exists.intro _ (Exists.intro _ (Exists.intro _ (Exists.intro _ (And.intro (c_X11_weightOf D v1 f21 hv1 hf21 y19 ) (And.intro rfl (fun r9 A9 h9 => ?_)))))))
              obtain ⟨y22, rfl, rfl, by22⟩ := h9
              refine hC.1 10 149 _ _ rfl _ _ _ _ _ ?_
              refine Exists.intro _ (Exists.intro _ (And.intro (md_a_answerWeight D) (And.intro (by omega) ?_)))
              rw [md_s_answerWeight D]
              obtain ⟨f23, ef23⟩ : ∃ z9, z9 = va_up f21 10 (upd (f21 10) (z2_4).toInt.toNat y22) := ⟨_, rfl⟩
              rw [← ef23]
              have hf23 : md_F f23 := by rw [ef23]; exact md_F_st hf21 10 _ _ (md_rng _ _ (by decide))
              have hw23 : f23 2 = f 2 := (show f23 2 = f21 2 by rw [ef23]; rfl).trans hw21
              refine And.intro (fun c9 => absurd c9 (by decide)) (fun _ => ?_)
              refine hC.1 12 161 _ _ rfl _ _ _ _ _ ?_
              intro m24 em_161
              try have e24 : m24.toInt = (z1_4).toInt + (1) := by rw [em_161]; exact pm_addc _ _ (1) rfl (by omega) (by omega)
              intro m25 em_163
              try have e25 : m25.toInt = (z2_4).toInt + (1) := by rw [em_163]; exact pm_addc _ _ (1) rfl (by omega) (by omega)
              exact hC.2 [false, false, false, true, true, true, true] _ _ _ _ _ _ (ih3 m24 m25 v1 f23 hv1 hf23 hw23 (by omega) (by omega) (by omega) (by omega) (by omega) (by omega) (by omega) (by omega))
            · skip
              refine Exists.intro _ (And.intro md_o ?_)
              refine Exists.intro _ (Exists.intro _ (And.intro (Or.inl (md_a_askedEdit D)) (And.intro (by omega) ?_)))
              refine And.intro (Exists.intro _ md_o) (Exists.intro _ (Exists.intro _ (Exists.intro _ (Exists.intro _ (And.intro (c_X11_setBy D v1 f1 hv1 hf1 (f1 11 (z2_4).toInt.toNat) y6 y7 (by omega) (by omega) (by omega)) (And.intro rfl (fun r9 A9 h9 => ?_)))))))
              obtain ⟨y26, rfl, rfl, by26⟩ := h9
              refine hC.1 6 107 _ _ rfl _ _ _ _ _ ?_
              refine Exists.intro _ (And.intro md_o ?_)
              refine And.intro (fun c9 => absurd c9 (by decide)) (fun _ => ?_)
              refine Exists.intro _ (Exists.intro _ (Exists.intro _ (Exists.intro _ (And.intro (c_X11_bits (md A0 g h q v1 f1) y26 ) (And.intro rfl (fun r9 A9 h9 => ?_))))))
              obtain ⟨y27, rfl, rfl, by27⟩ := h9
              refine hC.1 8 128 _ _ rfl _ _ _ _ _ ?_
              refine Exists.intro _ (Exists.intro _ (And.intro (md_a_answerCount D) (And.intro (by omega) ?_)))
              rw [md_s_answerCount D]
              obtain ⟨f28, ef28⟩ : ∃ z9, z9 = va_up f1 9 (upd (f1 9) (z2_4).toInt.toNat y27) := ⟨_, rfl⟩
              rw [← ef28]
              have hf28 : md_F f28 := by rw [ef28]; exact md_F_st hf1 9 _ _ (md_rng _ _ (by decide))
              have hw28 : f28 2 = f 2 := (show f28 2 = f1 2 by rw [ef28]; rfl).trans hw1
              refine Exists.intro _ (And.intro md_o ?_)
              refine And.intro (fun c9 => absurd c9 (by decide)) (fun _ => ?_)
              refine And.intro (Exists.intro _ md_o) (Exists.intro _ (Exists.intro _ (Exists.intro _ (Exists.intro _ (And.intro (c_X11_weightOf D v1 f28 hv1 hf28 y26 ) (And.intro rfl (fun r9 A9 h9 => ?_)))))))
              obtain ⟨y29, rfl, rfl, by29⟩ := h9
              refine hC.1 10 149 _ _ rfl _ _ _ _ _ ?_
              refine Exists.intro _ (Exists.intro _ (And.intro (md_a_answerWeight D) (And.intro (by omega) ?_)))
              rw [md_s_answerWeight D]
              obtain ⟨f30, ef30⟩ : ∃ z9, z9 = va_up f28 10 (upd (f28 10) (z2_4).toInt.toNat y29) := ⟨_, rfl⟩
              rw [← ef30]
              have hf30 : md_F f30 := by rw [ef30]; exact md_F_st hf28 10 _ _ (md_rng _ _ (by decide))
              have hw30 : f30 2 = f 2 := (show f30 2 = f28 2 by rw [ef30]; rfl).trans hw28
              refine And.intro (fun c9 => absurd c9 (by decide)) (fun _ => ?_)
              refine hC.1 12 161 _ _ rfl _ _ _ _ _ ?_
              intro m31 em_161
              try have e31 : m31.toInt = (z1_4).toInt + (1) := by rw [em_161]; exact pm_addc _ _ (1) rfl (by omega) (by omega)
              intro m32 em_163
              try have e32 : m32.toInt = (z2_4).toInt + (1) := by rw [em_163]; exact pm_addc _ _ (1) rfl (by omega) (by omega)
              exact hC.2 [false, false, false, true, true, true, true] _ _ _ _ _ _ (ih3 m31 m32 v1 f30 hv1 hf30 hw30 (by omega) (by omega) (by omega) (by omega) (by omega) (by omega) (by omega) (by omega))
  exact lp2 (200 - (0 : Int32).toInt).toNat.succ (0 : Int32) (0 : Int32) v f hv hf rfl (by omega) (by omega) (by omega) (by omega) (by omega) (by omega) (by omega) (by omega)

set_option maxRecDepth 100000 in
set_option maxHeartbeats 2000000 in
theorem c_X11_asked (D : md_D h q) (v : Nat → Int32) (f : Nat → Nat → Int32) (hv : md_V v) (hf : md_F f) (x1 : Int32) (x2 : Int32)  : pm_Mt l g 281 1 0 0 [.ref h, .int x1, .int x2] (md A0 g h q v f) (md_Qp (md A0 g h q v f) (fun r => True)) := by
  refine mt_X11_asked rfl (fun J hC => ?_)
  have hv9 := hv
  unfold md_V at hv9
  have rg_x1 := pm_rng x1
  have rg_x2 := pm_rng x2
  refine hC.1 0 0 _ _ rfl _ _ _ _ _ ?_
  have k0 : (0 : Int32).toInt = 0 := rfl
  refine Exists.intro _ (And.intro md_o ?_)
  have k1 : (1 : Int32).toInt = 1 := rfl
  intro m1 em_7
  try have e1 : m1.toInt = ((v 6)).toInt - (1) := by rw [em_7]; exact pm_subc _ _ (1) rfl (by omega) (by omega)
  refine Exists.intro _ (Exists.intro _ (Exists.intro _ (Exists.intro _ (And.intro (c_X11_isIn (md A0 g h q v f) x1 (0 : Int32) m1 ) (And.intro rfl (fun r9 A9 h9 => ?_))))))
  rcases h9 with ⟨y2, rfl, rfl, ⟨rfl, by2⟩ | ⟨rfl, by2⟩⟩
  · skip
    refine And.intro (fun _ => ?_) (fun c9 => absurd c9 (by decide))
    refine hC.1 1 16 _ _ rfl _ _ _ _ _ ?_
    refine pm_swc 5 rfl (by decide) ?_ ?_
    · intro _
      refine hC.1 7 87 _ _ rfl _ _ _ _ _ ?_
      have km1 : (-1 : Int32).toInt = -1 := rfl
      exact ⟨rfl, fun e9 => absurd e9 (by decide), rfl, (-1 : Int32), rfl, rfl, by first | trivial | omega | (dsimp only; omega)⟩
    · intro i9 hi9 he9
      rcases (show i9 = 0 ∨ i9 = 1 ∨ i9 = 2 ∨ i9 = 3 ∨ i9 = 4 by omega) with rfl | rfl | rfl | rfl | rfl
      · skip
        refine hC.1 2 52 _ _ rfl _ _ _ _ _ ?_
        refine Exists.intro _ (And.intro md_o ?_)
        refine Exists.intro _ (Exists.intro _ (And.intro (Or.inl (md_a_answerCount D)) (And.intro (by omega) ?_)))
        exact ⟨rfl, fun e9 => absurd e9 (by decide), rfl, (f 9 (x1).toInt.toNat), rfl, rfl, by first | trivial | omega | (dsimp only; omega)⟩
      · skip
        refine hC.1 3 59 _ _ rfl _ _ _ _ _ ?_
        refine Exists.intro _ (And.intro md_o ?_)
        refine Exists.intro _ (Exists.intro _ (And.intro (Or.inl (md_a_answerWeight D)) (And.intro (by omega) ?_)))
        exact ⟨rfl, fun e9 => absurd e9 (by decide), rfl, (f 10 (x1).toInt.toNat), rfl, rfl, by first | trivial | omega | (dsimp only; omega)⟩
      · skip
        refine hC.1 4 66 _ _ rfl _ _ _ _ _ ?_
        refine Exists.intro _ (And.intro md_o ?_)
        refine Exists.intro _ (Exists.intro _ (And.intro (Or.inl (md_a_askedOne D)) (And.intro (by omega) ?_)))
        exact ⟨rfl, fun e9 => absurd e9 (by decide), rfl, (f 7 (x1).toInt.toNat), rfl, rfl, by first | trivial | omega | (dsimp only; omega)⟩
      · skip
        refine hC.1 5 73 _ _ rfl _ _ _ _ _ ?_
        refine Exists.intro _ (And.intro md_o ?_)
        refine Exists.intro _ (Exists.intro _ (And.intro (Or.inl (md_a_askedOther D)) (And.intro (by omega) ?_)))
        exact ⟨rfl, fun e9 => absurd e9 (by decide), rfl, (f 8 (x1).toInt.toNat), rfl, rfl, by first | trivial | omega | (dsimp only; omega)⟩
      · skip
        refine hC.1 6 80 _ _ rfl _ _ _ _ _ ?_
        refine Exists.intro _ (And.intro md_o ?_)
        refine Exists.intro _ (Exists.intro _ (And.intro (Or.inl (md_a_askedEdit D)) (And.intro (by omega) ?_)))
        exact ⟨rfl, fun e9 => absurd e9 (by decide), rfl, (f 11 (x1).toInt.toNat), rfl, rfl, by first | trivial | omega | (dsimp only; omega)⟩
  · skip
    refine And.intro (fun c9 => absurd c9 (by decide)) (fun _ => ?_)
    have km1 : (-1 : Int32).toInt = -1 := rfl
    exact ⟨rfl, fun e9 => absurd e9 (by decide), rfl, (-1 : Int32), rfl, rfl, by first | trivial | omega | (dsimp only; omega)⟩

set_option maxRecDepth 100000 in
set_option maxHeartbeats 2000000 in
theorem c_X11_forget (D : md_D h q) (v : Nat → Int32) (f : Nat → Nat → Int32) (hv : md_V v) (hf : md_F f)  : pm_Mt l g 282 0 0 0 [.ref h] (md A0 g h q v f) (md_Qw A0 g h q f (fun r v2 f2 => (v2 0).toInt = (v 0).toInt ∧ (v2 1).toInt = (v 1).toInt ∧ (v2 2).toInt = (v 2).toInt ∧ (v2 3).toInt = (v 3).toInt ∧ (v2 4).toInt = (v 4).toInt)) := by
  refine mt_X11_forget rfl (fun J hC => ?_)
  have hv9 := hv
  unfold md_V at hv9
  refine hC.1 0 0 _ _ rfl _ _ _ _ _ ?_
  refine Exists.intro _ (And.intro md_o ?_)
  have k0 : (0 : Int32).toInt = 0 := rfl
  refine Exists.intro _ (And.intro md_o (And.intro rfl ?_))
  rw [md_p_askedMany D]
  obtain ⟨v1, ev1⟩ : ∃ z9, z9 = upd v 6 (0 : Int32) := ⟨_, rfl⟩
  rw [← ev1]
  have ev1_0 : (v1 0).toInt = (v 0).toInt := by rw [ev1]; rfl
  have ev1_1 : (v1 1).toInt = (v 1).toInt := by rw [ev1]; rfl
  have ev1_2 : (v1 2).toInt = (v 2).toInt := by rw [ev1]; rfl
  have ev1_3 : (v1 3).toInt = (v 3).toInt := by rw [ev1]; rfl
  have ev1_4 : (v1 4).toInt = (v 4).toInt := by rw [ev1]; rfl
  have ev1_5 : (v1 5).toInt = (v 5).toInt := by rw [ev1]; rfl
  have ev1_6 : (v1 6).toInt = ((0 : Int32)).toInt := by rw [ev1]; rfl
  have ev1_7 : (v1 7).toInt = (v 7).toInt := by rw [ev1]; rfl
  have pn_7 : v1 6 = (0 : Int32) := by rw [ev1]; rfl
  have hv2 : md_V v1 := by unfold md_V; omega
  exact ⟨rfl, fun e9 => absurd e9 (by decide), rfl, (v 6), v1, f, rfl, rfl, hv2, hf, rfl, by first | trivial | omega | (dsimp only; omega)⟩

end
