section
section
variable {l : Launch} {g : pm_G} {A0 : pm_H} {h : Nat} {q : Nat → Nat}
set_option maxRecDepth 100000 in
set_option maxHeartbeats 2000000 in
theorem V_X11_best (D : md_D h q) (v : Nat → Int32) (f : Nat → Nat → Int32) (hv : md_V v) (hf : md_F f) (x1 : Int32) (x2 : Int32)  : pm_Mt l g 272 3 0 0 [.ref h, .int x1, .int x2] (md A0 g h q v f) (md_Qw A0 g h q f (fun r v2 f2 => f2 0 = f 0 ∧ f2 1 = f 1 ∧ f2 12 = f 12 ∧ f2 13 = f 13 ∧ f2 14 = f 14 ∧ f2 15 = f 15 ∧ f2 7 = f 7 ∧ f2 8 = f 8 ∧ f2 9 = f 9 ∧ f2 10 = f 10 ∧ f2 11 = f 11 ∧ (v2 0).toInt = (v 0).toInt ∧ (v2 1).toInt = (v 1).toInt ∧ (v2 2).toInt = (v 2).toInt ∧ (v2 3).toInt = (v 3).toInt ∧ (v2 4).toInt = (v 4).toInt ∧ (v2 5).toInt = (v 5).toInt ∧ (v2 6).toInt = (v 6).toInt)) := by
  refine mt_X11_best rfl (fun J hC => ?_)
  have hv9 := hv
  unfold md_V at hv9
  have rg_x1 := pm_rng x1
  have rg_x2 := pm_rng x2
  refine hC.1 0 0 _ _ rfl _ _ _ _ _ ?_
  have k1 : (1 : Int32).toInt = 1 := rfl
  have k8 : (8 : Int32).toInt = 8 := rfl
  refine Exists.intro _ (Exists.intro _ (Exists.intro _ (Exists.intro _ (And.intro (c_X11_isIn (md A0 g h q v f) x1 (1 : Int32) (8 : Int32) ) (And.intro rfl (fun r9 A9 h9 => ?_))))))
  rcases h9 with ⟨y1, rfl, rfl, ⟨rfl, by1⟩ | ⟨rfl, by1⟩⟩
  · skip
    refine And.intro (fun c9 => absurd c9 (by decide)) (fun _ => ?_)
    refine Exists.intro _ (And.intro md_o ?_)
    refine And.intro (fun c2 => ?_) (fun c2 => ?_)
    · skip
      refine hC.1 1 29 _ _ rfl _ _ _ _ _ ?_
      have km1 : (-1 : Int32).toInt = -1 := rfl
      exact ⟨rfl, fun e9 => absurd e9 (by decide), rfl, (-1 : Int32), v, f, rfl, rfl, hv, hf, rfl, rfl, rfl, rfl, rfl, rfl, rfl, rfl, rfl, rfl, rfl, rfl, by first | omega | (dsimp only; omega) | trivial⟩
    · skip
      have km1 : (-1 : Int32).toInt = -1 := rfl
      intro m3 em_22
      try have e3 : m3.toInt = (x1).toInt - (1) := by rw [em_22]; exact pm_subc _ _ (1) rfl (by omega) (by omega)
      refine Exists.intro _ (Exists.intro _ (Exists.intro _ (Exists.intro _ (And.intro (c_X11_isIn (md A0 g h q v f) x2 (-1 : Int32) m3 ) (And.intro rfl (fun r9 A9 h9 => ?_))))))
      rcases h9 with ⟨y4, rfl, rfl, ⟨rfl, by4⟩ | ⟨rfl, by4⟩⟩
      · skip
        refine And.intro (fun _ => ?_) (fun c9 => absurd c9 (by decide))
        refine hC.1 2 31 _ _ rfl _ _ _ _ _ ?_
        refine And.intro (Exists.intro _ md_o) (Exists.intro _ (Exists.intro _ (Exists.intro _ (Exists.intro _ (And.intro (V_X11_layBest D v f hv hf x1 (by omega)) (And.intro rfl (fun r9 A9 h9 => ?_)))))))
        obtain ⟨v6, f6, rfl, rfl, hv6, hf6, hx6, hg6_0, hg6_1, hg6_12, hg6_13, hg6_14, hg6_15, hg6_7, hg6_8, hg6_9, hg6_10, hg6_11, by5⟩ := h9
        have hw6 : f6 2 = f 2 := hx6.trans rfl
        have hr6_0 : f6 0 = f 0 := hg6_0.trans rfl
        have hr6_1 : f6 1 = f 1 := hg6_1.trans rfl
        have hr6_12 : f6 12 = f 12 := hg6_12.trans rfl
        have hr6_13 : f6 13 = f 13 := hg6_13.trans rfl
        have hr6_14 : f6 14 = f 14 := hg6_14.trans rfl
        have hr6_15 : f6 15 = f 15 := hg6_15.trans rfl
        have hr6_7 : f6 7 = f 7 := hg6_7.trans rfl
        have hr6_8 : f6 8 = f 8 := hg6_8.trans rfl
        have hr6_9 : f6 9 = f 9 := hg6_9.trans rfl
        have hr6_10 : f6 10 = f 10 := hg6_10.trans rfl
        have hr6_11 : f6 11 = f 11 := hg6_11.trans rfl
        have k161 : (161 : Int32).toInt = 161 := rfl
        refine And.intro (fun c8 => ?_) (fun c8 => ?_)
        · skip
          have dc8 := pm_neI c8
          refine hC.1 3 54 _ _ rfl _ _ _ _ _ ?_
          have k0 : (0 : Int32).toInt = 0 := rfl
          have lp9 : ∀ (n : Nat) (z4_60 : Int32) (z5_60 : Int32), (0 ≤ z4_60.toInt ∧ z4_60.toInt ≤ 160) → (0 ≤ z5_60.toInt ∧ z5_60.toInt ≤ x1.toInt) → z5_60.toInt < (n : Int) → J 60 [some (.ref h), some (.int x1), some (.int x2), some (.int (161 : Int32)), some (.int z4_60), some (.int z5_60)] [] (md A0 g h q v6 f6) 0 0 := by
            intro n
            induction n with
            | zero =>
              intro z4_60 z5_60 j0_60 j1_60 j2_60
              omega
            | succ n ih10 =>
              intro z4_60 z5_60 j0_60 j1_60 j2_60
              refine hC.1 4 60 _ _ rfl _ _ _ _ _ ?_
              intro m11 em_64
              try have e11 : m11.toInt = (x1).toInt - (x2).toInt := by rw [em_64]; exact pm_sub _ _ (by omega) (by omega)
              refine And.intro (fun c12 => ?_) (fun c12 => ?_)
              · skip
                refine hC.1 5 90 _ _ rfl _ _ _ _ _ ?_
                refine Exists.intro _ (And.intro md_o ?_)
                intro m13 em_97
                try have e13 : m13.toInt = (x1).toInt - (x2).toInt := by rw [em_97]; exact pm_sub _ _ (by omega) (by omega)
                intro m14 em_98
                try have e14 : m14.toInt = (161) * (m13).toInt := by rw [em_98]; exact pm_mulk _ _ (161) rfl (by omega) (by omega)
                intro m15 em_101
                try have e15 : m15.toInt = (m14).toInt + (z4_60).toInt := by rw [em_101]; exact pm_add _ _ (by omega) (by omega)
                refine Exists.intro _ (Exists.intro _ (And.intro (Or.inl (md_a_ends0 D)) (And.intro (by omega) ?_)))
                have w16 : (0 : Int) ≤ (f6 19 (m15).toInt.toNat).toInt ∧ (f6 19 (m15).toInt.toNat).toInt ≤ (159 : Int) := hf6 19 _
                exact ⟨rfl, fun e9 => absurd e9 (by decide), rfl, (f6 19 (m15).toInt.toNat), v6, f6, rfl, rfl, hv6, hf6, hw6, hr6_0, hr6_1, hr6_12, hr6_13, hr6_14, hr6_15, hr6_7, hr6_8, hr6_9, hr6_10, hr6_11, by first | omega | (dsimp only; omega) | trivial⟩
              · skip
                refine Exists.intro _ (And.intro md_o ?_)
                intro m17 em_75
                try have e17 : m17.toInt = (161) * (z5_60).toInt := by rw [em_75]; exact pm_mulk _ _ (161) rfl (by omega) (by omega)
                intro m18 em_78
                try have e18 : m18.toInt = (m17).toInt + (z4_60).toInt := by rw [em_78]; exact pm_add _ _ (by omega) (by omega)
                refine Exists.intro _ (Exists.intro _ (And.intro (Or.inl (md_a_ends0 D)) (And.intro (by omega) ?_)))
                have w19 : (0 : Int) ≤ (f6 19 (m18).toInt.toNat).toInt ∧ (f6 19 (m18).toInt.toNat).toInt ≤ (159 : Int) := hf6 19 _
                intro m20 em_81
                try have e20 : m20.toInt = ((f6 19 (m18).toInt.toNat)).toInt + (1) := by rw [em_81]; exact pm_addc _ _ (1) rfl (by omega) (by omega)
                intro m21 em_84
                try have e21 : m21.toInt = (z5_60).toInt + (-1) := by rw [em_84]; exact pm_addc _ _ (-1) rfl (by omega) (by omega)
                exact ih10 m20 m21 (by omega) (by omega) (by omega)
          exact lp9 (x1.toInt).toNat.succ (0 : Int32) x1 (by omega) (by omega) (by omega)
        · skip
          have dc8 : (x2).toInt = ((-1 : Int32) : Int32).toInt := congrArg Int32.toInt c8
          refine Exists.intro _ (And.intro md_o ?_)
          intro m22 em_51
          try have e22 : m22.toInt = (161) * (x1).toInt := by rw [em_51]; exact pm_mulk _ _ (161) rfl (by omega) (by omega)
          refine Exists.intro _ (Exists.intro _ (And.intro (Or.inl (md_a_worth D)) (And.intro (by omega) ?_)))
          exact ⟨rfl, fun e9 => absurd e9 (by decide), rfl, (f6 18 (m22).toInt.toNat), v6, f6, rfl, rfl, hv6, hf6, hw6, hr6_0, hr6_1, hr6_12, hr6_13, hr6_14, hr6_15, hr6_7, hr6_8, hr6_9, hr6_10, hr6_11, by first | omega | (dsimp only; omega) | trivial⟩
      · skip
        have k0 : (0 : Int32).toInt = 0 := rfl
        refine And.intro (fun c9 => absurd c9 (by decide)) (fun _ => ?_)
        refine hC.1 1 29 _ _ rfl _ _ _ _ _ ?_
        exact ⟨rfl, fun e9 => absurd e9 (by decide), rfl, (-1 : Int32), v, f, rfl, rfl, hv, hf, rfl, rfl, rfl, rfl, rfl, rfl, rfl, rfl, rfl, rfl, rfl, rfl, by first | omega | (dsimp only; omega) | trivial⟩
  · skip
    have k0 : (0 : Int32).toInt = 0 := rfl
    refine And.intro (fun _ => ?_) (fun c9 => absurd c9 (by decide))
    refine hC.1 1 29 _ _ rfl _ _ _ _ _ ?_
    have km1 : (-1 : Int32).toInt = -1 := rfl
    exact ⟨rfl, fun e9 => absurd e9 (by decide), rfl, (-1 : Int32), v, f, rfl, rfl, hv, hf, rfl, rfl, rfl, rfl, rfl, rfl, rfl, rfl, rfl, rfl, rfl, rfl, by first | omega | (dsimp only; omega) | trivial⟩

end
end
section
section
variable {l : Launch} {g : pm_G} {A0 : pm_H} {h : Nat} {q : Nat → Nat}
set_option maxRecDepth 100000 in
set_option maxHeartbeats 2000000 in
theorem U_X11_begins (D : md_D h q) (v : Nat → Int32) (f : Nat → Nat → Int32) (hv : md_V v) (hf : md_F f)  : pm_Mt l g 172 2 0 0 [.ref h] (md A0 g h q v f) (md_Qv A0 g h q f (fun v2 f2 => f2 0 = f 0 ∧ f2 1 = f 1 ∧ f2 12 = f 12 ∧ f2 13 = f 13 ∧ f2 14 = f 14 ∧ f2 15 = f 15 ∧ f2 7 = f 7 ∧ f2 8 = f 8 ∧ f2 9 = f 9 ∧ f2 10 = f 10 ∧ f2 11 = f 11 ∧ ((v2 0).toInt = (v 0).toInt ∧ (v2 3).toInt = (v 3).toInt ∧ (v2 4).toInt = (v 4).toInt ∧ (v2 5).toInt = (v 5).toInt ∧ (v2 6).toInt = (v 6).toInt ∧ (v2 2).toInt = 0) ∧ (OB v2 f2 (v 0).toInt (f 0) (f 1)))) := by
  refine mt_X11_begins rfl (fun J hC => ?_)
  have hv9 := hv
  unfold md_V at hv9
  refine hC.1 0 0 _ _ rfl _ _ _ _ _ ?_
  refine Exists.intro _ (And.intro md_o ?_)
  refine Exists.intro _ (And.intro md_o (And.intro rfl ?_))
  rw [md_p_oldMany D]
  obtain ⟨v1, ev1⟩ : ∃ z9, z9 = upd v 1 (v 0) := ⟨_, rfl⟩
  rw [← ev1]
  have ev1_0 : (v1 0).toInt = (v 0).toInt := by rw [ev1]; rfl
  have ev1_1 : (v1 1).toInt = ((v 0)).toInt := by rw [ev1]; rfl
  have ev1_2 : (v1 2).toInt = (v 2).toInt := by rw [ev1]; rfl
  have ev1_3 : (v1 3).toInt = (v 3).toInt := by rw [ev1]; rfl
  have ev1_4 : (v1 4).toInt = (v 4).toInt := by rw [ev1]; rfl
  have ev1_5 : (v1 5).toInt = (v 5).toInt := by rw [ev1]; rfl
  have ev1_6 : (v1 6).toInt = (v 6).toInt := by rw [ev1]; rfl
  have ev1_7 : (v1 7).toInt = (v 7).toInt := by rw [ev1]; rfl
  have pn_5 : v1 1 = (v 0) := by rw [ev1]; rfl
  have k0 : (0 : Int32).toInt = 0 := rfl
  have lp3 : ∀ (n : Nat) (z1_10 : Int32) (v2 : Nat → Int32) (f2 : Nat → Nat → Int32), md_V v2 → md_F f2 → f2 2 = f 2 → f2 0 = f 0 → f2 1 = f 1 → f2 12 = f 12 → f2 13 = f 13 → f2 14 = f 14 → f2 15 = f 15 → f2 7 = f 7 → f2 8 = f 8 → f2 9 = f 9 → f2 10 = f 10 → f2 11 = f 11 → (0 ≤ z1_10.toInt ∧ z1_10.toInt ≤ (v 0).toInt) → ((v2 1).toInt = (v 0).toInt) → (∀ k : Nat, (k : Int) < z1_10.toInt → f2 3 k = f 1 k ∧ f2 4 k = bo (f 0) (f 1) k) → (v2 0).toInt = (v 0).toInt → (v2 3).toInt = (v 3).toInt → (v2 4).toInt = (v 4).toInt → (v2 5).toInt = (v 5).toInt → (v2 6).toInt = (v 6).toInt → 200 - z1_10.toInt < (n : Int) → J 10 [some (.ref h), some (.int z1_10)] [] (md A0 g h q v2 f2) 0 0 := by
    intro n
    induction n with
    | zero =>
      intro z1_10 v2 f2 hv2 hf2 hw2 hr2_0 hr2_1 hr2_12 hr2_13 hr2_14 hr2_15 hr2_7 hr2_8 hr2_9 hr2_10 hr2_11 j0_10 j1_10 j2_10 j3_10 j4_10 j5_10 j6_10 j7_10 j8_10
      clear ev1_0 ev1_1 ev1_2 ev1_3 ev1_4 ev1_5 ev1_6 ev1_7
      omega
    | succ n ih4 =>
      intro z1_10 v2 f2 hv2 hf2 hw2 hr2_0 hr2_1 hr2_12 hr2_13 hr2_14 hr2_15 hr2_7 hr2_8 hr2_9 hr2_10 hr2_11 j0_10 j1_10 j2_10 j3_10 j4_10 j5_10 j6_10 j7_10 j8_10
      clear ev1_0 ev1_1 ev1_2 ev1_3 ev1_4 ev1_5 ev1_6 ev1_7
      have lr0 := hr2_0
      have lr1 := hr2_1
      refine hC.1 1 10 _ _ rfl _ _ _ _ _ ?_
      have hu5_1 := hv2.2.1
      have hu5_2 := hv2.2.2.1
      refine Exists.intro _ (And.intro md_o ?_)
      refine And.intro (fun c6 => ?_) (fun c6 => ?_)
      · skip
        refine hC.1 2 47 _ _ rfl _ _ _ _ _ ?_
        refine Exists.intro _ (And.intro md_o (And.intro rfl ?_))
        rw [md_p_nextMany D]
        obtain ⟨v7, ev7⟩ : ∃ z9, z9 = upd v2 2 (0 : Int32) := ⟨_, rfl⟩
        rw [← ev7]
        have ev7_0 : (v7 0).toInt = (v2 0).toInt := by rw [ev7]; rfl
        have ev7_1 : (v7 1).toInt = (v2 1).toInt := by rw [ev7]; rfl
        have ev7_2 : (v7 2).toInt = ((0 : Int32)).toInt := by rw [ev7]; rfl
        have ev7_3 : (v7 3).toInt = (v2 3).toInt := by rw [ev7]; rfl
        have ev7_4 : (v7 4).toInt = (v2 4).toInt := by rw [ev7]; rfl
        have ev7_5 : (v7 5).toInt = (v2 5).toInt := by rw [ev7]; rfl
        have ev7_6 : (v7 6).toInt = (v2 6).toInt := by rw [ev7]; rfl
        have ev7_7 : (v7 7).toInt = (v2 7).toInt := by rw [ev7]; rfl
        have pn_49 : v7 2 = (0 : Int32) := by rw [ev7]; rfl
        have hv8 : md_V v7 := by unfold md_V; omega
        exact ⟨rfl, rfl, v7, f2, rfl, rfl, hv8, hf2, hw2, hr2_0, hr2_1, hr2_12, hr2_13, hr2_14, hr2_15, hr2_7, hr2_8, hr2_9, hr2_10, hr2_11, by first | omega | (dsimp only; omega) | trivial, by exact ⟨by omega, fun k hk => j2_10 k (by omega)⟩⟩
      · skip
        refine Exists.intro _ (And.intro md_o ?_)
        refine Exists.intro _ (And.intro md_o ?_)
        refine Exists.intro _ (Exists.intro _ (And.intro (Or.inl (md_a_names D)) (And.intro (by omega) ?_)))
        refine Exists.intro _ (Exists.intro _ (And.intro (md_a_oldNames D) (And.intro (by omega) ?_)))
        rw [md_s_oldNames D]
        obtain ⟨f9, ef9⟩ : ∃ z9, z9 = va_up f2 3 (upd (f2 3) (z1_10).toInt.toNat (f2 1 (z1_10).toInt.toNat)) := ⟨_, rfl⟩
        rw [← ef9]
        have pf_29 : f9 3 = upd (f2 3) (z1_10).toInt.toNat (f2 1 (z1_10).toInt.toNat) := by rw [ef9]; exact if_pos rfl
        have pg_29 : ∀ i9, i9 ≠ 3 → f9 i9 = f2 i9 := fun i9 h9 => by rw [ef9]; exact if_neg h9
        have hf9 : md_F f9 := by rw [ef9]; exact md_F_st hf2 3 _ _ (md_rng _ _ (by decide))
        have hw9 : f9 2 = f 2 := (show f9 2 = f2 2 by rw [ef9]; rfl).trans hw2
        have hr9_0 : f9 0 = f 0 := (show f9 0 = f2 0 by rw [ef9]; rfl).trans hr2_0
        have hr9_1 : f9 1 = f 1 := (show f9 1 = f2 1 by rw [ef9]; rfl).trans hr2_1
        have hr9_12 : f9 12 = f 12 := (show f9 12 = f2 12 by rw [ef9]; rfl).trans hr2_12
        have hr9_13 : f9 13 = f 13 := (show f9 13 = f2 13 by rw [ef9]; rfl).trans hr2_13
        have hr9_14 : f9 14 = f 14 := (show f9 14 = f2 14 by rw [ef9]; rfl).trans hr2_14
        have hr9_15 : f9 15 = f 15 := (show f9 15 = f2 15 by rw [ef9]; rfl).trans hr2_15
        have hr9_7 : f9 7 = f 7 := (show f9 7 = f2 7 by rw [ef9]; rfl).trans hr2_7
        have hr9_8 : f9 8 = f 8 := (show f9 8 = f2 8 by rw [ef9]; rfl).trans hr2_8
        have hr9_9 : f9 9 = f 9 := (show f9 9 = f2 9 by rw [ef9]; rfl).trans hr2_9
        have hr9_10 : f9 10 = f 10 := (show f9 10 = f2 10 by rw [ef9]; rfl).trans hr2_10
        have hr9_11 : f9 11 = f 11 := (show f9 11 = f2 11 by rw [ef9]; rfl).trans hr2_11
        refine Exists.intro _ (And.intro md_o ?_)
        refine And.intro (Exists.intro _ md_o) (Exists.intro _ (Exists.intro _ (Exists.intro _ (Exists.intro _ (And.intro (F_X11_bondOf D v2 f9 hv2 hf9 z1_10 (by omega)) (And.intro rfl (fun r9 A9 h9 => ?_)))))))
        obtain ⟨y10, rfl, rfl, by10⟩ := h9
        have hy9 := by10
        rw [pg_29 0 (by decide), pg_29 1 (by decide), lr0, lr1] at hy9
        refine Exists.intro _ (Exists.intro _ (And.intro (md_a_oldBonds D) (And.intro (by omega) ?_)))
        rw [md_s_oldBonds D]
        obtain ⟨f11, ef11⟩ : ∃ z9, z9 = va_up f9 4 (upd (f9 4) (z1_10).toInt.toNat y10) := ⟨_, rfl⟩
        rw [← ef11]
        have pf_40 : f11 4 = upd (f9 4) (z1_10).toInt.toNat y10 := by rw [ef11]; exact if_pos rfl
        have pg_40 : ∀ i9, i9 ≠ 4 → f11 i9 = f9 i9 := fun i9 h9 => by rw [ef11]; exact if_neg h9
        have hf11 : md_F f11 := by rw [ef11]; exact md_F_st hf9 4 _ _ (md_rng _ _ (by decide))
        have hw11 : f11 2 = f 2 := (show f11 2 = f9 2 by rw [ef11]; rfl).trans hw9
        have hr11_0 : f11 0 = f 0 := (show f11 0 = f9 0 by rw [ef11]; rfl).trans hr9_0
        have hr11_1 : f11 1 = f 1 := (show f11 1 = f9 1 by rw [ef11]; rfl).trans hr9_1
        have hr11_12 : f11 12 = f 12 := (show f11 12 = f9 12 by rw [ef11]; rfl).trans hr9_12
        have hr11_13 : f11 13 = f 13 := (show f11 13 = f9 13 by rw [ef11]; rfl).trans hr9_13
        have hr11_14 : f11 14 = f 14 := (show f11 14 = f9 14 by rw [ef11]; rfl).trans hr9_14
        have hr11_15 : f11 15 = f 15 := (show f11 15 = f9 15 by rw [ef11]; rfl).trans hr9_15
        have hr11_7 : f11 7 = f 7 := (show f11 7 = f9 7 by rw [ef11]; rfl).trans hr9_7
        have hr11_8 : f11 8 = f 8 := (show f11 8 = f9 8 by rw [ef11]; rfl).trans hr9_8
        have hr11_9 : f11 9 = f 9 := (show f11 9 = f9 9 by rw [ef11]; rfl).trans hr9_9
        have hr11_10 : f11 10 = f 10 := (show f11 10 = f9 10 by rw [ef11]; rfl).trans hr9_10
        have hr11_11 : f11 11 = f 11 := (show f11 11 = f9 11 by rw [ef11]; rfl).trans hr9_11
        have k1 : (1 : Int32).toInt = 1 := rfl
        intro m12 em_41
        try have e12 : m12.toInt = (z1_10).toInt + (1) := by rw [em_41]; exact pm_addc _ _ (1) rfl (by omega) (by omega)
        exact ih4 m12 v2 f11 hv2 hf11 hw11 hr11_0 hr11_1 hr11_12 hr11_13 hr11_14 hr11_15 hr11_7 hr11_8 hr11_9 hr11_10 hr11_11 (by omega) (by omega) (by intro k hk; rw [pg_40 3 (by decide), pf_29, pf_40, pg_29 4 (by decide)]; by_cases h8 : k = z1_10.toInt.toNat; (subst h8; rw [pk_us, pk_us, lr1, hy9, show ((z1_10.toInt.toNat : Nat) : Int) = z1_10.toInt by omega]; exact ⟨rfl, rfl⟩); (rw [pk_un h8, pk_un h8]; exact j2_10 k (by omega))) (by omega) (by omega) (by omega) (by omega) (by omega) (by omega)
  have hv13 : md_V v1 := by unfold md_V; omega
  exact lp3 (200 - (0 : Int32).toInt).toNat.succ (0 : Int32) v1 f hv13 hf rfl rfl rfl rfl rfl rfl rfl rfl rfl rfl rfl rfl (by omega) (by omega) (by intro k hk; omega) (by omega) (by omega) (by omega) (by omega) (by omega) (by omega)

set_option maxRecDepth 100000 in
set_option maxHeartbeats 2000000 in
theorem U_X11_lays (D : md_D h q) (v : Nat → Int32) (f : Nat → Nat → Int32) (hv : md_V v) (hf : md_F f) (x1 : Int32) (x2 : Int32) (p0 : (v 2).toInt < 160) (p1 : 0 ≤ x1.toInt ∧ x1.toInt ≤ 23) : pm_Mt l g 175 0 0 0 [.ref h, .int x1, .int x2] (md A0 g h q v f) (md_Qv A0 g h q f (fun v2 f2 => f2 0 = f 0 ∧ f2 1 = f 1 ∧ f2 3 = f 3 ∧ f2 4 = f 4 ∧ f2 12 = f 12 ∧ f2 13 = f 13 ∧ f2 14 = f 14 ∧ f2 15 = f 15 ∧ f2 7 = f 7 ∧ f2 8 = f 8 ∧ f2 9 = f 9 ∧ f2 10 = f 10 ∧ f2 11 = f 11 ∧ ((v2 0).toInt = (v 0).toInt ∧ (v2 1).toInt = (v 1).toInt ∧ (v2 3).toInt = (v 3).toInt ∧ (v2 4).toInt = (v 4).toInt ∧ (v2 5).toInt = (v 5).toInt ∧ (v2 6).toInt = (v 6).toInt ∧ (v2 2).toInt = (v 2).toInt + 1) ∧ (∀ N, rp (v 2) (f 5) (f 6) (N) → rp (v2 2) (f2 5) (f2 6) (N ++ [(x1, x2)])))) := by
  refine mt_X11_lays rfl (fun J hC => ?_)
  have hv9 := hv
  unfold md_V at hv9
  have rg_x1 := pm_rng x1
  have rg_x2 := pm_rng x2
  refine hC.1 0 0 _ _ rfl _ _ _ _ _ ?_
  refine Exists.intro _ (And.intro md_o ?_)
  refine Exists.intro _ (And.intro md_o ?_)
  refine Exists.intro _ (Exists.intro _ (And.intro (md_a_nextColours D) (And.intro (by omega) ?_)))
  rw [md_s_nextColours D]
  obtain ⟨f1, ef1⟩ : ∃ z9, z9 = va_up f 5 (upd (f 5) ((v 2)).toInt.toNat x1) := ⟨_, rfl⟩
  rw [← ef1]
  have pf_9 : f1 5 = upd (f 5) ((v 2)).toInt.toNat x1 := by rw [ef1]; exact if_pos rfl
  have pg_9 : ∀ i9, i9 ≠ 5 → f1 i9 = f i9 := fun i9 h9 => by rw [ef1]; exact if_neg h9
  have hf1 : md_F f1 := by rw [ef1]; exact md_F_st hf 5 _ _ (by show (0 : Int) ≤ _ ∧ _ ≤ (23 : Int); omega)
  have hw1 : f1 2 = f 2 := (show f1 2 = f 2 by rw [ef1]; rfl).trans rfl
  have hr1_0 : f1 0 = f 0 := (show f1 0 = f 0 by rw [ef1]; rfl).trans rfl
  have hr1_1 : f1 1 = f 1 := (show f1 1 = f 1 by rw [ef1]; rfl).trans rfl
  have hr1_3 : f1 3 = f 3 := (show f1 3 = f 3 by rw [ef1]; rfl).trans rfl
  have hr1_4 : f1 4 = f 4 := (show f1 4 = f 4 by rw [ef1]; rfl).trans rfl
  have hr1_12 : f1 12 = f 12 := (show f1 12 = f 12 by rw [ef1]; rfl).trans rfl
  have hr1_13 : f1 13 = f 13 := (show f1 13 = f 13 by rw [ef1]; rfl).trans rfl
  have hr1_14 : f1 14 = f 14 := (show f1 14 = f 14 by rw [ef1]; rfl).trans rfl
  have hr1_15 : f1 15 = f 15 := (show f1 15 = f 15 by rw [ef1]; rfl).trans rfl
  have hr1_7 : f1 7 = f 7 := (show f1 7 = f 7 by rw [ef1]; rfl).trans rfl
  have hr1_8 : f1 8 = f 8 := (show f1 8 = f 8 by rw [ef1]; rfl).trans rfl
  have hr1_9 : f1 9 = f 9 := (show f1 9 = f 9 by rw [ef1]; rfl).trans rfl
  have hr1_10 : f1 10 = f 10 := (show f1 10 = f 10 by rw [ef1]; rfl).trans rfl
  have hr1_11 : f1 11 = f 11 := (show f1 11 = f 11 by rw [ef1]; rfl).trans rfl
  refine Exists.intro _ (And.intro md_o ?_)
  refine Exists.intro _ (And.intro md_o ?_)
  refine Exists.intro _ (Exists.intro _ (And.intro (md_a_nextNames D) (And.intro (by omega) ?_)))
  rw [md_s_nextNames D]
  obtain ⟨f2, ef2⟩ : ∃ z9, z9 = va_up f1 6 (upd (f1 6) ((v 2)).toInt.toNat x2) := ⟨_, rfl⟩
  rw [← ef2]
  have pf_19 : f2 6 = upd (f1 6) ((v 2)).toInt.toNat x2 := by rw [ef2]; exact if_pos rfl
  have pg_19 : ∀ i9, i9 ≠ 6 → f2 i9 = f1 i9 := fun i9 h9 => by rw [ef2]; exact if_neg h9
  have hf2 : md_F f2 := by rw [ef2]; exact md_F_st hf1 6 _ _ (md_rng _ _ (by decide))
  have hw2 : f2 2 = f 2 := (show f2 2 = f1 2 by rw [ef2]; rfl).trans hw1
  have hr2_0 : f2 0 = f 0 := (show f2 0 = f1 0 by rw [ef2]; rfl).trans hr1_0
  have hr2_1 : f2 1 = f 1 := (show f2 1 = f1 1 by rw [ef2]; rfl).trans hr1_1
  have hr2_3 : f2 3 = f 3 := (show f2 3 = f1 3 by rw [ef2]; rfl).trans hr1_3
  have hr2_4 : f2 4 = f 4 := (show f2 4 = f1 4 by rw [ef2]; rfl).trans hr1_4
  have hr2_12 : f2 12 = f 12 := (show f2 12 = f1 12 by rw [ef2]; rfl).trans hr1_12
  have hr2_13 : f2 13 = f 13 := (show f2 13 = f1 13 by rw [ef2]; rfl).trans hr1_13
  have hr2_14 : f2 14 = f 14 := (show f2 14 = f1 14 by rw [ef2]; rfl).trans hr1_14
  have hr2_15 : f2 15 = f 15 := (show f2 15 = f1 15 by rw [ef2]; rfl).trans hr1_15
  have hr2_7 : f2 7 = f 7 := (show f2 7 = f1 7 by rw [ef2]; rfl).trans hr1_7
  have hr2_8 : f2 8 = f 8 := (show f2 8 = f1 8 by rw [ef2]; rfl).trans hr1_8
  have hr2_9 : f2 9 = f 9 := (show f2 9 = f1 9 by rw [ef2]; rfl).trans hr1_9
  have hr2_10 : f2 10 = f 10 := (show f2 10 = f1 10 by rw [ef2]; rfl).trans hr1_10
  have hr2_11 : f2 11 = f 11 := (show f2 11 = f1 11 by rw [ef2]; rfl).trans hr1_11
  refine Exists.intro _ (And.intro md_o ?_)
  have k1 : (1 : Int32).toInt = 1 := rfl
  intro m3 em_26
  try have e3 : m3.toInt = ((v 2)).toInt + (1) := by rw [em_26]; exact pm_addc _ _ (1) rfl (by omega) (by omega)
  refine Exists.intro _ (And.intro md_o (And.intro rfl ?_))
  rw [md_p_nextMany D]
  obtain ⟨v4, ev4⟩ : ∃ z9, z9 = upd v 2 m3 := ⟨_, rfl⟩
  rw [← ev4]
  have ev4_0 : (v4 0).toInt = (v 0).toInt := by rw [ev4]; rfl
  have ev4_1 : (v4 1).toInt = (v 1).toInt := by rw [ev4]; rfl
  have ev4_2 : (v4 2).toInt = (m3).toInt := by rw [ev4]; rfl
  have ev4_3 : (v4 3).toInt = (v 3).toInt := by rw [ev4]; rfl
  have ev4_4 : (v4 4).toInt = (v 4).toInt := by rw [ev4]; rfl
  have ev4_5 : (v4 5).toInt = (v 5).toInt := by rw [ev4]; rfl
  have ev4_6 : (v4 6).toInt = (v 6).toInt := by rw [ev4]; rfl
  have ev4_7 : (v4 7).toInt = (v 7).toInt := by rw [ev4]; rfl
  have pn_27 : v4 2 = m3 := by rw [ev4]; rfl
  have hv5 : md_V v4 := by unfold md_V; omega
  exact ⟨rfl, rfl, v4, f2, rfl, rfl, hv5, hf2, hw2, hr2_0, hr2_1, hr2_3, hr2_4, hr2_12, hr2_13, hr2_14, hr2_15, hr2_7, hr2_8, hr2_9, hr2_10, hr2_11, by first | omega | (dsimp only; omega) | trivial, by intro N hN; rw [pg_19 5 (by decide), pf_9, pf_19, pg_9 6 (by decide)]; exact rp_app hN (by omega) _ _⟩

set_option maxRecDepth 100000 in
set_option maxHeartbeats 2000000 in
theorem U_X11_laysFrom (D : md_D h q) (v : Nat → Int32) (f : Nat → Nat → Int32) (hv : md_V v) (hf : md_F f) (x1 : Int32) (x2 : Int32) (p0 : 0 ≤ x1.toInt ∧ x1.toInt ≤ 161) (p1 : x2.toInt ≤ 160) (p2 : (v 2).toInt + (x2.toInt - x1.toInt) ≤ 160) (p3 : x1.toInt ≤ x2.toInt) : pm_Mt l g 185 1 0 0 [.ref h, .int x1, .int x2] (md A0 g h q v f) (md_Qv A0 g h q f (fun v2 f2 => f2 0 = f 0 ∧ f2 1 = f 1 ∧ f2 3 = f 3 ∧ f2 4 = f 4 ∧ f2 12 = f 12 ∧ f2 13 = f 13 ∧ f2 14 = f 14 ∧ f2 15 = f 15 ∧ f2 7 = f 7 ∧ f2 8 = f 8 ∧ f2 9 = f 9 ∧ f2 10 = f 10 ∧ f2 11 = f 11 ∧ ((v2 0).toInt = (v 0).toInt ∧ (v2 1).toInt = (v 1).toInt ∧ (v2 3).toInt = (v 3).toInt ∧ (v2 4).toInt = (v 4).toInt ∧ (v2 5).toInt = (v 5).toInt ∧ (v2 6).toInt = (v 6).toInt ∧ (v2 2).toInt = (v 2).toInt + (x2.toInt - x1.toInt)) ∧ (∀ (L N : List pl_P) (a b : Int), rp (v 0) (f 0) (f 1) L → x1.toInt = a → x2.toInt = b → b ≤ (L.length : Int) → a ≤ b → rp (v 2) (f 5) (f 6) (N) → rp (v2 2) (f2 5) (f2 6) (N ++ si L a b)))) := by
  refine mt_X11_laysFrom rfl (fun J hC => ?_)
  have hv9 := hv
  unfold md_V at hv9
  have rg_x1 := pm_rng x1
  have rg_x2 := pm_rng x2
  refine hC.1 0 0 _ _ rfl _ _ _ _ _ ?_
  have lp2 : ∀ (n : Nat) (z3_2 : Int32) (v1 : Nat → Int32) (f1 : Nat → Nat → Int32), md_V v1 → md_F f1 → f1 2 = f 2 → f1 0 = f 0 → f1 1 = f 1 → f1 3 = f 3 → f1 4 = f 4 → f1 12 = f 12 → f1 13 = f 13 → f1 14 = f 14 → f1 15 = f 15 → f1 7 = f 7 → f1 8 = f 8 → f1 9 = f 9 → f1 10 = f 10 → f1 11 = f 11 → (x1.toInt ≤ z3_2.toInt ∧ z3_2.toInt ≤ x2.toInt) → ((v1 2).toInt - z3_2.toInt = (v 2).toInt - x1.toInt) → (∀ L N, rp (v 0) (f 0) (f 1) L → x2.toInt ≤ (L.length : Int) → rp (v 2) (f 5) (f 6) (N) → rp (v1 2) (f1 5) (f1 6) (N ++ si L x1.toInt z3_2.toInt)) → (v1 0).toInt = (v 0).toInt → (v1 1).toInt = (v 1).toInt → (v1 3).toInt = (v 3).toInt → (v1 4).toInt = (v 4).toInt → (v1 5).toInt = (v 5).toInt → (v1 6).toInt = (v 6).toInt → 200 - z3_2.toInt < (n : Int) → J 2 [some (.ref h), some (.int x1), some (.int x2), some (.int z3_2)] [] (md A0 g h q v1 f1) 0 0 := by
    intro n
    induction n with
    | zero =>
      intro z3_2 v1 f1 hv1 hf1 hw1 hr1_0 hr1_1 hr1_3 hr1_4 hr1_12 hr1_13 hr1_14 hr1_15 hr1_7 hr1_8 hr1_9 hr1_10 hr1_11 j0_2 j1_2 j2_2 j3_2 j4_2 j5_2 j6_2 j7_2 j8_2 j9_2
      omega
    | succ n ih3 =>
      intro z3_2 v1 f1 hv1 hf1 hw1 hr1_0 hr1_1 hr1_3 hr1_4 hr1_12 hr1_13 hr1_14 hr1_15 hr1_7 hr1_8 hr1_9 hr1_10 hr1_11 j0_2 j1_2 j2_2 j3_2 j4_2 j5_2 j6_2 j7_2 j8_2 j9_2
      have lr0 := hr1_0
      have lr1 := hr1_1
      refine hC.1 1 2 _ _ rfl _ _ _ _ _ ?_
      have hu4_2 := hv1.2.2.1
      refine And.intro (fun c5 => ?_) (fun c5 => ?_)
      · skip
        refine hC.1 2 29 _ _ rfl _ _ _ _ _ ?_
        exact ⟨rfl, rfl, v1, f1, rfl, rfl, hv1, hf1, hw1, hr1_0, hr1_1, hr1_3, hr1_4, hr1_12, hr1_13, hr1_14, hr1_15, hr1_7, hr1_8, hr1_9, hr1_10, hr1_11, by first | omega | (dsimp only; omega) | trivial, by intro L N a b h1 ha hb h2 h3 h4; subst ha; subst hb; have h5 := j2_2 L N h1 h2 h4; rw [show z3_2.toInt = x2.toInt by omega] at h5; exact h5⟩
      · skip
        refine Exists.intro _ (And.intro md_o ?_)
        refine Exists.intro _ (Exists.intro _ (And.intro (Or.inl (md_a_colours D)) (And.intro (by omega) ?_)))
        have w6 : (0 : Int) ≤ (f1 0 (z3_2).toInt.toNat).toInt ∧ (f1 0 (z3_2).toInt.toNat).toInt ≤ (23 : Int) := hf1 0 _
        refine Exists.intro _ (And.intro md_o ?_)
        refine Exists.intro _ (Exists.intro _ (And.intro (Or.inl (md_a_names D)) (And.intro (by omega) ?_)))
        refine And.intro (Exists.intro _ md_o) (Exists.intro _ (Exists.intro _ (Exists.intro _ (Exists.intro _ (And.intro (U_X11_lays D v1 f1 hv1 hf1 (f1 0 (z3_2).toInt.toNat) (f1 1 (z3_2).toInt.toNat) (by omega) (by omega)) (And.intro rfl (fun r9 A9 h9 => ?_)))))))
        obtain ⟨v8, f8, rfl, rfl, hv8, hf8, hx8, hg8_0, hg8_1, hg8_3, hg8_4, hg8_12, hg8_13, hg8_14, hg8_15, hg8_7, hg8_8, hg8_9, hg8_10, hg8_11, by7⟩ := h9
        have hw8 : f8 2 = f 2 := hx8.trans hw1
        have hr8_0 : f8 0 = f 0 := hg8_0.trans hr1_0
        have hr8_1 : f8 1 = f 1 := hg8_1.trans hr1_1
        have hr8_3 : f8 3 = f 3 := hg8_3.trans hr1_3
        have hr8_4 : f8 4 = f 4 := hg8_4.trans hr1_4
        have hr8_12 : f8 12 = f 12 := hg8_12.trans hr1_12
        have hr8_13 : f8 13 = f 13 := hg8_13.trans hr1_13
        have hr8_14 : f8 14 = f 14 := hg8_14.trans hr1_14
        have hr8_15 : f8 15 = f 15 := hg8_15.trans hr1_15
        have hr8_7 : f8 7 = f 7 := hg8_7.trans hr1_7
        have hr8_8 : f8 8 = f 8 := hg8_8.trans hr1_8
        have hr8_9 : f8 9 = f 9 := hg8_9.trans hr1_9
        have hr8_10 : f8 10 = f 10 := hg8_10.trans hr1_10
        have hr8_11 : f8 11 = f 11 := hg8_11.trans hr1_11
        have hu9_2 := hv8.2.2.1
        have hb9 := by7.2
        have k1 : (1 : Int32).toInt = 1 := rfl
        intro m10 em_23
        try have e10 : m10.toInt = (z3_2).toInt + (1) := by rw [em_23]; exact pm_addc _ _ (1) rfl (by omega) (by omega)
        exact ih3 m10 v8 f8 hv8 hf8 hw8 hr8_0 hr8_1 hr8_3 hr8_4 hr8_12 hr8_13 hr8_14 hr8_15 hr8_7 hr8_8 hr8_9 hr8_10 hr8_11 (by omega) (by omega) (by intro L N h1 h2 h3; rw [show m10.toInt = z3_2.toInt + 1 by omega, si_s h1 (by omega) (by omega) (by omega), ← List.append_assoc]; have h4 := hb9 _ (j2_2 L N h1 h2 h3); rw [lr0, lr1] at h4; exact h4) (by omega) (by omega) (by omega) (by omega) (by omega) (by omega) (by omega)
  exact lp2 (200 - x1.toInt).toNat.succ x1 v f hv hf rfl rfl rfl rfl rfl rfl rfl rfl rfl rfl rfl rfl rfl rfl (by omega) (by omega) (by intro L N h1 h2 h3; rw [si_n (Int.le_refl _), List.append_nil]; exact h3) (by omega) (by omega) (by omega) (by omega) (by omega) (by omega) (by omega)

set_option maxRecDepth 100000 in
set_option maxHeartbeats 2000000 in
theorem U_X11_laysNew (D : md_D h q) (v : Nat → Int32) (f : Nat → Nat → Int32) (hv : md_V v) (hf : md_F f) (x1 : Int32) (p0 : (v 2).toInt < 160) (p1 : 0 ≤ x1.toInt ∧ x1.toInt ≤ 23) (p2 : (v 3).toInt < 10000) : pm_Mt l g 186 1 0 0 [.ref h, .int x1] (md A0 g h q v f) (md_Qv A0 g h q f (fun v2 f2 => f2 0 = f 0 ∧ f2 1 = f 1 ∧ f2 3 = f 3 ∧ f2 4 = f 4 ∧ f2 12 = f 12 ∧ f2 13 = f 13 ∧ f2 14 = f 14 ∧ f2 15 = f 15 ∧ f2 7 = f 7 ∧ f2 8 = f 8 ∧ f2 9 = f 9 ∧ f2 10 = f 10 ∧ f2 11 = f 11 ∧ ((v2 0).toInt = (v 0).toInt ∧ (v2 1).toInt = (v 1).toInt ∧ (v2 4).toInt = (v 4).toInt ∧ (v2 5).toInt = (v 5).toInt ∧ (v2 6).toInt = (v 6).toInt ∧ (v2 2).toInt = (v 2).toInt + 1 ∧ (v2 3).toInt = (v 3).toInt + 1) ∧ (∀ (N : List pl_P) (g9 : Int32), (v 3).toInt = g9.toInt → rp (v 2) (f 5) (f 6) (N) → rp (v2 2) (f2 5) (f2 6) (N ++ [(x1, g9)])))) := by
  refine mt_X11_laysNew rfl (fun J hC => ?_)
  have hv9 := hv
  unfold md_V at hv9
  have rg_x1 := pm_rng x1
  refine hC.1 0 0 _ _ rfl _ _ _ _ _ ?_
  refine Exists.intro _ (And.intro md_o ?_)
  refine And.intro (Exists.intro _ md_o) (Exists.intro _ (Exists.intro _ (Exists.intro _ (Exists.intro _ (And.intro (U_X11_lays D v f hv hf x1 (v 3) (by omega) (by omega)) (And.intro rfl (fun r9 A9 h9 => ?_)))))))
  obtain ⟨v2, f2, rfl, rfl, hv2, hf2, hx2, hg2_0, hg2_1, hg2_3, hg2_4, hg2_12, hg2_13, hg2_14, hg2_15, hg2_7, hg2_8, hg2_9, hg2_10, hg2_11, by1⟩ := h9
  have hw2 : f2 2 = f 2 := hx2.trans rfl
  have hr2_0 : f2 0 = f 0 := hg2_0.trans rfl
  have hr2_1 : f2 1 = f 1 := hg2_1.trans rfl
  have hr2_3 : f2 3 = f 3 := hg2_3.trans rfl
  have hr2_4 : f2 4 = f 4 := hg2_4.trans rfl
  have hr2_12 : f2 12 = f 12 := hg2_12.trans rfl
  have hr2_13 : f2 13 = f 13 := hg2_13.trans rfl
  have hr2_14 : f2 14 = f 14 := hg2_14.trans rfl
  have hr2_15 : f2 15 = f 15 := hg2_15.trans rfl
  have hr2_7 : f2 7 = f 7 := hg2_7.trans rfl
  have hr2_8 : f2 8 = f 8 := hg2_8.trans rfl
  have hr2_9 : f2 9 = f 9 := hg2_9.trans rfl
  have hr2_10 : f2 10 = f 10 := hg2_10.trans rfl
  have hr2_11 : f2 11 = f 11 := hg2_11.trans rfl
  have hu3_2 := hv2.2.2.1
  have hb9 := by1.2
  refine Exists.intro _ (And.intro md_o ?_)
  have k1 : (1 : Int32).toInt = 1 := rfl
  intro m4 em_15
  try have e4 : m4.toInt = ((v2 3)).toInt + (1) := by rw [em_15]; exact pm_addc _ _ (1) rfl (by omega) (by omega)
  refine Exists.intro _ (And.intro md_o (And.intro rfl ?_))
  rw [md_p_given D]
  obtain ⟨v5, ev5⟩ : ∃ z9, z9 = upd v2 3 m4 := ⟨_, rfl⟩
  rw [← ev5]
  have ev5_0 : (v5 0).toInt = (v2 0).toInt := by rw [ev5]; rfl
  have ev5_1 : (v5 1).toInt = (v2 1).toInt := by rw [ev5]; rfl
  have ev5_2 : (v5 2).toInt = (v2 2).toInt := by rw [ev5]; rfl
  have ev5_3 : (v5 3).toInt = (m4).toInt := by rw [ev5]; rfl
  have ev5_4 : (v5 4).toInt = (v2 4).toInt := by rw [ev5]; rfl
  have ev5_5 : (v5 5).toInt = (v2 5).toInt := by rw [ev5]; rfl
  have ev5_6 : (v5 6).toInt = (v2 6).toInt := by rw [ev5]; rfl
  have ev5_7 : (v5 7).toInt = (v2 7).toInt := by rw [ev5]; rfl
  have pn_16 : v5 3 = m4 := by rw [ev5]; rfl
  have hv6 : md_V v5 := by unfold md_V; omega
  exact ⟨rfl, rfl, v5, f2, rfl, rfl, hv6, hf2, hw2, hr2_0, hr2_1, hr2_3, hr2_4, hr2_12, hr2_13, hr2_14, hr2_15, hr2_7, hr2_8, hr2_9, hr2_10, hr2_11, by first | omega | (dsimp only; omega) | trivial, by intro N g9 hg hN; rw [← pm_eqI hg]; exact rp_n (hb9 N hN) (by omega)⟩

set_option maxRecDepth 100000 in
set_option maxHeartbeats 2000000 in
theorem U_X11_isTouched (D : md_D h q) (v : Nat → Int32) (f : Nat → Nat → Int32) (hv : md_V v) (hf : md_F f) (x1 : Int32) (p0 : 0 ≤ x1.toInt ∧ x1.toInt < (v 0).toInt) : pm_Mt l g 177 2 0 0 [.ref h, .int x1] (md A0 g h q v f) (md_Qp (md A0 g h q v f) (fun r => (r = 1 ∧ (∀ (n : Int) (c m : Nat → Int32), OB v f n c m → (0 ≤ nextEq m (f 1 x1.toInt.toNat) 0 n.toNat ∧ ¬ bo c m (nextEq m (f 1 x1.toInt.toNat) 0 n.toNat) = bo (f 0) (f 1) x1.toInt))) ∨ (r = 0 ∧ (∀ (n : Int) (c m : Nat → Int32), OB v f n c m → ¬ (0 ≤ nextEq m (f 1 x1.toInt.toNat) 0 n.toNat ∧ ¬ bo c m (nextEq m (f 1 x1.toInt.toNat) 0 n.toNat) = bo (f 0) (f 1) x1.toInt))))) := by
  refine mt_X11_isTouched rfl (fun J hC => ?_)
  have hv9 := hv
  unfold md_V at hv9
  have rg_x1 := pm_rng x1
  refine hC.1 0 0 _ _ rfl _ _ _ _ _ ?_
  have k0 : (0 : Int32).toInt = 0 := rfl
  have lp1 : ∀ (n : Nat) (z2_2 : Int32), (0 ≤ z2_2.toInt ∧ z2_2.toInt ≤ (v 1).toInt) → (∀ k : Nat, (k : Int) < z2_2.toInt → ¬ f 3 k = f 1 x1.toInt.toNat) → 200 - z2_2.toInt < (n : Int) → J 2 [some (.ref h), some (.int x1), some (.int z2_2)] [] (md A0 g h q v f) 0 0 := by
    intro n
    induction n with
    | zero =>
      intro z2_2 j0_2 j1_2 j2_2
      omega
    | succ n ih2 =>
      intro z2_2 j0_2 j1_2 j2_2
      refine hC.1 1 2 _ _ rfl _ _ _ _ _ ?_
      refine Exists.intro _ (And.intro md_o ?_)
      refine And.intro (fun c3 => ?_) (fun c3 => ?_)
      · skip
        refine hC.1 5 51 _ _ rfl _ _ _ _ _ ?_
        exact ⟨rfl, fun _ => (by decide), rfl, (0 : Int32), rfl, rfl, Or.inr ⟨rfl, by intro n c m hO; have h5 := hO.1; have h2 : nextEq m (f 1 x1.toInt.toNat) 0 n.toNat = -1 := nextEq_m n.toNat 0 (fun i _ hi => (by rw [← (hO.2 i (by omega)).1]; exact j1_2 i (by omega))); rw [h2]; exact fun h9 => absurd h9.1 (by decide)⟩⟩
      · skip
        refine Exists.intro _ (And.intro md_o ?_)
        refine Exists.intro _ (Exists.intro _ (And.intro (Or.inl (md_a_oldNames D)) (And.intro (by omega) ?_)))
        refine Exists.intro _ (And.intro md_o ?_)
        refine Exists.intro _ (Exists.intro _ (And.intro (Or.inl (md_a_names D)) (And.intro (by omega) ?_)))
        refine And.intro (fun c4 => ?_) (fun c4 => ?_)
        · skip
          have dc4 := pm_neI c4
          refine hC.1 4 45 _ _ rfl _ _ _ _ _ ?_
          have k1 : (1 : Int32).toInt = 1 := rfl
          intro m5 em_45
          try have e5 : m5.toInt = (z2_2).toInt + (1) := by rw [em_45]; exact pm_addc _ _ (1) rfl (by omega) (by omega)
          exact ih2 m5 (by omega) (by intro k hk; by_cases h8 : k = z2_2.toInt.toNat; (subst h8; assumption); (exact j1_2 k (by omega))) (by omega)
        · skip
          have dc4 : ((f 3 (z2_2).toInt.toNat)).toInt = ((f 1 (x1).toInt.toNat) : Int32).toInt := congrArg Int32.toInt c4
          refine Exists.intro _ (And.intro md_o ?_)
          refine Exists.intro _ (Exists.intro _ (And.intro (Or.inl (md_a_oldBonds D)) (And.intro (by omega) ?_)))
          refine And.intro (Exists.intro _ md_o) (Exists.intro _ (Exists.intro _ (Exists.intro _ (Exists.intro _ (And.intro (F_X11_bondOf D v f hv hf x1 (by omega)) (And.intro rfl (fun r9 A9 h9 => ?_)))))))
          obtain ⟨y6, rfl, rfl, by6⟩ := h9
          have hy9 := by6
          refine And.intro (fun c7 => ?_) (fun c7 => ?_)
          · skip
            have dc7 : ((f 4 (z2_2).toInt.toNat)).toInt = (y6 : Int32).toInt := congrArg Int32.toInt c7
            refine hC.1 2 43 _ _ rfl _ _ _ _ _ ?_
            refine hC.1 3 44 _ _ rfl _ _ _ _ _ ?_
            exact ⟨rfl, fun _ => (by decide), rfl, (0 : Int32), rfl, rfl, Or.inr ⟨rfl, by first | (intro n c m hO; have h5 := hO.1; have h1 := (hO.2 z2_2.toInt.toNat (by omega)); have h2 : nextEq m (f 1 x1.toInt.toNat) 0 n.toNat = (z2_2.toInt.toNat : Int) := nextEq_0 n.toNat 0 z2_2.toInt.toNat (by omega) (by omega) (by rw [← h1.1]; assumption) (fun i _ hi => (by rw [← (hO.2 i (by omega)).1]; exact j1_2 i (by omega))); rw [h2]; exact ⟨by omega, by rw [← h1.2, ← hy9]; assumption⟩) | (intro n c m hO; have h5 := hO.1; have h1 := (hO.2 z2_2.toInt.toNat (by omega)); have h2 : nextEq m (f 1 x1.toInt.toNat) 0 n.toNat = (z2_2.toInt.toNat : Int) := nextEq_0 n.toNat 0 z2_2.toInt.toNat (by omega) (by omega) (by rw [← h1.1]; assumption) (fun i _ hi => (by rw [← (hO.2 i (by omega)).1]; exact j1_2 i (by omega))); rw [h2]; exact fun h9 => h9.2 (by rw [← h1.2, ← hy9]; assumption))⟩⟩
          · skip
            have dc7 := pm_neI c7
            have k1 : (1 : Int32).toInt = 1 := rfl
            refine hC.1 3 44 _ _ rfl _ _ _ _ _ ?_
            exact ⟨rfl, fun _ => (by decide), rfl, (1 : Int32), rfl, rfl, Or.inl ⟨rfl, by first | (intro n c m hO; have h5 := hO.1; have h1 := (hO.2 z2_2.toInt.toNat (by omega)); have h2 : nextEq m (f 1 x1.toInt.toNat) 0 n.toNat = (z2_2.toInt.toNat : Int) := nextEq_0 n.toNat 0 z2_2.toInt.toNat (by omega) (by omega) (by rw [← h1.1]; assumption) (fun i _ hi => (by rw [← (hO.2 i (by omega)).1]; exact j1_2 i (by omega))); rw [h2]; exact ⟨by omega, by rw [← h1.2, ← hy9]; assumption⟩) | (intro n c m hO; have h5 := hO.1; have h1 := (hO.2 z2_2.toInt.toNat (by omega)); have h2 : nextEq m (f 1 x1.toInt.toNat) 0 n.toNat = (z2_2.toInt.toNat : Int) := nextEq_0 n.toNat 0 z2_2.toInt.toNat (by omega) (by omega) (by rw [← h1.1]; assumption) (fun i _ hi => (by rw [← (hO.2 i (by omega)).1]; exact j1_2 i (by omega))); rw [h2]; exact fun h9 => h9.2 (by rw [← h1.2, ← hy9]; assumption))⟩⟩
  exact lp1 (200 - (0 : Int32).toInt).toNat.succ (0 : Int32) (by omega) (by intro k hk; omega) (by omega)

end
end
section
section
variable {l : Launch} {g : pm_G} {A0 : pm_H} {h : Nat} {q : Nat → Nat}
set_option maxRecDepth 100000 in
set_option maxHeartbeats 2000000 in
theorem U_X11_keepsRow (D : md_D h q) (v : Nat → Int32) (f : Nat → Nat → Int32) (hv : md_V v) (hf : md_F f) (x1 : Int32)  : pm_Mt l g 178 0 0 0 [.ref h, .int x1] (md A0 g h q v f) (md_Qv A0 g h q f (fun v2 f2 => f2 0 = f 0 ∧ f2 1 = f 1 ∧ f2 7 = f 7 ∧ f2 8 = f 8 ∧ f2 9 = f 9 ∧ f2 10 = f 10 ∧ f2 11 = f 11 ∧ ((v2 0).toInt = (v 0).toInt ∧ (v2 1).toInt = (v 1).toInt ∧ (v2 2).toInt = (v 2).toInt ∧ (v2 3).toInt = (v 3).toInt ∧ (v2 4).toInt = (v 4).toInt ∧ (v2 5).toInt = (v 5).toInt ∧ (v2 6).toInt = (v 6).toInt) ∧ (HK f f2 (v 0) x1 ((v 4).toInt % 40).toNat (v 0).toInt))) := by
  refine mt_X11_keepsRow rfl (fun J hC => ?_)
  have hv9 := hv
  unfold md_V at hv9
  have rg_x1 := pm_rng x1
  refine hC.1 0 0 _ _ rfl _ _ _ _ _ ?_
  refine Exists.intro _ (And.intro md_o ?_)
  have k40 : (40 : Int32).toInt = 40 := rfl
  refine And.intro (by decide) ?_
  intro m1 em_6
  have e1 : 0 ≤ m1.toInt ∧ m1.toInt < 40 ∧ m1.toInt = ((v 4)).toInt % 40 := by rw [em_6]; exact pm_remc _ _ 40 rfl (by omega) (by decide)
  refine Exists.intro _ (And.intro md_o ?_)
  refine Exists.intro _ (And.intro md_o ?_)
  refine Exists.intro _ (Exists.intro _ (And.intro (md_a_wasMany D) (And.intro (by omega) ?_)))
  rw [md_s_wasMany D]
  obtain ⟨f2, ef2⟩ : ∃ z9, z9 = va_up f 14 (upd (f 14) (m1).toInt.toNat (v 0)) := ⟨_, rfl⟩
  rw [← ef2]
  have pf_17 : f2 14 = upd (f 14) (m1).toInt.toNat (v 0) := by rw [ef2]; exact if_pos rfl
  have pg_17 : ∀ i9, i9 ≠ 14 → f2 i9 = f i9 := fun i9 h9 => by rw [ef2]; exact if_neg h9
  have hf2 : md_F f2 := by rw [ef2]; exact md_F_st hf 14 _ _ (by show (0 : Int) ≤ _ ∧ _ ≤ (160 : Int); omega)
  have hw2 : f2 2 = f 2 := (show f2 2 = f 2 by rw [ef2]; rfl).trans rfl
  have hr2_0 : f2 0 = f 0 := (show f2 0 = f 0 by rw [ef2]; rfl).trans rfl
  have hr2_1 : f2 1 = f 1 := (show f2 1 = f 1 by rw [ef2]; rfl).trans rfl
  have hr2_7 : f2 7 = f 7 := (show f2 7 = f 7 by rw [ef2]; rfl).trans rfl
  have hr2_8 : f2 8 = f 8 := (show f2 8 = f 8 by rw [ef2]; rfl).trans rfl
  have hr2_9 : f2 9 = f 9 := (show f2 9 = f 9 by rw [ef2]; rfl).trans rfl
  have hr2_10 : f2 10 = f 10 := (show f2 10 = f 10 by rw [ef2]; rfl).trans rfl
  have hr2_11 : f2 11 = f 11 := (show f2 11 = f 11 by rw [ef2]; rfl).trans rfl
  refine Exists.intro _ (And.intro md_o ?_)
  refine Exists.intro _ (Exists.intro _ (And.intro (md_a_wasTouched D) (And.intro (by omega) ?_)))
  rw [md_s_wasTouched D]
  obtain ⟨f3, ef3⟩ : ∃ z9, z9 = va_up f2 15 (upd (f2 15) (m1).toInt.toNat x1) := ⟨_, rfl⟩
  rw [← ef3]
  have pf_24 : f3 15 = upd (f2 15) (m1).toInt.toNat x1 := by rw [ef3]; exact if_pos rfl
  have pg_24 : ∀ i9, i9 ≠ 15 → f3 i9 = f2 i9 := fun i9 h9 => by rw [ef3]; exact if_neg h9
  have hf3 : md_F f3 := by rw [ef3]; exact md_F_st hf2 15 _ _ (md_rng _ _ (by decide))
  have hw3 : f3 2 = f 2 := (show f3 2 = f2 2 by rw [ef3]; rfl).trans hw2
  have hr3_0 : f3 0 = f 0 := (show f3 0 = f2 0 by rw [ef3]; rfl).trans hr2_0
  have hr3_1 : f3 1 = f 1 := (show f3 1 = f2 1 by rw [ef3]; rfl).trans hr2_1
  have hr3_7 : f3 7 = f 7 := (show f3 7 = f2 7 by rw [ef3]; rfl).trans hr2_7
  have hr3_8 : f3 8 = f 8 := (show f3 8 = f2 8 by rw [ef3]; rfl).trans hr2_8
  have hr3_9 : f3 9 = f 9 := (show f3 9 = f2 9 by rw [ef3]; rfl).trans hr2_9
  have hr3_10 : f3 10 = f 10 := (show f3 10 = f2 10 by rw [ef3]; rfl).trans hr2_10
  have hr3_11 : f3 11 = f 11 := (show f3 11 = f2 11 by rw [ef3]; rfl).trans hr2_11
  have k0 : (0 : Int32).toInt = 0 := rfl
  have lp5 : ∀ (n : Nat) (z3_27 : Int32) (v4 : Nat → Int32) (f4 : Nat → Nat → Int32), md_V v4 → md_F f4 → f4 2 = f 2 → f4 0 = f 0 → f4 1 = f 1 → f4 7 = f 7 → f4 8 = f 8 → f4 9 = f 9 → f4 10 = f 10 → f4 11 = f 11 → (0 ≤ z3_27.toInt ∧ z3_27.toInt ≤ (v 0).toInt) → (HK f f4 (v 0) x1 m1.toInt.toNat z3_27.toInt) → (v4 0).toInt = (v 0).toInt → (v4 1).toInt = (v 1).toInt → (v4 2).toInt = (v 2).toInt → (v4 3).toInt = (v 3).toInt → (v4 4).toInt = (v 4).toInt → (v4 5).toInt = (v 5).toInt → (v4 6).toInt = (v 6).toInt → 200 - z3_27.toInt < (n : Int) → J 27 [some (.ref h), some (.int x1), some (.int m1), some (.int z3_27)] [] (md A0 g h q v4 f4) 0 0 := by
    intro n
    induction n with
    | zero =>
      intro z3_27 v4 f4 hv4 hf4 hw4 hr4_0 hr4_1 hr4_7 hr4_8 hr4_9 hr4_10 hr4_11 j0_27 j1_27 j2_27 j3_27 j4_27 j5_27 j6_27 j7_27 j8_27 j9_27
      omega
    | succ n ih6 =>
      intro z3_27 v4 f4 hv4 hf4 hw4 hr4_0 hr4_1 hr4_7 hr4_8 hr4_9 hr4_10 hr4_11 j0_27 j1_27 j2_27 j3_27 j4_27 j5_27 j6_27 j7_27 j8_27 j9_27
      have lr0 := hr4_0
      have lr1 := hr4_1
      refine hC.1 1 27 _ _ rfl _ _ _ _ _ ?_
      refine Exists.intro _ (And.intro md_o ?_)
      refine And.intro (fun c8 => ?_) (fun c8 => ?_)
      · skip
        refine hC.1 2 77 _ _ rfl _ _ _ _ _ ?_
        exact ⟨rfl, rfl, v4, f4, rfl, rfl, hv4, hf4, hw4, hr4_0, hr4_1, hr4_7, hr4_8, hr4_9, hr4_10, hr4_11, by first | omega | (dsimp only; omega) | trivial, by rw [show ((v 4).toInt % 40).toNat = m1.toInt.toNat by omega, show (v 0).toInt = z3_27.toInt by omega]; exact j1_27⟩
      · skip
        refine Exists.intro _ (And.intro md_o ?_)
        have k160 : (160 : Int32).toInt = 160 := rfl
        intro m9 em_43
        try have e9 : m9.toInt = (160) * (m1).toInt := by rw [em_43]; exact pm_mulk _ _ (160) rfl (by omega) (by omega)
        intro m10 em_45
        try have e10 : m10.toInt = (m9).toInt + (z3_27).toInt := by rw [em_45]; exact pm_add _ _ (by omega) (by omega)
        have yi_1 : (m10).toInt.toNat = 160 * m1.toInt.toNat + z3_27.toInt.toNat := (by omega)
        refine Exists.intro _ (And.intro md_o ?_)
        refine Exists.intro _ (Exists.intro _ (And.intro (Or.inl (md_a_colours D)) (And.intro (by omega) ?_)))
        have w11 : (0 : Int) ≤ (f4 0 (z3_27).toInt.toNat).toInt ∧ (f4 0 (z3_27).toInt.toNat).toInt ≤ (23 : Int) := hf4 0 _
        refine Exists.intro _ (Exists.intro _ (And.intro (md_a_wasColours D) (And.intro (by omega) ?_)))
        rw [md_s_wasColours D]
        obtain ⟨f12, ef12⟩ : ∃ z9, z9 = va_up f4 12 (upd (f4 12) (m10).toInt.toNat (f4 0 (z3_27).toInt.toNat)) := ⟨_, rfl⟩
        rw [← ef12]
        have pf_52 : f12 12 = upd (f4 12) (m10).toInt.toNat (f4 0 (z3_27).toInt.toNat) := by rw [ef12]; exact if_pos rfl
        have pg_52 : ∀ i9, i9 ≠ 12 → f12 i9 = f4 i9 := fun i9 h9 => by rw [ef12]; exact if_neg h9
        have hf12 : md_F f12 := by rw [ef12]; exact md_F_st hf4 12 _ _ (by show (0 : Int) ≤ _ ∧ _ ≤ (23 : Int); omega)
        have hw12 : f12 2 = f 2 := (show f12 2 = f4 2 by rw [ef12]; rfl).trans hw4
        have hr12_0 : f12 0 = f 0 := (show f12 0 = f4 0 by rw [ef12]; rfl).trans hr4_0
        have hr12_1 : f12 1 = f 1 := (show f12 1 = f4 1 by rw [ef12]; rfl).trans hr4_1
        have hr12_7 : f12 7 = f 7 := (show f12 7 = f4 7 by rw [ef12]; rfl).trans hr4_7
        have hr12_8 : f12 8 = f 8 := (show f12 8 = f4 8 by rw [ef12]; rfl).trans hr4_8
        have hr12_9 : f12 9 = f 9 := (show f12 9 = f4 9 by rw [ef12]; rfl).trans hr4_9
        have hr12_10 : f12 10 = f 10 := (show f12 10 = f4 10 by rw [ef12]; rfl).trans hr4_10
        have hr12_11 : f12 11 = f 11 := (show f12 11 = f4 11 by rw [ef12]; rfl).trans hr4_11
        refine Exists.intro _ (And.intro md_o ?_)
        intro m13 em_61
        try have e13 : m13.toInt = (160) * (m1).toInt := by rw [em_61]; exact pm_mulk _ _ (160) rfl (by omega) (by omega)
        intro m14 em_63
        try have e14 : m14.toInt = (m13).toInt + (z3_27).toInt := by rw [em_63]; exact pm_add _ _ (by omega) (by omega)
        have yi_2 : (m14).toInt.toNat = 160 * m1.toInt.toNat + z3_27.toInt.toNat := (by omega)
        refine Exists.intro _ (And.intro md_o ?_)
        refine Exists.intro _ (Exists.intro _ (And.intro (Or.inl (md_a_names D)) (And.intro (by omega) ?_)))
        refine Exists.intro _ (Exists.intro _ (And.intro (md_a_wasNames D) (And.intro (by omega) ?_)))
        rw [md_s_wasNames D]
        obtain ⟨f15, ef15⟩ : ∃ z9, z9 = va_up f12 13 (upd (f12 13) (m14).toInt.toNat (f12 1 (z3_27).toInt.toNat)) := ⟨_, rfl⟩
        rw [← ef15]
        have pf_70 : f15 13 = upd (f12 13) (m14).toInt.toNat (f12 1 (z3_27).toInt.toNat) := by rw [ef15]; exact if_pos rfl
        have pg_70 : ∀ i9, i9 ≠ 13 → f15 i9 = f12 i9 := fun i9 h9 => by rw [ef15]; exact if_neg h9
        have hf15 : md_F f15 := by rw [ef15]; exact md_F_st hf12 13 _ _ (md_rng _ _ (by decide))
        have hw15 : f15 2 = f 2 := (show f15 2 = f12 2 by rw [ef15]; rfl).trans hw12
        have hr15_0 : f15 0 = f 0 := (show f15 0 = f12 0 by rw [ef15]; rfl).trans hr12_0
        have hr15_1 : f15 1 = f 1 := (show f15 1 = f12 1 by rw [ef15]; rfl).trans hr12_1
        have hr15_7 : f15 7 = f 7 := (show f15 7 = f12 7 by rw [ef15]; rfl).trans hr12_7
        have hr15_8 : f15 8 = f 8 := (show f15 8 = f12 8 by rw [ef15]; rfl).trans hr12_8
        have hr15_9 : f15 9 = f 9 := (show f15 9 = f12 9 by rw [ef15]; rfl).trans hr12_9
        have hr15_10 : f15 10 = f 10 := (show f15 10 = f12 10 by rw [ef15]; rfl).trans hr12_10
        have hr15_11 : f15 11 = f 11 := (show f15 11 = f12 11 by rw [ef15]; rfl).trans hr12_11
        have k1 : (1 : Int32).toInt = 1 := rfl
        intro m16 em_71
        try have e16 : m16.toInt = (z3_27).toInt + (1) := by rw [em_71]; exact pm_addc _ _ (1) rfl (by omega) (by omega)
        exact ih6 m16 v4 f15 hv4 hf15 hw15 hr15_0 hr15_1 hr15_7 hr15_8 hr15_9 hr15_10 hr15_11 (by omega) (by rw [show m16.toInt = z3_27.toInt + 1 by omega]; exact HK_s j1_27 (by omega) (by rw [pg_70 12 (by decide), pf_52, yi_1, lr0]) (by rw [pf_70, yi_2, pg_52 13 (by decide), pg_52 1 (by decide), lr1]) (by rw [pg_70 14 (by decide), pg_52 14 (by decide)]) (by rw [pg_70 15 (by decide), pg_52 15 (by decide)])) (by omega) (by omega) (by omega) (by omega) (by omega) (by omega) (by omega) (by omega)
  exact lp5 (200 - (0 : Int32).toInt).toNat.succ (0 : Int32) v f3 hv hf3 hw3 hr3_0 hr3_1 hr3_7 hr3_8 hr3_9 hr3_10 hr3_11 (by omega) (by rw [k0]; exact HK_0 (by rw [pg_24 14 (by decide), pf_17]) (by rw [pf_24, pg_17 15 (by decide)]) (by rw [pg_24 12 (by decide), pg_17 12 (by decide)]) (by rw [pg_24 13 (by decide), pg_17 13 (by decide)])) (by omega) (by omega) (by omega) (by omega) (by omega) (by omega) (by omega) (by omega)

set_option maxRecDepth 100000 in
set_option maxHeartbeats 2000000 in
theorem U_X11_ends (D : md_D h q) (v : Nat → Int32) (f : Nat → Nat → Int32) (hv : md_V v) (hf : md_F f) (p0 : (v 4).toInt < 100000) : pm_Mt l g 176 3 0 0 [.ref h] (md A0 g h q v f) (md_Qw A0 g h q f (fun r v2 f2 => f2 7 = f 7 ∧ f2 8 = f 8 ∧ f2 9 = f 9 ∧ f2 10 = f 10 ∧ f2 11 = f 11 ∧ ((v2 1).toInt = (v 1).toInt ∧ (v2 2).toInt = (v 2).toInt ∧ (v2 3).toInt = (v 3).toInt ∧ (v2 6).toInt = (v 6).toInt ∧ (v2 4).toInt = (v 4).toInt + 1 ∧ (v2 0).toInt = (v 2).toInt) ∧ ((∀ N, rp (v 2) (f 5) (f 6) (N) → rp (v2 0) (f2 0) (f2 1) N) ∧ (HM f v2 f2 r.toInt) ∧ (∀ (n : Int) (c m : Nat → Int32), OB v f n c m → r.toInt = (tcN n c m (f2 0) (f2 1) (v2 0).toInt.toNat : Int)) ∧ v2 5 = v 5 + r))) := by
  refine mt_X11_ends rfl (fun J hC => ?_)
  have hv9 := hv
  unfold md_V at hv9
  refine hC.1 0 0 _ _ rfl _ _ _ _ _ ?_
  refine Exists.intro _ (And.intro md_o ?_)
  refine Exists.intro _ (And.intro md_o (And.intro rfl ?_))
  rw [md_p_many D]
  obtain ⟨v1, ev1⟩ : ∃ z9, z9 = upd v 0 (v 2) := ⟨_, rfl⟩
  rw [← ev1]
  have ev1_0 : (v1 0).toInt = ((v 2)).toInt := by rw [ev1]; rfl
  have ev1_1 : (v1 1).toInt = (v 1).toInt := by rw [ev1]; rfl
  have ev1_2 : (v1 2).toInt = (v 2).toInt := by rw [ev1]; rfl
  have ev1_3 : (v1 3).toInt = (v 3).toInt := by rw [ev1]; rfl
  have ev1_4 : (v1 4).toInt = (v 4).toInt := by rw [ev1]; rfl
  have ev1_5 : (v1 5).toInt = (v 5).toInt := by rw [ev1]; rfl
  have ev1_6 : (v1 6).toInt = (v 6).toInt := by rw [ev1]; rfl
  have ev1_7 : (v1 7).toInt = (v 7).toInt := by rw [ev1]; rfl
  have pn_5 : v1 0 = (v 2) := by rw [ev1]; rfl
  have k0 : (0 : Int32).toInt = 0 := rfl
  have lp3 : ∀ (n : Nat) (z1_10 : Int32) (v2 : Nat → Int32) (f2 : Nat → Nat → Int32), md_V v2 → md_F f2 → f2 2 = f 2 → f2 3 = f 3 → f2 4 = f 4 → f2 5 = f 5 → f2 6 = f 6 → f2 12 = f 12 → f2 13 = f 13 → f2 14 = f 14 → f2 15 = f 15 → f2 7 = f 7 → f2 8 = f 8 → f2 9 = f 9 → f2 10 = f 10 → f2 11 = f 11 → (0 ≤ z1_10.toInt ∧ z1_10.toInt ≤ (v 2).toInt) → ((v2 0).toInt = (v 2).toInt ∧ (v2 4).toInt = (v 4).toInt ∧ (v2 5).toInt = (v 5).toInt) → (∀ j : Nat, (j : Int) < z1_10.toInt → f2 0 j = f 5 j ∧ f2 1 j = f 6 j) → (v2 1).toInt = (v 1).toInt → (v2 2).toInt = (v 2).toInt → (v2 3).toInt = (v 3).toInt → (v2 6).toInt = (v 6).toInt → 200 - z1_10.toInt < (n : Int) → J 10 [some (.ref h), some (.int z1_10), none] [] (md A0 g h q v2 f2) 0 0 := by
    intro n
    induction n with
    | zero =>
      intro z1_10 v2 f2 hv2 hf2 hw2 hr2_3 hr2_4 hr2_5 hr2_6 hr2_12 hr2_13 hr2_14 hr2_15 hr2_7 hr2_8 hr2_9 hr2_10 hr2_11 j0_10 j1_10 j2_10 j3_10 j4_10 j5_10 j6_10 j7_10
      clear ev1_0 ev1_1 ev1_2 ev1_3 ev1_4 ev1_5 ev1_6 ev1_7
      omega
    | succ n ih4 =>
      intro z1_10 v2 f2 hv2 hf2 hw2 hr2_3 hr2_4 hr2_5 hr2_6 hr2_12 hr2_13 hr2_14 hr2_15 hr2_7 hr2_8 hr2_9 hr2_10 hr2_11 j0_10 j1_10 j2_10 j3_10 j4_10 j5_10 j6_10 j7_10
      clear ev1_0 ev1_1 ev1_2 ev1_3 ev1_4 ev1_5 ev1_6 ev1_7
      have lr5 := hr2_5
      have lr6 := hr2_6
      refine hC.1 1 10 _ _ rfl _ _ _ _ _ ?_
      have hu5_0 := hv2.1
      have hu5_4 := hv2.2.2.2.2.1
      refine Exists.intro _ (And.intro md_o ?_)
      refine And.intro (fun c6 => ?_) (fun c6 => ?_)
      · skip
        refine hC.1 2 48 _ _ rfl _ _ _ _ _ ?_
        have lp7 : ∀ (n : Nat) (z1_52 : Int32) (z2_52 : Int32), (0 ≤ z2_52.toInt ∧ z2_52.toInt ≤ (v 2).toInt) → (0 ≤ z1_52.toInt ∧ z1_52.toInt ≤ z2_52.toInt) → (∀ (n : Int) (c m : Nat → Int32), OB v f n c m → z1_52.toInt = (tcN n c m (f2 0) (f2 1) z2_52.toInt.toNat : Int)) → 200 - z2_52.toInt < (n : Int) → J 52 [some (.ref h), some (.int z1_52), some (.int z2_52)] [] (md A0 g h q v2 f2) 0 0 := by
          intro n
          induction n with
          | zero =>
            intro z1_52 z2_52 j0_52 j1_52 j2_52 j3_52
            omega
          | succ n ih8 =>
            intro z1_52 z2_52 j0_52 j1_52 j2_52 j3_52
            have lr3 := hr2_3
            have lr4 := hr2_4
            refine hC.1 3 52 _ _ rfl _ _ _ _ _ ?_
            refine Exists.intro _ (And.intro md_o ?_)
            refine And.intro (fun c9 => ?_) (fun c9 => ?_)
            · skip
              refine hC.1 6 82 _ _ rfl _ _ _ _ _ ?_
              refine Exists.intro _ (And.intro md_o ?_)
              have k1 : (1 : Int32).toInt = 1 := rfl
              intro m10 em_88
              try have e10 : m10.toInt = ((v2 4)).toInt + (1) := by rw [em_88]; exact pm_addc _ _ (1) rfl (by omega) (by omega)
              refine Exists.intro _ (And.intro md_o (And.intro rfl ?_))
              rw [md_p_edits D]
              obtain ⟨v11, ev11⟩ : ∃ z9, z9 = upd v2 4 m10 := ⟨_, rfl⟩
              rw [← ev11]
              have ev11_0 : (v11 0).toInt = (v2 0).toInt := by rw [ev11]; rfl
              have ev11_1 : (v11 1).toInt = (v2 1).toInt := by rw [ev11]; rfl
              have ev11_2 : (v11 2).toInt = (v2 2).toInt := by rw [ev11]; rfl
              have ev11_3 : (v11 3).toInt = (v2 3).toInt := by rw [ev11]; rfl
              have ev11_4 : (v11 4).toInt = (m10).toInt := by rw [ev11]; rfl
              have ev11_5 : (v11 5).toInt = (v2 5).toInt := by rw [ev11]; rfl
              have ev11_6 : (v11 6).toInt = (v2 6).toInt := by rw [ev11]; rfl
              have ev11_7 : (v11 7).toInt = (v2 7).toInt := by rw [ev11]; rfl
              have pn_89 : v11 4 = m10 := by rw [ev11]; rfl
              refine Exists.intro _ (And.intro md_o ?_)
              intro m12 em_98
              refine Exists.intro _ (And.intro md_o (And.intro rfl ?_))
              rw [md_p_touchedAll D]
              obtain ⟨v13, ev13⟩ : ∃ z9, z9 = upd v11 5 m12 := ⟨_, rfl⟩
              rw [← ev13]
              have ev13_0 : (v13 0).toInt = (v11 0).toInt := by rw [ev13]; rfl
              have ev13_1 : (v13 1).toInt = (v11 1).toInt := by rw [ev13]; rfl
              have ev13_2 : (v13 2).toInt = (v11 2).toInt := by rw [ev13]; rfl
              have ev13_3 : (v13 3).toInt = (v11 3).toInt := by rw [ev13]; rfl
              have ev13_4 : (v13 4).toInt = (v11 4).toInt := by rw [ev13]; rfl
              have ev13_5 : (v13 5).toInt = (m12).toInt := by rw [ev13]; rfl
              have ev13_6 : (v13 6).toInt = (v11 6).toInt := by rw [ev13]; rfl
              have ev13_7 : (v13 7).toInt = (v11 7).toInt := by rw [ev13]; rfl
              have pn_99 : v13 5 = m12 := by rw [ev13]; rfl
              have y12_9 := hr2_12
              have y13_9 := hr2_13
              have y14_9 := hr2_14
              have y15_9 := hr2_15
              have hv14 : md_V v13 := by unfold md_V; omega
              refine And.intro (Exists.intro _ md_o) (Exists.intro _ (Exists.intro _ (Exists.intro _ (Exists.intro _ (And.intro (U_X11_keepsRow D v13 f2 hv14 hf2 z1_52 ) (And.intro rfl (fun r9 A9 h9 => ?_)))))))
              obtain ⟨v16, f16, rfl, rfl, hv16, hf16, hx16, hg16_0, hg16_1, hg16_7, hg16_8, hg16_9, hg16_10, hg16_11, by15⟩ := h9
              have hw16 : f16 2 = f 2 := hx16.trans hw2
              have pr_104_0 := hg16_0
              have pr_104_1 := hg16_1
              have pr_104_7 := hg16_7
              have pr_104_8 := hg16_8
              have pr_104_9 := hg16_9
              have pr_104_10 := hg16_10
              have pr_104_11 := hg16_11
              have hr16_7 : f16 7 = f 7 := hg16_7.trans hr2_7
              have hr16_8 : f16 8 = f 8 := hg16_8.trans hr2_8
              have hr16_9 : f16 9 = f 9 := hg16_9.trans hr2_9
              have hr16_10 : f16 10 = f 10 := hg16_10.trans hr2_10
              have hr16_11 : f16 11 = f 11 := hg16_11.trans hr2_11
              have yk_9 := by15.2
              exact ⟨rfl, fun e9 => absurd e9 (by decide), rfl, z1_52, v16, f16, rfl, rfl, hv16, hf16, hw16, hr16_7, hr16_8, hr16_9, hr16_10, hr16_11, by first | omega | (dsimp only; omega) | trivial, by refine ⟨?_, ?_, ?_, ?_⟩; (intro N hN; refine rp_cp hN (by omega) (fun j hj => ?_); rw [pr_104_0, pr_104_1]; exact j2_10 j (by omega)); (exact HM_of yk_9 y12_9 y13_9 y14_9 y15_9 (by omega) (by omega) (by omega) pr_104_0 pr_104_1); (intro n c m hO; have h7 := j2_52 n c m hO; rw [pr_104_0, pr_104_1, show (v16 0).toInt.toNat = z2_52.toInt.toNat by omega]; exact h7); (exact (pm_eqI (by have h9 := congrArg Int32.toInt pn_99; omega) : v16 5 = _).trans (em_98.trans (by congr 1; exact pm_eqI (by omega))))⟩
            · skip
              refine And.intro (Exists.intro _ md_o) (Exists.intro _ (Exists.intro _ (Exists.intro _ (Exists.intro _ (And.intro (U_X11_isTouched D v2 f2 hv2 hf2 z2_52 (by omega)) (And.intro rfl (fun r9 A9 h9 => ?_)))))))
              rcases h9 with ⟨y18, rfl, rfl, ⟨rfl, by18⟩ | ⟨rfl, by18⟩⟩
              · skip
                have k1 : (1 : Int32).toInt = 1 := rfl
                have ht9 := by18
                refine And.intro (fun c9 => absurd c9 (by decide)) (fun _ => ?_)
                refine hC.1 5 74 _ _ rfl _ _ _ _ _ ?_
                intro m19 em_74
                try have e19 : m19.toInt = (z1_52).toInt + (1) := by rw [em_74]; exact pm_addc _ _ (1) rfl (by omega) (by omega)
                intro m20 em_76
                try have e20 : m20.toInt = (z2_52).toInt + (1) := by rw [em_76]; exact pm_addc _ _ (1) rfl (by omega) (by omega)
                exact ih8 m19 m20 (by omega) (by omega) (by intro n c m hO; have hO2 := OB_fr (v2 := v2) (f2 := f2) hO (by omega) lr3 lr4; have h7 := j2_52 n c m hO; rw [show m20.toInt.toNat = z2_52.toInt.toNat + 1 by omega]; first | (rw [tcN_y (by rw [show ((z2_52.toInt.toNat : Nat) : Int) = z2_52.toInt by omega]; exact ht9 n c m hO2)]; omega) | (rw [tcN_n (by rw [show ((z2_52.toInt.toNat : Nat) : Int) = z2_52.toInt by omega]; exact ht9 n c m hO2)]; omega)) (by omega)
              · skip
                have ht9 := by18
                refine And.intro (fun _ => ?_) (fun c9 => absurd c9 (by decide))
                refine hC.1 4 73 _ _ rfl _ _ _ _ _ ?_
                refine hC.1 5 74 _ _ rfl _ _ _ _ _ ?_
                intro m21 em_74
                try have e21 : m21.toInt = (z1_52).toInt + (0) := by rw [em_74]; exact pm_addc _ _ (0) rfl (by omega) (by omega)
                have k1 : (1 : Int32).toInt = 1 := rfl
                intro m22 em_76
                try have e22 : m22.toInt = (z2_52).toInt + (1) := by rw [em_76]; exact pm_addc _ _ (1) rfl (by omega) (by omega)
                exact ih8 m21 m22 (by omega) (by omega) (by intro n c m hO; have hO2 := OB_fr (v2 := v2) (f2 := f2) hO (by omega) lr3 lr4; have h7 := j2_52 n c m hO; rw [show m22.toInt.toNat = z2_52.toInt.toNat + 1 by omega]; first | (rw [tcN_y (by rw [show ((z2_52.toInt.toNat : Nat) : Int) = z2_52.toInt by omega]; exact ht9 n c m hO2)]; omega) | (rw [tcN_n (by rw [show ((z2_52.toInt.toNat : Nat) : Int) = z2_52.toInt by omega]; exact ht9 n c m hO2)]; omega)) (by omega)
        exact lp7 (200 - (0 : Int32).toInt).toNat.succ (0 : Int32) (0 : Int32) (by omega) (by omega) (by intro n c m hO; rfl) (by omega)
      · skip
        refine Exists.intro _ (And.intro md_o ?_)
        refine Exists.intro _ (And.intro md_o ?_)
        refine Exists.intro _ (Exists.intro _ (And.intro (Or.inl (md_a_nextColours D)) (And.intro (by omega) ?_)))
        have w23 : (0 : Int) ≤ (f2 5 (z1_10).toInt.toNat).toInt ∧ (f2 5 (z1_10).toInt.toNat).toInt ≤ (23 : Int) := hf2 5 _
        refine Exists.intro _ (Exists.intro _ (And.intro (md_a_colours D) (And.intro (by omega) ?_)))
        rw [md_s_colours D]
        obtain ⟨f24, ef24⟩ : ∃ z9, z9 = va_up f2 0 (upd (f2 0) (z1_10).toInt.toNat (f2 5 (z1_10).toInt.toNat)) := ⟨_, rfl⟩
        rw [← ef24]
        have pf_29 : f24 0 = upd (f2 0) (z1_10).toInt.toNat (f2 5 (z1_10).toInt.toNat) := by rw [ef24]; exact if_pos rfl
        have pg_29 : ∀ i9, i9 ≠ 0 → f24 i9 = f2 i9 := fun i9 h9 => by rw [ef24]; exact if_neg h9
        have hf24 : md_F f24 := by rw [ef24]; exact md_F_st hf2 0 _ _ (by show (0 : Int) ≤ _ ∧ _ ≤ (23 : Int); omega)
        have hw24 : f24 2 = f 2 := (show f24 2 = f2 2 by rw [ef24]; rfl).trans hw2
        have hr24_3 : f24 3 = f 3 := (show f24 3 = f2 3 by rw [ef24]; rfl).trans hr2_3
        have hr24_4 : f24 4 = f 4 := (show f24 4 = f2 4 by rw [ef24]; rfl).trans hr2_4
        have hr24_5 : f24 5 = f 5 := (show f24 5 = f2 5 by rw [ef24]; rfl).trans hr2_5
        have hr24_6 : f24 6 = f 6 := (show f24 6 = f2 6 by rw [ef24]; rfl).trans hr2_6
        have hr24_12 : f24 12 = f 12 := (show f24 12 = f2 12 by rw [ef24]; rfl).trans hr2_12
        have hr24_13 : f24 13 = f 13 := (show f24 13 = f2 13 by rw [ef24]; rfl).trans hr2_13
        have hr24_14 : f24 14 = f 14 := (show f24 14 = f2 14 by rw [ef24]; rfl).trans hr2_14
        have hr24_15 : f24 15 = f 15 := (show f24 15 = f2 15 by rw [ef24]; rfl).trans hr2_15
        have hr24_7 : f24 7 = f 7 := (show f24 7 = f2 7 by rw [ef24]; rfl).trans hr2_7
        have hr24_8 : f24 8 = f 8 := (show f24 8 = f2 8 by rw [ef24]; rfl).trans hr2_8
        have hr24_9 : f24 9 = f 9 := (show f24 9 = f2 9 by rw [ef24]; rfl).trans hr2_9
        have hr24_10 : f24 10 = f 10 := (show f24 10 = f2 10 by rw [ef24]; rfl).trans hr2_10
        have hr24_11 : f24 11 = f 11 := (show f24 11 = f2 11 by rw [ef24]; rfl).trans hr2_11
        refine Exists.intro _ (And.intro md_o ?_)
        refine Exists.intro _ (And.intro md_o ?_)
        refine Exists.intro _ (Exists.intro _ (And.intro (Or.inl (md_a_nextNames D)) (And.intro (by omega) ?_)))
        refine Exists.intro _ (Exists.intro _ (And.intro (md_a_names D) (And.intro (by omega) ?_)))
        rw [md_s_names D]
        obtain ⟨f25, ef25⟩ : ∃ z9, z9 = va_up f24 1 (upd (f24 1) (z1_10).toInt.toNat (f24 6 (z1_10).toInt.toNat)) := ⟨_, rfl⟩
        rw [← ef25]
        have pf_41 : f25 1 = upd (f24 1) (z1_10).toInt.toNat (f24 6 (z1_10).toInt.toNat) := by rw [ef25]; exact if_pos rfl
        have pg_41 : ∀ i9, i9 ≠ 1 → f25 i9 = f24 i9 := fun i9 h9 => by rw [ef25]; exact if_neg h9
        have hf25 : md_F f25 := by rw [ef25]; exact md_F_st hf24 1 _ _ (md_rng _ _ (by decide))
        have hw25 : f25 2 = f 2 := (show f25 2 = f24 2 by rw [ef25]; rfl).trans hw24
        have hr25_3 : f25 3 = f 3 := (show f25 3 = f24 3 by rw [ef25]; rfl).trans hr24_3
        have hr25_4 : f25 4 = f 4 := (show f25 4 = f24 4 by rw [ef25]; rfl).trans hr24_4
        have hr25_5 : f25 5 = f 5 := (show f25 5 = f24 5 by rw [ef25]; rfl).trans hr24_5
        have hr25_6 : f25 6 = f 6 := (show f25 6 = f24 6 by rw [ef25]; rfl).trans hr24_6
        have hr25_12 : f25 12 = f 12 := (show f25 12 = f24 12 by rw [ef25]; rfl).trans hr24_12
        have hr25_13 : f25 13 = f 13 := (show f25 13 = f24 13 by rw [ef25]; rfl).trans hr24_13
        have hr25_14 : f25 14 = f 14 := (show f25 14 = f24 14 by rw [ef25]; rfl).trans hr24_14
        have hr25_15 : f25 15 = f 15 := (show f25 15 = f24 15 by rw [ef25]; rfl).trans hr24_15
        have hr25_7 : f25 7 = f 7 := (show f25 7 = f24 7 by rw [ef25]; rfl).trans hr24_7
        have hr25_8 : f25 8 = f 8 := (show f25 8 = f24 8 by rw [ef25]; rfl).trans hr24_8
        have hr25_9 : f25 9 = f 9 := (show f25 9 = f24 9 by rw [ef25]; rfl).trans hr24_9
        have hr25_10 : f25 10 = f 10 := (show f25 10 = f24 10 by rw [ef25]; rfl).trans hr24_10
        have hr25_11 : f25 11 = f 11 := (show f25 11 = f24 11 by rw [ef25]; rfl).trans hr24_11
        have k1 : (1 : Int32).toInt = 1 := rfl
        intro m26 em_42
        try have e26 : m26.toInt = (z1_10).toInt + (1) := by rw [em_42]; exact pm_addc _ _ (1) rfl (by omega) (by omega)
        exact ih4 m26 v2 f25 hv2 hf25 hw25 hr25_3 hr25_4 hr25_5 hr25_6 hr25_12 hr25_13 hr25_14 hr25_15 hr25_7 hr25_8 hr25_9 hr25_10 hr25_11 (by omega) (by omega) (by intro j hj; rw [pg_41 0 (by decide), pf_29, pf_41, pg_29 1 (by decide), pg_29 6 (by decide), lr5, lr6]; by_cases hjz : j = z1_10.toInt.toNat; (subst hjz; exact ⟨pk_us, pk_us⟩); (rw [pk_un hjz, pk_un hjz]; exact j2_10 j (by omega))) (by omega) (by omega) (by omega) (by omega) (by omega)
  have hv27 : md_V v1 := by unfold md_V; omega
  exact lp3 (200 - (0 : Int32).toInt).toNat.succ (0 : Int32) v1 f hv27 hf rfl rfl rfl rfl rfl rfl rfl rfl rfl rfl rfl rfl rfl rfl (by omega) (by omega) (by intro j hj; omega) (by omega) (by omega) (by omega) (by omega) (by omega)

end
end
section
section
variable {l : Launch} {g : pm_G} {A0 : pm_H} {K nn dn : Nat} {q : Nat → Nat} {w : Nat → Int32} {e : Nat → Nat → Int32} {v : Nat → Int32} {f : Nat → Nat → Int32}
set_option maxRecDepth 100000 in
set_option maxHeartbeats 2000000 in
theorem U_X7_bondAt (hI : cw_I K nn dn q w e) (hs : cw_S v f) {o0 : Nat} (ho0 : cw_ro K o0) (x1 : Int32)  : pm_Mt l g 20 2 0 0 [.ref (q o0), .int x1] (cw A0 g K nn dn q w e v f) (md_Qp (cw A0 g K nn dn q w e v f) (fun r => (0 ≤ x1.toInt → x1.toInt < (w o0).toInt → (e (o0 + 3) x1.toInt.toNat).toInt = lastEq (e (o0 + 1)) ((e (o0 + 1)) x1.toInt.toNat) x1.toInt.toNat) → r = BA (e (o0 + 1)) (e (o0 + 2)) (w o0).toInt x1.toInt)) := by
  refine mt_X7_bondAt rfl (fun J hC => ?_)
  have ro_nn : cw_ro K nn := hI.2.1.2.1
  have ro_dn : cw_ro K dn := hI.2.1.2.2.1
  have hu1 := hI.2.1
  unfold cw_W at hu1
  have rg_x1 := pm_rng x1
  have zz0 := cw_sz hI ho0
  refine hC.1 0 0 _ _ rfl _ _ _ _ _ ?_
  refine And.intro (Exists.intro _ (cw_ro_o hI.1 ho0)) (Exists.intro _ (Exists.intro _ (Exists.intro _ (Exists.intro _ (And.intro (c_X7_has hI hs ho0 x1 ) (And.intro rfl (fun r9 A9 h9 => ?_)))))))
  rcases h9 with ⟨y2, rfl, rfl, ⟨rfl, by2⟩ | ⟨rfl, by2⟩⟩
  · skip
    have k1 : (1 : Int32).toInt = 1 := rfl
    refine And.intro (fun c9 => absurd c9 (by decide)) (fun _ => ?_)
    refine Exists.intro _ (And.intro (cw_ro_o hI.1 ho0) ?_)
    refine Exists.intro _ (Exists.intro _ (And.intro (Or.inl (cw_ro_3 hI.1 ho0)) (And.intro (by omega) ?_)))
    have w4 := cw_ahd hI ho0 (x1).toInt.toNat
    refine And.intro (Exists.intro _ (cw_ro_o hI.1 ho0)) (Exists.intro _ (Exists.intro _ (Exists.intro _ (Exists.intro _ (And.intro (F_X7_nameAt hI hs ho0 (e (o0 + 3) (x1).toInt.toNat) ) (And.intro rfl (fun r9 A9 h9 => ?_)))))))
    obtain ⟨y5, rfl, rfl, by5⟩ := h9
    refine hC.1 2 22 _ _ rfl _ _ _ _ _ ?_
    exact ⟨rfl, fun e9 => absurd e9 (by decide), rfl, y5, rfl, rfl, by intro h9; first | (exact (BA_n (by omega)).symm) | (exact (bo_l h9 (by omega) (by assumption)).trans (BA_y (by omega)).symm)⟩
  · skip
    have k0 : (0 : Int32).toInt = 0 := rfl
    refine And.intro (fun _ => ?_) (fun c9 => absurd c9 (by decide))
    refine hC.1 1 21 _ _ rfl _ _ _ _ _ ?_
    have km1 : (-1 : Int32).toInt = -1 := rfl
    refine hC.1 2 22 _ _ rfl _ _ _ _ _ ?_
    exact ⟨rfl, fun e9 => absurd e9 (by decide), rfl, (-1 : Int32), rfl, rfl, by intro h9; first | (exact (BA_n (by omega)).symm) | (exact (bo_l h9 (by omega) (by assumption)).trans (BA_y (by omega)).symm)⟩

set_option maxRecDepth 100000 in
set_option maxHeartbeats 2000000 in
theorem U_X9_append (hI : cw_I K nn dn q w e) (hs : cw_S v f) (x1 : Int32) (x2 : Int32) (x3 : Int32) (p0 : 0 ≤ x1.toInt ∧ x1.toInt ≤ 23) : pm_Mt l g 22 0 0 0 [.ref (q 1), .int x1, .int x2, .int x3] (cw A0 g K nn dn q w e v f) (cw_Qu A0 g K nn dn q (fun r w2 e2 v2 f2 => e2 15 = e 15 ∧ (r = none ∧ (((w2 0).toInt = (w 0).toInt ∧ (w2 1).toInt = (w 1).toInt ∧ (w2 2).toInt = (w 2).toInt ∧ (w2 3).toInt = (w 3).toInt) ∧ (((∀ i9, 35 ≤ i9 → (i9 < dn ∨ dn + 4 ≤ i9) → w2 i9 = w i9 ∧ e2 i9 = e i9) ∧ ∀ D, rp (w dn) (e (dn + 1)) (e (dn + 2)) (D) → (D.length : Int) < 160 → rp (w2 dn) (e2 (dn + 1)) (e2 (dn + 2)) (D ++ [(x1, x2)])) ∧ (∀ (n : Int) (c m : Nat → Int32), x3 = tcb n c m x2 → TB w e f dn n c m → TB w2 e2 f2 dn n c m)))))) := by
  refine mt_X9_append rfl (fun J hC => ?_)
  have ro_nn : cw_ro K nn := hI.2.1.2.1
  have ro_dn : cw_ro K dn := hI.2.1.2.2.1
  have hu1 := hI.2.1
  unfold cw_W at hu1
  have zs2 := cw_sz hI ro_nn
  have zs3 := cw_sz hI ro_dn
  have rg_x1 := pm_rng x1
  have rg_x2 := pm_rng x2
  have rg_x3 := pm_rng x3
  refine hC.1 0 0 _ _ rfl _ _ _ _ _ ?_
  refine Exists.intro _ (And.intro (cw_o1 hI.1) ?_)
  refine Exists.intro _ (And.intro (cw_ro_o hI.1 ro_dn) ?_)
  have z4 := cw_sz hI ro_dn
  refine And.intro (fun c5 => ?_) (fun c5 => ?_)
  · skip
    refine hC.1 1 22 _ _ rfl _ _ _ _ _ ?_
    exact ⟨rfl, rfl, w, e, v, f, rfl, hI, hs, rfl, rfl, by first | omega | (dsimp only; omega) | trivial, by refine ⟨?_, ?_⟩; (exact ⟨fun _ _ _ => ⟨rfl, rfl⟩, fun D hD hlen => absurd hD.1 (by omega)⟩); (exact fun n c m _ h => h)⟩
  · skip
    have k160 : (160 : Int32).toInt = 160 := rfl
    refine And.intro (fun c6 => ?_) (fun c6 => ?_)
    · skip
      refine hC.1 2 23 _ _ rfl _ _ _ _ _ ?_
      refine Exists.intro _ (And.intro (cw_o1 hI.1) ?_)
      refine Exists.intro _ (And.intro (cw_ro_o hI.1 ro_dn) ?_)
      have hb7 := ro_dn
      unfold cw_ro at hb7
      refine Exists.intro _ (Exists.intro _ (And.intro (cw_ro_1 hI.1 ro_dn) (And.intro (by omega) ?_)))
      rw [cw_sr_1 hI.1 ro_dn]
      obtain ⟨e8, ee8⟩ : ∃ z9, z9 = va_up e (dn + 1) (upd (e (dn + 1)) ((w dn)).toInt.toNat x1) := ⟨_, rfl⟩
      rw [← ee8]
      have hI8 : cw_I K nn dn q w e8 := ⟨hI.1, hI.2.1, hI.2.2.1, by rw [ee8]; exact cw_E_1 hI.2.2.2 (by omega) _ _ (by omega)⟩
      have hx8 : e8 15 = e 15 := (show e8 15 = e 15 by rw [ee8]; exact if_neg (by omega)).trans rfl
      have pe_33 := ee8
      refine Exists.intro _ (And.intro (cw_o1 hI8.1) ?_)
      refine Exists.intro _ (And.intro (cw_ro_o hI8.1 ro_dn) ?_)
      have hb9 := ro_dn
      unfold cw_ro at hb9
      refine Exists.intro _ (Exists.intro _ (And.intro (cw_ro_2 hI8.1 ro_dn) (And.intro (by omega) ?_)))
      rw [cw_sr_2 hI8.1 ro_dn]
      obtain ⟨e10, ee10⟩ : ∃ z9, z9 = va_up e8 (dn + 2) (upd (e8 (dn + 2)) ((w dn)).toInt.toNat x2) := ⟨_, rfl⟩
      rw [← ee10]
      have hI10 : cw_I K nn dn q w e10 := ⟨hI8.1, hI8.2.1, hI8.2.2.1, by rw [ee10]; exact cw_E_2 hI8.2.2.2 (by omega) _⟩
      have hx10 : e10 15 = e 15 := (show e10 15 = e8 15 by rw [ee10]; exact if_neg (by omega)).trans hx8
      have pe_44 := ee10
      refine Exists.intro _ (And.intro (cw_o1 hI10.1) ?_)
      refine Exists.intro _ (Exists.intro _ (And.intro (cw_a12 hI10.1) (And.intro (by omega) ?_)))
      rw [cw_s12 hI10.1]
      obtain ⟨f11, ef11⟩ : ∃ z9, z9 = va_up f 12 (upd (f 12) ((w dn)).toInt.toNat x3) := ⟨_, rfl⟩
      rw [← ef11]
      have hs11 : cw_S v f11 := by rw [ef11]; exact cw_S_fr hs _ _ (by decide) (by decide)
      have pf_52 := ef11
      refine Exists.intro _ (And.intro (cw_o1 hI10.1) ?_)
      have k1 : (1 : Int32).toInt = 1 := rfl
      intro m12 em_60
      try have e12 : m12.toInt = ((w dn)).toInt + (1) := by rw [em_60]; exact pm_addc _ _ (1) rfl (by omega) (by omega)
      have hb13 := ro_dn
      unfold cw_ro at hb13
      refine Exists.intro _ (And.intro (cw_ro_o hI10.1 ro_dn) (And.intro rfl ?_))
      rw [cw_p_size hI10.1 ro_dn]
      obtain ⟨w14, ew14⟩ : ∃ z9, z9 = upd w dn m12 := ⟨_, rfl⟩
      rw [← ew14]
      have ew14_0 : (w14 0).toInt = (w 0).toInt := by rw [ew14, pk_un (by omega)]
      have ew14_1 : (w14 1).toInt = (w 1).toInt := by rw [ew14, pk_un (by omega)]
      have ew14_2 : (w14 2).toInt = (w 2).toInt := by rw [ew14, pk_un (by omega)]
      have ew14_3 : (w14 3).toInt = (w 3).toInt := by rw [ew14, pk_un (by omega)]
      have pn_61 : w14 dn = m12 := by rw [ew14, pk_us]
      have pw_61 := ew14
      have hZ14 : cw_Z w14 := by rw [ew14]; exact cw_Z_up hI10.2.2.1 _ _ (by omega)
      have hI14 : cw_I K nn dn q w14 e10 := ⟨hI10.1, by unfold cw_W; omega, hZ14, hI10.2.2.2⟩
      exact ⟨rfl, rfl, w14, e10, v, f11, rfl, hI14, hs11, hx10, rfl, by first | omega | (dsimp only; omega) | trivial, by refine ⟨?_, ?_⟩; (exact ⟨fun i9 h91 h92 => ⟨by rw [pw_61, pk_un (by omega)], by rw [pe_44, va_un (by omega), pe_33, va_un (by omega)]⟩, fun D hD hlen => (by rw [pw_61, pk_us, pe_44, va_un (by omega), va_us, pe_33, va_us, va_un (by omega)]; exact rp_app hD (by omega) _ _)⟩); (exact fun n c m hb h => TB_app h (by omega) (by rw [pw_61, pk_us]; omega) (by rw [pe_44, va_us, pe_33, va_un (by omega)]) (by rw [pf_52, va_us]) hb)⟩
    · skip
      refine hC.1 1 22 _ _ rfl _ _ _ _ _ ?_
      exact ⟨rfl, rfl, w, e, v, f, rfl, hI, hs, rfl, rfl, by first | omega | (dsimp only; omega) | trivial, by refine ⟨?_, ?_⟩; (exact ⟨fun _ _ _ => ⟨rfl, rfl⟩, fun D hD hlen => absurd hD.1 (by omega)⟩); (exact fun n c m _ h => h)⟩

set_option maxRecDepth 100000 in
set_option maxHeartbeats 2000000 in
theorem U_X9_keep (hI : cw_I K nn dn q w e) (hs : cw_S v f) (x1 : Int32) (x2 : Int32)  : pm_Mt l g 18 3 0 0 [.ref (q 1), .int x1, .int x2] (cw A0 g K nn dn q w e v f) (cw_Qu A0 g K nn dn q (fun r w2 e2 v2 f2 => e2 15 = e 15 ∧ (r = none ∧ (((w2 0).toInt = (w 0).toInt ∧ (w2 1).toInt = (w 1).toInt ∧ (w2 2).toInt = (w 2).toInt ∧ (w2 3).toInt = (w 3).toInt) ∧ (((∀ i9, 35 ≤ i9 → (i9 < dn ∨ dn + 4 ≤ i9) → w2 i9 = w i9 ∧ e2 i9 = e i9) ∧ ∀ (L D : List pl_P) (a b : Int), rp (w nn) (e (nn + 1)) (e (nn + 2)) (L) → nn ≠ dn → x1.toInt = a → x2.toInt + 1 = b → 0 ≤ a → a ≤ b → b ≤ (L.length : Int) → (D.length : Int) + (b - a) ≤ 160 → rp (w dn) (e (dn + 1)) (e (dn + 2)) (D) → rp (w2 dn) (e2 (dn + 1)) (e2 (dn + 2)) (D ++ si L a b)) ∧ (nn ≠ dn → UQ (w nn).toInt (e (nn + 2)) → bd (w nn) (e (nn + 1)) (e (nn + 3)) → TB w e f dn (w nn).toInt (e (nn + 1)) (e (nn + 2)) → TB w2 e2 f2 dn (w nn).toInt (e (nn + 1)) (e (nn + 2)))))))) := by
  refine mt_X9_keep rfl (fun J hC => ?_)
  have ro_nn : cw_ro K nn := hI.2.1.2.1
  have ro_dn : cw_ro K dn := hI.2.1.2.2.1
  have hu1 := hI.2.1
  unfold cw_W at hu1
  have zs2 := cw_sz hI ro_nn
  have zs3 := cw_sz hI ro_dn
  have rg_x1 := pm_rng x1
  have rg_x2 := pm_rng x2
  refine hC.1 0 0 _ _ rfl _ _ _ _ _ ?_
  have lp5 : ∀ (n : Nat) (z3_2 : Int32) (w4 : Nat → Int32) (e4 : Nat → Nat → Int32) (v4 : Nat → Int32) (f4 : Nat → Nat → Int32), cw_I K nn dn q w4 e4 → e4 15 = e 15 → cw_S v4 f4 → ((∀ i9, 35 ≤ i9 → (i9 < dn ∨ dn + 4 ≤ i9) → w4 i9 = w i9 ∧ e4 i9 = e i9)) → (∀ L D, rp (w nn) (e (nn + 1)) (e (nn + 2)) (L) → nn ≠ dn → 0 ≤ x1.toInt → x1.toInt ≤ x2.toInt + 1 → x2.toInt + 1 ≤ (L.length : Int) → (D.length : Int) + (x2.toInt + 1 - x1.toInt) ≤ 160 → rp (w dn) (e (dn + 1)) (e (dn + 2)) (D) → (x1.toInt ≤ z3_2.toInt ∧ z3_2.toInt ≤ x2.toInt + 1) ∧ rp (w4 dn) (e4 (dn + 1)) (e4 (dn + 2)) (D ++ si L x1.toInt z3_2.toInt)) → (nn ≠ dn → UQ (w nn).toInt (e (nn + 2)) → bd (w nn) (e (nn + 1)) (e (nn + 3)) → TB w e f dn (w nn).toInt (e (nn + 1)) (e (nn + 2)) → TB w4 e4 f4 dn (w nn).toInt (e (nn + 1)) (e (nn + 2))) → (w4 0).toInt = (w 0).toInt → (w4 1).toInt = (w 1).toInt → (w4 2).toInt = (w 2).toInt → (w4 3).toInt = (w 3).toInt → ((200 - z3_2.toInt).toNat : Int) < (n : Int) → J 2 [some (.ref (q 1)), some (.int x1), some (.int x2), some (.int z3_2)] [] (cw A0 g K nn dn q w4 e4 v4 f4) 0 0 := by
    intro n
    induction n with
    | zero =>
      intro z3_2 w4 e4 v4 f4 hI4 hx4 hs4 j0_2 j1_2 j2_2 j3_2 j4_2 j5_2 j6_2 j7_2
      omega
    | succ n ih6 =>
      intro z3_2 w4 e4 v4 f4 hI4 hx4 hs4 j0_2 j1_2 j2_2 j3_2 j4_2 j5_2 j6_2 j7_2
      have hu7 := hI4.2.1
      unfold cw_W at hu7
      have zs8 := cw_sz hI4 ro_nn
      have zs9 := cw_sz hI4 ro_dn
      refine hC.1 1 2 _ _ rfl _ _ _ _ _ ?_
      refine And.intro (fun c10 => ?_) (fun c10 => ?_)
      · skip
        refine hC.1 2 54 _ _ rfl _ _ _ _ _ ?_
        exact ⟨rfl, rfl, w4, e4, v4, f4, rfl, hI4, hs4, hx4, rfl, by first | omega | (dsimp only; omega) | trivial, by refine ⟨?_, ?_⟩; (exact ⟨j0_2, fun L D a b h1 h2 ha hb h3 h4 h5 h6 h7 => (by have hl := h1.1; obtain ⟨r1, r2⟩ := j1_2 L D h1 h2 (by omega) (by omega) (by omega) (by omega) h7; have hn1 := ro_nn; have hd1 := ro_dn; unfold cw_ro at hn1 hd1; have hw9 := congrArg Int32.toInt (j0_2 nn (by omega) (by omega)).1; rw [show a = x1.toInt by omega, show b = z3_2.toInt by omega]; exact r2)⟩); (exact j2_2)⟩
      · skip
        refine Exists.intro _ (And.intro (cw_o1 hI4.1) ?_)
        refine And.intro (Exists.intro _ (cw_ro_o hI4.1 ro_nn)) (Exists.intro _ (Exists.intro _ (Exists.intro _ (Exists.intro _ (And.intro (c_X7_has hI4 hs4 ro_nn z3_2 ) (And.intro rfl (fun r9 A9 h9 => ?_)))))))
        rcases h9 with ⟨y11, rfl, rfl, ⟨rfl, by11⟩ | ⟨rfl, by11⟩⟩
        · skip
          have k1 : (1 : Int32).toInt = 1 := rfl
          refine And.intro (fun c9 => absurd c9 (by decide)) (fun _ => ?_)
          refine Exists.intro _ (And.intro (cw_o1 hI4.1) ?_)
          refine Exists.intro _ (And.intro (cw_ro_o hI4.1 ro_nn) ?_)
          refine Exists.intro _ (Exists.intro _ (And.intro (Or.inl (cw_ro_1 hI4.1 ro_nn)) (And.intro (by omega) ?_)))
          have w13 := cw_col hI4 ro_nn (z3_2).toInt.toNat
          refine Exists.intro _ (And.intro (cw_o1 hI4.1) ?_)
          refine Exists.intro _ (And.intro (cw_ro_o hI4.1 ro_nn) ?_)
          refine Exists.intro _ (Exists.intro _ (And.intro (Or.inl (cw_ro_2 hI4.1 ro_nn)) (And.intro (by omega) ?_)))
          refine Exists.intro _ (And.intro (cw_o1 hI4.1) ?_)
          refine And.intro (Exists.intro _ (cw_ro_o hI4.1 ro_nn)) (Exists.intro _ (Exists.intro _ (Exists.intro _ (Exists.intro _ (And.intro (U_X7_bondAt hI4 hs4 ro_nn z3_2 ) (And.intro rfl (fun r9 A9 h9 => ?_)))))))
          obtain ⟨y14, rfl, rfl, by14⟩ := h9
          have yb_9 := by14
          refine And.intro (Exists.intro _ (cw_o1 hI4.1)) (Exists.intro _ (Exists.intro _ (Exists.intro _ (Exists.intro _ (And.intro (U_X9_append hI4 hs4 (e4 (nn + 1) (z3_2).toInt.toNat) (e4 (nn + 2) (z3_2).toInt.toNat) y14 (by omega)) (And.intro rfl (fun r9 A9 h9 => ?_)))))))
          rcases h9 with ⟨w17, e17, v17, f17, rfl, hI17, hs17, hy17, rfl, by16⟩
          have hx17 : e17 15 = e 15 := hy17.trans hx4
          have zs18 := cw_sz hI17 ro_nn
          have zs19 := cw_sz hI17 ro_dn
          have hb_45 := by16.2.1
          have ht_45 := by16.2.2
          have sw17_0 : (w17 0).toInt = (w4 0).toInt := by16.1.1
          have sw17_1 : (w17 1).toInt = (w4 1).toInt := by16.1.2.1
          have sw17_2 : (w17 2).toInt = (w4 2).toInt := by16.1.2.2.1
          have sw17_3 : (w17 3).toInt = (w4 3).toInt := by16.1.2.2.2
          clear by16
          intro m20 em_48
          try have e20 : m20.toInt = (z3_2).toInt + (1) := by rw [em_48]; exact pm_addc _ _ (1) rfl (by omega) (by omega)
          exact ih6 m20 w17 e17 v17 f17 hI17 hx17 hs17 (by exact fun i9 h91 h92 => ⟨(hb_45.1 i9 h91 h92).1.trans (j0_2 i9 h91 h92).1, (hb_45.1 i9 h91 h92).2.trans (j0_2 i9 h91 h92).2⟩) (by intro L D h1 h2 h3 h4 h5 h6 h7; have hl := h1.1; obtain ⟨r1, r2⟩ := j1_2 L D h1 h2 h3 h4 h5 h6 h7; have hk := si_len (L := L) (a := x1.toInt) (b := z3_2.toInt) h3 r1.1 (by omega); refine ⟨by omega, ?_⟩; have h8 := hb_45.2 _ r2 (by rw [List.length_append]; omega); rw [show m20.toInt = z3_2.toInt + 1 by omega, si_s h1 h3 r1.1 (by omega), ← List.append_assoc]; have hn1 := ro_nn; have hd1 := ro_dn; unfold cw_ro at hn1 hd1; rw [(j0_2 (nn + 1) (by omega) (by omega)).2, (j0_2 (nn + 2) (by omega) (by omega)).2] at h8; exact h8) (by intro h1 h2 h3 h4; have hn1 := ro_nn; have hd1 := ro_dn; unfold cw_ro at hn1 hd1; have q0 := (j0_2 nn (by omega) (by omega)).1; have q1 := (j0_2 (nn + 1) (by omega) (by omega)).2; have q2 := (j0_2 (nn + 2) (by omega) (by omega)).2; have q3 := (j0_2 (nn + 3) (by omega) (by omega)).2; have h5 := j2_2 h1 h2 h3 h4; rw [q0, q1, q2, q3] at yb_9; have q9 := congrArg Int32.toInt q0; have h6 := (yb_9 (fun a1 a2 => h3 _ (by omega))).trans (BA_y (by omega)); refine ht_45 _ _ _ ?_ h5; rw [q2]; exact tcb_y h2 (by omega) h6) (by omega) (by omega) (by omega) (by omega) (by omega)
        · skip
          have k0 : (0 : Int32).toInt = 0 := rfl
          refine And.intro (fun _ => ?_) (fun c9 => absurd c9 (by decide))
          refine hC.1 2 54 _ _ rfl _ _ _ _ _ ?_
          exact ⟨rfl, rfl, w4, e4, v4, f4, rfl, hI4, hs4, hx4, rfl, by first | omega | (dsimp only; omega) | trivial, by refine ⟨?_, ?_⟩; (exact ⟨j0_2, fun L D a b h1 h2 ha hb h3 h4 h5 h6 h7 => (by have hl := h1.1; obtain ⟨r1, r2⟩ := j1_2 L D h1 h2 (by omega) (by omega) (by omega) (by omega) h7; have hn1 := ro_nn; have hd1 := ro_dn; unfold cw_ro at hn1 hd1; have hw9 := congrArg Int32.toInt (j0_2 nn (by omega) (by omega)).1; rw [show a = x1.toInt by omega, show b = z3_2.toInt by omega]; exact r2)⟩); (exact j2_2)⟩
  exact lp5 (((200 - x1.toInt).toNat : Int)).toNat.succ x1 w e v f hI rfl hs (by exact fun _ _ _ => ⟨rfl, rfl⟩) (by intro L D h1 h2 h3 h4 h5 h6 h7; refine ⟨by omega, ?_⟩; rw [si_n (L := L) (a := x1.toInt) (b := x1.toInt) (Int.le_refl _), List.append_nil]; exact h7) (by exact fun _ _ _ h => h) (by omega) (by omega) (by omega) (by omega) (by omega)

set_option maxRecDepth 100000 in
set_option maxHeartbeats 2000000 in
theorem U_X9_keepAs (hI : cw_I K nn dn q w e) (hs : cw_S v f) (x1 : Int32) (x2 : Int32) (p0 : 0 ≤ x2.toInt ∧ x2.toInt ≤ 23) : pm_Mt l g 23 3 0 0 [.ref (q 1), .int x1, .int x2] (cw A0 g K nn dn q w e v f) (cw_Qu A0 g K nn dn q (fun r w2 e2 v2 f2 => e2 15 = e 15 ∧ (r = none ∧ (((w2 0).toInt = (w 0).toInt ∧ (w2 1).toInt = (w 1).toInt ∧ (w2 2).toInt = (w 2).toInt ∧ (w2 3).toInt = (w 3).toInt) ∧ (((∀ i9, 35 ≤ i9 → (i9 < dn ∨ dn + 4 ≤ i9) → w2 i9 = w i9 ∧ e2 i9 = e i9) ∧ ∀ L D, rp (w nn) (e (nn + 1)) (e (nn + 2)) (L) → nn ≠ dn → 0 ≤ x1.toInt → x1.toInt < (L.length : Int) → (D.length : Int) < 160 → rp (w dn) (e (dn + 1)) (e (dn + 2)) (D) → rp (w2 dn) (e2 (dn + 1)) (e2 (dn + 2)) (D ++ [(x2, e (nn + 2) x1.toInt.toNat)])) ∧ (nn ≠ dn → UQ (w nn).toInt (e (nn + 2)) → bd (w nn) (e (nn + 1)) (e (nn + 3)) → TB w e f dn (w nn).toInt (e (nn + 1)) (e (nn + 2)) → TB w2 e2 f2 dn (w nn).toInt (e (nn + 1)) (e (nn + 2)))))))) := by
  refine mt_X9_keepAs rfl (fun J hC => ?_)
  have ro_nn : cw_ro K nn := hI.2.1.2.1
  have ro_dn : cw_ro K dn := hI.2.1.2.2.1
  have hu1 := hI.2.1
  unfold cw_W at hu1
  have zs2 := cw_sz hI ro_nn
  have zs3 := cw_sz hI ro_dn
  have rg_x1 := pm_rng x1
  have rg_x2 := pm_rng x2
  refine hC.1 0 0 _ _ rfl _ _ _ _ _ ?_
  refine Exists.intro _ (And.intro (cw_o1 hI.1) ?_)
  refine And.intro (Exists.intro _ (cw_ro_o hI.1 ro_nn)) (Exists.intro _ (Exists.intro _ (Exists.intro _ (Exists.intro _ (And.intro (c_X7_has hI hs ro_nn x1 ) (And.intro rfl (fun r9 A9 h9 => ?_)))))))
  rcases h9 with ⟨y4, rfl, rfl, ⟨rfl, by4⟩ | ⟨rfl, by4⟩⟩
  · skip
    have k1 : (1 : Int32).toInt = 1 := rfl
    refine And.intro (fun c9 => absurd c9 (by decide)) (fun _ => ?_)
    refine Exists.intro _ (And.intro (cw_o1 hI.1) ?_)
    refine Exists.intro _ (And.intro (cw_ro_o hI.1 ro_nn) ?_)
    refine Exists.intro _ (Exists.intro _ (And.intro (Or.inl (cw_ro_2 hI.1 ro_nn)) (And.intro (by omega) ?_)))
    refine Exists.intro _ (And.intro (cw_o1 hI.1) ?_)
    refine And.intro (Exists.intro _ (cw_ro_o hI.1 ro_nn)) (Exists.intro _ (Exists.intro _ (Exists.intro _ (Exists.intro _ (And.intro (U_X7_bondAt hI hs ro_nn x1 ) (And.intro rfl (fun r9 A9 h9 => ?_)))))))
    obtain ⟨y6, rfl, rfl, by6⟩ := h9
    have yb_9 := by6
    refine And.intro (Exists.intro _ (cw_o1 hI.1)) (Exists.intro _ (Exists.intro _ (Exists.intro _ (Exists.intro _ (And.intro (U_X9_append hI hs x2 (e (nn + 2) (x1).toInt.toNat) y6 (by omega)) (And.intro rfl (fun r9 A9 h9 => ?_)))))))
    rcases h9 with ⟨w9, e9, v9, f9, rfl, hI9, hs9, hy9, rfl, by8⟩
    have hx9 : e9 15 = e 15 := hy9.trans rfl
    have zs10 := cw_sz hI9 ro_nn
    have zs11 := cw_sz hI9 ro_dn
    have hb_30 := by8.2.1
    have ht_30 := by8.2.2
    have sw9_0 : (w9 0).toInt = (w 0).toInt := by8.1.1
    have sw9_1 : (w9 1).toInt = (w 1).toInt := by8.1.2.1
    have sw9_2 : (w9 2).toInt = (w 2).toInt := by8.1.2.2.1
    have sw9_3 : (w9 3).toInt = (w 3).toInt := by8.1.2.2.2
    clear by8
    refine hC.1 1 33 _ _ rfl _ _ _ _ _ ?_
    exact ⟨rfl, rfl, w9, e9, v9, f9, rfl, hI9, hs9, hx9, rfl, by first | omega | (dsimp only; omega) | trivial, by refine ⟨?_, ?_⟩; (first | exact ⟨hb_30.1, fun L D h1 h2 h3 h4 h5 h6 => hb_30.2 _ h6 h5⟩ | exact ⟨fun _ _ _ => ⟨rfl, rfl⟩, fun L D h1 h2 h3 h4 h5 h6 => absurd h1.1 (by omega)⟩); (first | (exact fun h1 h2 h3 h4 => ht_30 _ _ _ (tcb_y h2 (by omega) ((yb_9 (fun a1 a2 => h3 _ (by omega))).trans (BA_y (by omega)))) h4) | (exact fun _ _ _ h => h) | (exact fun h1 h2 h3 h4 => ht_30 _ _ _ (tcb_y h2 (by omega) ((yb_9 (fun a1 a2 => h3 _ (by omega))).trans (BA_y (by omega)))) h4))⟩
  · skip
    have k0 : (0 : Int32).toInt = 0 := rfl
    refine And.intro (fun _ => ?_) (fun c9 => absurd c9 (by decide))
    refine hC.1 1 33 _ _ rfl _ _ _ _ _ ?_
    exact ⟨rfl, rfl, w, e, v, f, rfl, hI, hs, rfl, rfl, by first | omega | (dsimp only; omega) | trivial, by refine ⟨?_, ?_⟩; (first | exact ⟨hb_30.1, fun L D h1 h2 h3 h4 h5 h6 => hb_30.2 _ h6 h5⟩ | exact ⟨fun _ _ _ => ⟨rfl, rfl⟩, fun L D h1 h2 h3 h4 h5 h6 => absurd h1.1 (by omega)⟩); (first | (exact fun h1 h2 h3 h4 => ht_30 _ _ _ (tcb_y h2 (by omega) ((yb_9 (fun a1 a2 => h3 _ (by omega))).trans (BA_y (by omega)))) h4) | (exact fun _ _ _ h => h) | (exact fun h1 h2 h3 h4 => ht_30 _ _ _ (tcb_y h2 (by omega) ((yb_9 (fun a1 a2 => h3 _ (by omega))).trans (BA_y (by omega)))) h4))⟩

set_option maxRecDepth 100000 in
set_option maxHeartbeats 2000000 in
theorem U_X9_keepThoseOf (hI : cw_I K nn dn q w e) (hs : cw_S v f) (x1 : Int32) (x2 : Int32) (x3 : Int32) (p0 : 0 ≤ x1.toInt ∧ x1.toInt ≤ 23) : pm_Mt l g 33 4 0 0 [.ref (q 1), .int x1, .int x2, .int x3] (cw A0 g K nn dn q w e v f) (cw_Qu A0 g K nn dn q (fun r w2 e2 v2 f2 => e2 15 = e 15 ∧ (r = none ∧ (((w2 0).toInt = (w 0).toInt ∧ (w2 1).toInt = (w 1).toInt ∧ (w2 2).toInt = (w 2).toInt ∧ (w2 3).toInt = (w 3).toInt) ∧ (((∀ i9, 35 ≤ i9 → (i9 < dn ∨ dn + 4 ≤ i9) → w2 i9 = w i9 ∧ e2 i9 = e i9) ∧ ∀ (L D : List pl_P) (a b : Int), rp (w nn) (e (nn + 1)) (e (nn + 2)) (L) → nn ≠ dn → x2.toInt = a → x3.toInt + 1 = b → 0 ≤ a → a ≤ b → b ≤ (L.length : Int) → (D.length : Int) + (((si L a b).filter (fun p => decide (p.1.toInt = x1.toInt))).length : Int) ≤ 160 → rp (w dn) (e (dn + 1)) (e (dn + 2)) (D) → rp (w2 dn) (e2 (dn + 1)) (e2 (dn + 2)) (D ++ (si L a b).filter (fun p => decide (p.1.toInt = x1.toInt)))) ∧ (nn ≠ dn → UQ (w nn).toInt (e (nn + 2)) → bd (w nn) (e (nn + 1)) (e (nn + 3)) → TB w e f dn (w nn).toInt (e (nn + 1)) (e (nn + 2)) → TB w2 e2 f2 dn (w nn).toInt (e (nn + 1)) (e (nn + 2)))))))) := by
  refine mt_X9_keepThoseOf rfl (fun J hC => ?_)
  have ro_nn : cw_ro K nn := hI.2.1.2.1
  have ro_dn : cw_ro K dn := hI.2.1.2.2.1
  have hu1 := hI.2.1
  unfold cw_W at hu1
  have zs2 := cw_sz hI ro_nn
  have zs3 := cw_sz hI ro_dn
  have rg_x1 := pm_rng x1
  have rg_x2 := pm_rng x2
  have rg_x3 := pm_rng x3
  refine hC.1 0 0 _ _ rfl _ _ _ _ _ ?_
  have lp5 : ∀ (n : Nat) (z4_3 : Int32) (w4 : Nat → Int32) (e4 : Nat → Nat → Int32) (v4 : Nat → Int32) (f4 : Nat → Nat → Int32), cw_I K nn dn q w4 e4 → e4 15 = e 15 → cw_S v4 f4 → ((∀ i9, 35 ≤ i9 → (i9 < dn ∨ dn + 4 ≤ i9) → w4 i9 = w i9 ∧ e4 i9 = e i9)) → (∀ L D, rp (w nn) (e (nn + 1)) (e (nn + 2)) (L) → nn ≠ dn → 0 ≤ x2.toInt → x2.toInt ≤ x3.toInt + 1 → x3.toInt + 1 ≤ (L.length : Int) → (D.length : Int) + (((si L x2.toInt (x3.toInt + 1)).filter (fun p => decide (p.1.toInt = x1.toInt))).length : Int) ≤ 160 → rp (w dn) (e (dn + 1)) (e (dn + 2)) (D) → (x2.toInt ≤ z4_3.toInt ∧ z4_3.toInt ≤ x3.toInt + 1) ∧ rp (w4 dn) (e4 (dn + 1)) (e4 (dn + 2)) (D ++ (si L x2.toInt z4_3.toInt).filter (fun p => decide (p.1.toInt = x1.toInt)))) → (nn ≠ dn → UQ (w nn).toInt (e (nn + 2)) → bd (w nn) (e (nn + 1)) (e (nn + 3)) → TB w e f dn (w nn).toInt (e (nn + 1)) (e (nn + 2)) → TB w4 e4 f4 dn (w nn).toInt (e (nn + 1)) (e (nn + 2))) → (w4 0).toInt = (w 0).toInt → (w4 1).toInt = (w 1).toInt → (w4 2).toInt = (w 2).toInt → (w4 3).toInt = (w 3).toInt → ((200 - z4_3.toInt).toNat : Int) < (n : Int) → J 3 [some (.ref (q 1)), some (.int x1), some (.int x2), some (.int x3), some (.int z4_3)] [] (cw A0 g K nn dn q w4 e4 v4 f4) 0 0 := by
    intro n
    induction n with
    | zero =>
      intro z4_3 w4 e4 v4 f4 hI4 hx4 hs4 j0_3 j1_3 j2_3 j3_3 j4_3 j5_3 j6_3 j7_3
      omega
    | succ n ih6 =>
      intro z4_3 w4 e4 v4 f4 hI4 hx4 hs4 j0_3 j1_3 j2_3 j3_3 j4_3 j5_3 j6_3 j7_3
      have hu7 := hI4.2.1
      unfold cw_W at hu7
      have zs8 := cw_sz hI4 ro_nn
      have zs9 := cw_sz hI4 ro_dn
      refine hC.1 1 3 _ _ rfl _ _ _ _ _ ?_
      refine And.intro (fun c10 => ?_) (fun c10 => ?_)
      · skip
        refine hC.1 3 48 _ _ rfl _ _ _ _ _ ?_
        exact ⟨rfl, rfl, w4, e4, v4, f4, rfl, hI4, hs4, hx4, rfl, by first | omega | (dsimp only; omega) | trivial, by refine ⟨?_, ?_⟩; (exact ⟨j0_3, fun L D a b h1 h2 ha hb h3 h4 h5 h6 h7 => (by subst ha; subst hb; have hl := h1.1; obtain ⟨r1, r2⟩ := j1_3 L D h1 h2 h3 h4 h5 h6 h7; have hn1 := ro_nn; have hd1 := ro_dn; unfold cw_ro at hn1 hd1; have hw9 := congrArg Int32.toInt (j0_3 nn (by omega) (by omega)).1; rw [show x3.toInt + 1 = z4_3.toInt by omega]; exact r2)⟩); (exact j2_3)⟩
      · skip
        refine Exists.intro _ (And.intro (cw_o1 hI4.1) ?_)
        refine And.intro (Exists.intro _ (cw_ro_o hI4.1 ro_nn)) (Exists.intro _ (Exists.intro _ (Exists.intro _ (Exists.intro _ (And.intro (c_X7_has hI4 hs4 ro_nn z4_3 ) (And.intro rfl (fun r9 A9 h9 => ?_)))))))
        rcases h9 with ⟨y11, rfl, rfl, ⟨rfl, by11⟩ | ⟨rfl, by11⟩⟩
        · skip
          have k1 : (1 : Int32).toInt = 1 := rfl
          refine And.intro (fun c9 => absurd c9 (by decide)) (fun _ => ?_)
          refine Exists.intro _ (And.intro (cw_o1 hI4.1) ?_)
          refine Exists.intro _ (And.intro (cw_ro_o hI4.1 ro_nn) ?_)
          refine Exists.intro _ (Exists.intro _ (And.intro (Or.inl (cw_ro_1 hI4.1 ro_nn)) (And.intro (by omega) ?_)))
          have w13 := cw_col hI4 ro_nn (z4_3).toInt.toNat
          refine And.intro (fun c14 => ?_) (fun c14 => ?_)
          · skip
            have dc14 := pm_neI c14
            refine hC.1 2 42 _ _ rfl _ _ _ _ _ ?_
            intro m15 em_42
            try have e15 : m15.toInt = (z4_3).toInt + (1) := by rw [em_42]; exact pm_addc _ _ (1) rfl (by omega) (by omega)
            exact ih6 m15 w4 e4 v4 f4 hI4 hx4 hs4 (by first | exact fun i9 h91 h92 => ⟨(hb_39.1 i9 h91 h92).1.trans (j0_3 i9 h91 h92).1, (hb_39.1 i9 h91 h92).2.trans (j0_3 i9 h91 h92).2⟩ | exact j0_3) (by first | (intro L D h1 h2 h3 h4 h5 h6 h7; have hl := h1.1; obtain ⟨r1, r2⟩ := j1_3 L D h1 h2 h3 h4 h5 h6 h7; refine ⟨by omega, ?_⟩; have hn1 := ro_nn; have hd1 := ro_dn; unfold cw_ro at hn1 hd1; have en1 := (j0_3 (nn + 1) (by omega) (by omega)).2; have en2 := (j0_3 (nn + 2) (by omega) (by omega)).2; have hcc : (e (nn + 1) z4_3.toInt.toNat).toInt = x1.toInt := (by rw [← en1]; assumption); have hwn := (j0_3 nn (by omega) (by omega)).1; have h1b := rp_fr h1 (congrArg Int32.toInt hwn) en1 en2; have hs9 := si_s h1 h3 r1.1 (show z4_3.toInt < (L.length : Int) by omega); have hp9 := fl_len (L := L) (a := x2.toInt) (z := z4_3.toInt + 1) (b := x3.toInt + 1) (c := x1.toInt) h3 (by omega) (by omega) h5; rw [hs9, fl_y hcc, List.length_append] at hp9; have hp8 : ([(e (nn + 1) z4_3.toInt.toNat, e (nn + 2) z4_3.toInt.toNat)] : List pl_P).length = 1 := rfl; have h8 := hb_39.2 L _ h1b h2 (by omega) (by omega) (by rw [List.length_append]; omega) r2; rw [show m15.toInt = z4_3.toInt + 1 by omega, hs9, fl_y hcc, ← List.append_assoc]; rw [en2] at h8; rw [pm_eqI hcc]; exact h8) | (intro L D h1 h2 h3 h4 h5 h6 h7; have hl := h1.1; obtain ⟨r1, r2⟩ := j1_3 L D h1 h2 h3 h4 h5 h6 h7; refine ⟨by omega, ?_⟩; have hn1 := ro_nn; have hd1 := ro_dn; unfold cw_ro at hn1 hd1; have en1 := (j0_3 (nn + 1) (by omega) (by omega)).2; have hcc : ¬ (e (nn + 1) z4_3.toInt.toNat).toInt = x1.toInt := (by rw [← en1]; assumption); have hs9 := si_s h1 h3 r1.1 (show z4_3.toInt < (L.length : Int) by have := congrArg Int32.toInt (j0_3 nn (by omega) (by omega)).1; omega); rw [show m15.toInt = z4_3.toInt + 1 by omega, hs9, fl_n hcc]; exact r2)) (by first | (intro h1 h2 h3 h4; have hn1 := ro_nn; have hd1 := ro_dn; unfold cw_ro at hn1 hd1; have q0 := (j0_3 nn (by omega) (by omega)).1; have q1 := (j0_3 (nn + 1) (by omega) (by omega)).2; have q2 := (j0_3 (nn + 2) (by omega) (by omega)).2; have q3 := (j0_3 (nn + 3) (by omega) (by omega)).2; have h5 := j2_3 h1 h2 h3 h4; have h6 := ht_39 h1; rw [q0, q1, q2, q3] at h6; exact h6 h2 h3 h5) | (exact j2_3)) (by omega) (by omega) (by omega) (by omega) (by omega)
          · skip
            have dc14 : ((e4 (nn + 1) (z4_3).toInt.toNat)).toInt = (x1 : Int32).toInt := congrArg Int32.toInt c14
            refine And.intro (Exists.intro _ (cw_o1 hI4.1)) (Exists.intro _ (Exists.intro _ (Exists.intro _ (Exists.intro _ (And.intro (U_X9_keepAs hI4 hs4 z4_3 x1 (by omega)) (And.intro rfl (fun r9 A9 h9 => ?_)))))))
            rcases h9 with ⟨w17, e17, v17, f17, rfl, hI17, hs17, hy17, rfl, by16⟩
            have hx17 : e17 15 = e 15 := hy17.trans hx4
            have zs18 := cw_sz hI17 ro_nn
            have zs19 := cw_sz hI17 ro_dn
            have hb_39 := by16.2.1
            have ht_39 := by16.2.2
            have sw17_0 : (w17 0).toInt = (w4 0).toInt := by16.1.1
            have sw17_1 : (w17 1).toInt = (w4 1).toInt := by16.1.2.1
            have sw17_2 : (w17 2).toInt = (w4 2).toInt := by16.1.2.2.1
            have sw17_3 : (w17 3).toInt = (w4 3).toInt := by16.1.2.2.2
            clear by16
            refine hC.1 2 42 _ _ rfl _ _ _ _ _ ?_
            intro m20 em_42
            try have e20 : m20.toInt = (z4_3).toInt + (1) := by rw [em_42]; exact pm_addc _ _ (1) rfl (by omega) (by omega)
            exact ih6 m20 w17 e17 v17 f17 hI17 hx17 hs17 (by first | exact fun i9 h91 h92 => ⟨(hb_39.1 i9 h91 h92).1.trans (j0_3 i9 h91 h92).1, (hb_39.1 i9 h91 h92).2.trans (j0_3 i9 h91 h92).2⟩ | exact j0_3) (by first | (intro L D h1 h2 h3 h4 h5 h6 h7; have hl := h1.1; obtain ⟨r1, r2⟩ := j1_3 L D h1 h2 h3 h4 h5 h6 h7; refine ⟨by omega, ?_⟩; have hn1 := ro_nn; have hd1 := ro_dn; unfold cw_ro at hn1 hd1; have en1 := (j0_3 (nn + 1) (by omega) (by omega)).2; have en2 := (j0_3 (nn + 2) (by omega) (by omega)).2; have hcc : (e (nn + 1) z4_3.toInt.toNat).toInt = x1.toInt := (by rw [← en1]; assumption); have hwn := (j0_3 nn (by omega) (by omega)).1; have h1b := rp_fr h1 (congrArg Int32.toInt hwn) en1 en2; have hs9 := si_s h1 h3 r1.1 (show z4_3.toInt < (L.length : Int) by omega); have hp9 := fl_len (L := L) (a := x2.toInt) (z := z4_3.toInt + 1) (b := x3.toInt + 1) (c := x1.toInt) h3 (by omega) (by omega) h5; rw [hs9, fl_y hcc, List.length_append] at hp9; have hp8 : ([(e (nn + 1) z4_3.toInt.toNat, e (nn + 2) z4_3.toInt.toNat)] : List pl_P).length = 1 := rfl; have h8 := hb_39.2 L _ h1b h2 (by omega) (by omega) (by rw [List.length_append]; omega) r2; rw [show m20.toInt = z4_3.toInt + 1 by omega, hs9, fl_y hcc, ← List.append_assoc]; rw [en2] at h8; rw [pm_eqI hcc]; exact h8) | (intro L D h1 h2 h3 h4 h5 h6 h7; have hl := h1.1; obtain ⟨r1, r2⟩ := j1_3 L D h1 h2 h3 h4 h5 h6 h7; refine ⟨by omega, ?_⟩; have hn1 := ro_nn; have hd1 := ro_dn; unfold cw_ro at hn1 hd1; have en1 := (j0_3 (nn + 1) (by omega) (by omega)).2; have hcc : ¬ (e (nn + 1) z4_3.toInt.toNat).toInt = x1.toInt := (by rw [← en1]; assumption); have hs9 := si_s h1 h3 r1.1 (show z4_3.toInt < (L.length : Int) by have := congrArg Int32.toInt (j0_3 nn (by omega) (by omega)).1; omega); rw [show m20.toInt = z4_3.toInt + 1 by omega, hs9, fl_n hcc]; exact r2)) (by first | (intro h1 h2 h3 h4; have hn1 := ro_nn; have hd1 := ro_dn; unfold cw_ro at hn1 hd1; have q0 := (j0_3 nn (by omega) (by omega)).1; have q1 := (j0_3 (nn + 1) (by omega) (by omega)).2; have q2 := (j0_3 (nn + 2) (by omega) (by omega)).2; have q3 := (j0_3 (nn + 3) (by omega) (by omega)).2; have h5 := j2_3 h1 h2 h3 h4; have h6 := ht_39 h1; rw [q0, q1, q2, q3] at h6; exact h6 h2 h3 h5) | (exact j2_3)) (by omega) (by omega) (by omega) (by omega) (by omega)
        · skip
          have k0 : (0 : Int32).toInt = 0 := rfl
          refine And.intro (fun _ => ?_) (fun c9 => absurd c9 (by decide))
          refine hC.1 3 48 _ _ rfl _ _ _ _ _ ?_
          exact ⟨rfl, rfl, w4, e4, v4, f4, rfl, hI4, hs4, hx4, rfl, by first | omega | (dsimp only; omega) | trivial, by refine ⟨?_, ?_⟩; (exact ⟨j0_3, fun L D a b h1 h2 ha hb h3 h4 h5 h6 h7 => (by subst ha; subst hb; have hl := h1.1; obtain ⟨r1, r2⟩ := j1_3 L D h1 h2 h3 h4 h5 h6 h7; have hn1 := ro_nn; have hd1 := ro_dn; unfold cw_ro at hn1 hd1; have hw9 := congrArg Int32.toInt (j0_3 nn (by omega) (by omega)).1; rw [show x3.toInt + 1 = z4_3.toInt by omega]; exact r2)⟩); (exact j2_3)⟩
  exact lp5 (((200 - x2.toInt).toNat : Int)).toNat.succ x2 w e v f hI rfl hs (by exact fun _ _ _ => ⟨rfl, rfl⟩) (by intro L D h1 h2 h3 h4 h5 h6 h7; refine ⟨by omega, ?_⟩; rw [si_n (L := L) (a := x2.toInt) (b := x2.toInt) (Int.le_refl _)]; show rp _ _ _ (D ++ []); rw [List.append_nil]; exact h7) (by exact fun _ _ _ h => h) (by omega) (by omega) (by omega) (by omega) (by omega)

set_option maxRecDepth 100000 in
set_option maxHeartbeats 2000000 in
theorem U_X9_add (hI : cw_I K nn dn q w e) (hs : cw_S v f) (x1 : Int32) (p0 : 0 ≤ x1.toInt ∧ x1.toInt ≤ 23) (p1 : (w 1).toInt < 10000) : pm_Mt l g 28 1 0 0 [.ref (q 1), .int x1] (cw A0 g K nn dn q w e v f) (cw_Qu A0 g K nn dn q (fun r w2 e2 v2 f2 => e2 15 = e 15 ∧ (r = none ∧ (((w2 0).toInt = (w 0).toInt ∧ (w2 2).toInt = (w 2).toInt ∧ (w2 3).toInt = (w 3).toInt ∧ (w2 1).toInt = (w 1).toInt + 1) ∧ (((∀ i9, 35 ≤ i9 → (i9 < dn ∨ dn + 4 ≤ i9) → w2 i9 = w i9 ∧ e2 i9 = e i9) ∧ ∀ D, rp (w dn) (e (dn + 1)) (e (dn + 2)) (D) → (D.length : Int) < 160 → rp (w2 dn) (e2 (dn + 1)) (e2 (dn + 2)) (D ++ [(x1, w 1)])) ∧ (∀ (n : Int) (c m : Nat → Int32), (∀ i : Nat, (i : Int) < n → ¬ m i = w 1) → TB w e f dn n c m → TB w2 e2 f2 dn n c m)))))) := by
  refine mt_X9_add rfl (fun J hC => ?_)
  have ro_nn : cw_ro K nn := hI.2.1.2.1
  have ro_dn : cw_ro K dn := hI.2.1.2.2.1
  have hu1 := hI.2.1
  unfold cw_W at hu1
  have zs2 := cw_sz hI ro_nn
  have zs3 := cw_sz hI ro_dn
  have rg_x1 := pm_rng x1
  refine hC.1 0 0 _ _ rfl _ _ _ _ _ ?_
  refine Exists.intro _ (And.intro (cw_o1 hI.1) ?_)
  have km2 : (-2 : Int32).toInt = -2 := rfl
  refine And.intro (Exists.intro _ (cw_o1 hI.1)) (Exists.intro _ (Exists.intro _ (Exists.intro _ (Exists.intro _ (And.intro (U_X9_append hI hs x1 (w 1) (-2 : Int32) (by omega)) (And.intro rfl (fun r9 A9 h9 => ?_)))))))
  rcases h9 with ⟨w5, e5, v5, f5, rfl, hI5, hs5, hy5, rfl, by4⟩
  have hx5 : e5 15 = e 15 := hy5.trans rfl
  have zs6 := cw_sz hI5 ro_nn
  have zs7 := cw_sz hI5 ro_dn
  have hb_8 := by4.2.1
  have ht_8 := by4.2.2
  have sw5_0 : (w5 0).toInt = (w 0).toInt := by4.1.1
  have sw5_1 : (w5 1).toInt = (w 1).toInt := by4.1.2.1
  have sw5_2 : (w5 2).toInt = (w 2).toInt := by4.1.2.2.1
  have sw5_3 : (w5 3).toInt = (w 3).toInt := by4.1.2.2.2
  clear by4
  refine Exists.intro _ (And.intro (cw_o1 hI5.1) ?_)
  have k1 : (1 : Int32).toInt = 1 := rfl
  intro m8 em_17
  try have e8 : m8.toInt = ((w5 1)).toInt + (1) := by rw [em_17]; exact pm_addc _ _ (1) rfl (by omega) (by omega)
  refine Exists.intro _ (And.intro (cw_o1 hI5.1) (And.intro rfl ?_))
  rw [cw_p_named hI5.1]
  obtain ⟨w9, ew9⟩ : ∃ z9, z9 = upd w5 1 m8 := ⟨_, rfl⟩
  rw [← ew9]
  have ew9_0 : (w9 0).toInt = (w5 0).toInt := by rw [ew9]; rfl
  have ew9_1 : (w9 1).toInt = (m8).toInt := by rw [ew9]; rfl
  have ew9_2 : (w9 2).toInt = (w5 2).toInt := by rw [ew9]; rfl
  have ew9_3 : (w9 3).toInt = (w5 3).toInt := by rw [ew9]; rfl
  have pn_18 : w9 1 = m8 := by rw [ew9, pk_us]
  have pw_18 := ew9
  have hZ9 : cw_Z w9 := by rw [ew9]; exact cw_Z_up hI5.2.2.1 _ _ (by omega)
  have hI9 : cw_I K nn dn q w9 e5 := ⟨hI5.1, by unfold cw_W; omega, hZ9, hI5.2.2.2⟩
  exact ⟨rfl, rfl, w9, e5, v5, f5, rfl, hI9, hs5, hx5, rfl, by first | omega | (dsimp only; omega) | trivial, by refine ⟨?_, ?_⟩; (exact ⟨fun i9 h91 h92 => ⟨by rw [pw_18, pk_un (by omega)]; exact (hb_8.1 i9 h91 h92).1, (hb_8.1 i9 h91 h92).2⟩, fun D h1 h2 => (by have h3 := hb_8.2 D h1 h2; rw [pw_18, pk_un (by omega)]; exact h3)⟩); (intro n c m hn h; have h5 := ht_8 n c m (by rw [tcb_n hn]) h; intro i hi; rw [pw_18, pk_un (by omega)] at hi; exact h5 i hi)⟩

end
end
section
section
variable {l : Launch} {g : pm_G} {A0 : pm_H} {K nn dn : Nat} {q : Nat → Nat} {w : Nat → Int32} {e : Nat → Nat → Int32} {v : Nat → Int32} {f : Nat → Nat → Int32}
set_option maxRecDepth 100000 in
set_option maxHeartbeats 2000000 in
theorem U_X9_finish (hI : cw_I K nn dn q w e) (hs : cw_S v f)  (p0 : (w 0).toInt + 2 ≤ K ∨ K = 41) (p1 : (w 0).toInt < 100000) : pm_Mt l g 24 3 0 0 [.ref (q 1)] (cw A0 g K nn dn q w e v f) (cw_Qu A0 g K dn dn q (fun r w2 e2 v2 f2 => e2 15 = e 15 ∧ (∃ x : Int32, r = some (.int x) ∧ (((w2 1).toInt = (w 1).toInt ∧ (w2 3).toInt = (w 3).toInt ∧ (w2 0).toInt = (w 0).toInt + 1) ∧ (((∀ i9, 35 ≤ i9 → (i9 < dn ∨ dn + 4 ≤ i9) → w2 i9 = w i9 ∧ e2 i9 = e i9) ∧ (∀ D, rp (w dn) (e (dn + 1)) (e (dn + 2)) (D) → rp (w2 dn) (e2 (dn + 1)) (e2 (dn + 2)) (D)) ∧ bd (w2 dn) (e2 (dn + 1)) (e2 (dn + 3))) ∧ ((w2 (dn + 1)).toInt = x.toInt ∧ w2 2 = w 2 + x) ∧ (∀ (n : Int) (c m : Nat → Int32), UQ n m → TB w e f dn n c m → x.toInt = (tcN n c m (e2 (dn + 1)) (e2 (dn + 2)) (w2 dn).toInt.toNat : Int))))))) := by
  refine mt_X9_finish rfl (fun J hC => ?_)
  have ro_nn : cw_ro K nn := hI.2.1.2.1
  have ro_dn : cw_ro K dn := hI.2.1.2.2.1
  have hu1 := hI.2.1
  unfold cw_W at hu1
  have zs2 := cw_sz hI ro_nn
  have zs3 := cw_sz hI ro_dn
  refine hC.1 0 0 _ _ rfl _ _ _ _ _ ?_
  refine Exists.intro _ (And.intro (cw_o1 hI.1) ?_)
  have km1 : (-1 : Int32).toInt = -1 := rfl
  refine Exists.intro _ (Exists.intro _ (Exists.intro _ (Exists.intro _ (And.intro (c_fill (cw_a13 hI.1) (by decide) (-1 : Int32)) (And.intro rfl (fun r9 A9 h9 => ?_))))))
  obtain ⟨rfl, rfl⟩ := h9
  rw [cw_s13 hI.1]
  obtain ⟨f4, ef4⟩ : ∃ z9, z9 = va_up f 13 (fun j => if j < 24 then (-1 : Int32) else f 13 j) := ⟨_, rfl⟩
  rw [← ef4]
  have hs4 : cw_S v f4 := by rw [ef4]; exact cw_S_fl hs _ _ (by decide)
  have pf_5 := ef4
  have k0 : (0 : Int32).toInt = 0 := rfl
  have lp6 : ∀ (n : Nat) (z1_12 : Int32) (z2_12 : Int32) (w5 : Nat → Int32) (e5 : Nat → Nat → Int32) (v5 : Nat → Int32) (f5 : Nat → Nat → Int32), cw_I K nn dn q w5 e5 → e5 15 = e 15 → cw_S v5 f5 → (0 ≤ z2_12.toInt ∧ z2_12.toInt ≤ 160) → ((w5 0).toInt = (w 0).toInt) → (w5 = w ∧ ∀ i9, i9 ≠ dn + 3 → e5 i9 = e i9) → (∀ j : Nat, (j : Int) < z2_12.toInt → (e5 (dn + 3) j).toInt = lastEq (e (dn + 1)) (e (dn + 1) j) j) → (∀ c9 : Int32, 0 ≤ c9.toInt → c9.toInt ≤ 23 → (f5 13 c9.toInt.toNat).toInt = lastEq (e (dn + 1)) c9 z2_12.toInt.toNat) → (0 ≤ z1_12.toInt ∧ z1_12.toInt ≤ z2_12.toInt) → (f5 12 = f 12) → (∀ (n : Int) (c m : Nat → Int32), UQ n m → TB w e f dn n c m → z1_12.toInt = (tcN n c m (e (dn + 1)) (e (dn + 2)) z2_12.toInt.toNat : Int)) → (z2_12.toInt ≤ (w dn).toInt) → (w5 1).toInt = (w 1).toInt → (w5 3).toInt = (w 3).toInt → 200 - z2_12.toInt < (n : Int) → J 12 [some (.ref (q 1)), some (.int z1_12), some (.int z2_12), none] [] (cw A0 g K nn dn q w5 e5 v5 f5) 0 0 := by
    intro n
    induction n with
    | zero =>
      intro z1_12 z2_12 w5 e5 v5 f5 hI5 hx5 hs5 j0_12 j1_12 j2_12 j3_12 j4_12 j5_12 j6_12 j7_12 j8_12 j9_12 j10_12 j11_12
      omega
    | succ n ih7 =>
      intro z1_12 z2_12 w5 e5 v5 f5 hI5 hx5 hs5 j0_12 j1_12 j2_12 j3_12 j4_12 j5_12 j6_12 j7_12 j8_12 j9_12 j10_12 j11_12
      have hu8 := hI5.2.1
      unfold cw_W at hu8
      have zs9 := cw_sz hI5 ro_nn
      have zs10 := cw_sz hI5 ro_dn
      refine hC.1 1 12 _ _ rfl _ _ _ _ _ ?_
      refine Exists.intro _ (And.intro (cw_o1 hI5.1) ?_)
      refine Exists.intro _ (And.intro (cw_ro_o hI5.1 ro_dn) ?_)
      have z11 := cw_sz hI5 ro_dn
      refine And.intro (fun c12 => ?_) (fun c12 => ?_)
      · skip
        refine hC.1 3 92 _ _ rfl _ _ _ _ _ ?_
        refine Exists.intro _ (And.intro (cw_o1 hI5.1) ?_)
        have hb13 := ro_dn
        unfold cw_ro at hb13
        refine Exists.intro _ (And.intro (cw_ro_o hI5.1 ro_dn) (And.intro rfl ?_))
        rw [cw_p_touches hI5.1 ro_dn]
        obtain ⟨w14, ew14⟩ : ∃ z9, z9 = upd w5 (dn + 1) z1_12 := ⟨_, rfl⟩
        rw [← ew14]
        have ew14_0 : (w14 0).toInt = (w5 0).toInt := by rw [ew14, pk_un (by omega)]
        have ew14_1 : (w14 1).toInt = (w5 1).toInt := by rw [ew14, pk_un (by omega)]
        have ew14_2 : (w14 2).toInt = (w5 2).toInt := by rw [ew14, pk_un (by omega)]
        have ew14_3 : (w14 3).toInt = (w5 3).toInt := by rw [ew14, pk_un (by omega)]
        have pn_97 : w14 (dn + 1) = z1_12 := by rw [ew14, pk_us]
        have pw_97 := ew14
        have hZ14 : cw_Z w14 := by rw [ew14]; exact cw_Z_up hI5.2.2.1 _ _ (by omega)
        have hI14 : cw_I K nn dn q w14 e5 := ⟨hI5.1, by unfold cw_W; omega, hZ14, hI5.2.2.2⟩
        refine Exists.intro _ (And.intro (cw_o1 hI14.1) ?_)
        refine Exists.intro _ (And.intro (cw_o1 hI14.1) (And.intro rfl ?_))
        rw [cw_p_now hI14.1]
        have hI15 : cw_I K dn dn q w14 e5 := ⟨hI14.1, by have hu9 := hI14.2.1; unfold cw_W at hu9 ⊢; omega, hI14.2.2.1, hI14.2.2.2⟩
        refine Exists.intro _ (And.intro (cw_o1 hI15.1) ?_)
        have k1 : (1 : Int32).toInt = 1 := rfl
        intro m16 em_114
        try have e16 : m16.toInt = ((w14 0)).toInt + (1) := by rw [em_114]; exact pm_addc _ _ (1) rfl (by omega) (by omega)
        refine Exists.intro _ (And.intro (cw_o1 hI15.1) (And.intro rfl ?_))
        rw [cw_p_edits hI15.1]
        obtain ⟨w17, ew17⟩ : ∃ z9, z9 = upd w14 0 m16 := ⟨_, rfl⟩
        rw [← ew17]
        have ew17_0 : (w17 0).toInt = (m16).toInt := by rw [ew17]; rfl
        have ew17_1 : (w17 1).toInt = (w14 1).toInt := by rw [ew17]; rfl
        have ew17_2 : (w17 2).toInt = (w14 2).toInt := by rw [ew17]; rfl
        have ew17_3 : (w17 3).toInt = (w14 3).toInt := by rw [ew17]; rfl
        have pn_115 : w17 0 = m16 := by rw [ew17, pk_us]
        have pw_115 := ew17
        have hZ17 : cw_Z w17 := by rw [ew17]; exact cw_Z_up hI15.2.2.1 _ _ (by omega)
        have hI17 : cw_I K dn dn q w17 e5 := ⟨hI15.1, by unfold cw_W; omega, hZ17, hI15.2.2.2⟩
        refine Exists.intro _ (And.intro (cw_o1 hI17.1) ?_)
        intro m18 em_124
        try have e18 : m18.toInt = ((w17 2)).toInt + (z1_12).toInt := by rw [em_124]; exact pm_add _ _ (by omega) (by omega)
        refine Exists.intro _ (And.intro (cw_o1 hI17.1) (And.intro rfl ?_))
        rw [cw_p_touchedInAll hI17.1]
        obtain ⟨w19, ew19⟩ : ∃ z9, z9 = upd w17 2 m18 := ⟨_, rfl⟩
        rw [← ew19]
        have ew19_0 : (w19 0).toInt = (w17 0).toInt := by rw [ew19]; rfl
        have ew19_1 : (w19 1).toInt = (w17 1).toInt := by rw [ew19]; rfl
        have ew19_2 : (w19 2).toInt = (m18).toInt := by rw [ew19]; rfl
        have ew19_3 : (w19 3).toInt = (w17 3).toInt := by rw [ew19]; rfl
        have pn_125 : w19 2 = m18 := by rw [ew19, pk_us]
        have pw_125 := ew19
        have hZ19 : cw_Z w19 := by rw [ew19]; exact cw_Z_up hI17.2.2.1 _ _ (by omega)
        have hI19 : cw_I K dn dn q w19 e5 := ⟨hI17.1, by unfold cw_W; omega, hZ19, hI17.2.2.2⟩
        exact ⟨rfl, fun e9 => absurd e9 (by decide), rfl, w19, e5, v5, f5, rfl, hI19, hs5, hx5, z1_12, rfl, by first | omega | (dsimp only; omega) | trivial, by refine ⟨?_, ⟨?_, ?_⟩, ?_⟩; (exact ⟨fun i9 h91 h92 => ⟨by rw [pw_125, pk_un (by omega), pw_115, pk_un (by omega), pw_97, pk_un (by omega), j2_12.1], j2_12.2 i9 (by omega)⟩, fun D h1 => (by rw [pw_125, pk_un (by omega), pw_115, pk_un (by omega), pw_97, pk_un (by omega), j2_12.1, j2_12.2 (dn + 1) (by omega), j2_12.2 (dn + 2) (by omega)]; exact h1), fun j hj => (by rw [pw_125, pk_un (by omega), pw_115, pk_un (by omega), pw_97, pk_un (by omega), j2_12.1] at hj; rw [j2_12.2 (dn + 1) (by omega)]; exact j3_12 j (by rw [← j2_12.1] at hj; omega))⟩); (exact congrArg Int32.toInt (by rw [pw_125, pk_un (by omega), pw_115, pk_un (by omega), pw_97, pk_us])); (exact (by rw [pw_125, pk_us] : w19 2 = _).trans (em_124.trans (by congr 1; rw [pw_115, pk_un (by decide), pw_97, pk_un (by omega), j2_12.1]))); (intro n c m h1 h2; have h7 := j7_12 n c m h1 h2; rw [j2_12.2 (dn + 1) (by omega), j2_12.2 (dn + 2) (by omega), show (w19 dn).toInt.toNat = z2_12.toInt.toNat by (rw [pw_125, pk_un (by omega), pw_115, pk_un (by omega), pw_97, pk_un (by omega)]; rw [← j2_12.1] at j8_12; omega)]; exact h7)⟩
      · skip
        refine Exists.intro _ (And.intro (cw_o1 hI5.1) ?_)
        refine Exists.intro _ (And.intro (cw_ro_o hI5.1 ro_dn) ?_)
        refine Exists.intro _ (Exists.intro _ (And.intro (Or.inl (cw_ro_1 hI5.1 ro_dn)) (And.intro (by omega) ?_)))
        have w20 := cw_col hI5 ro_dn (z2_12).toInt.toNat
        obtain ⟨k9, hk9⟩ : ∃ z9, z9 = (e5 (dn + 1) (z2_12).toInt.toNat) := ⟨_, rfl⟩
        have hk8 : k9 = e (dn + 1) z2_12.toInt.toNat := by rw [hk9, j2_12.2 (dn + 1) (by omega)]
        have hk7 := hk8 ▸ cw_col hI ro_dn z2_12.toInt.toNat
        refine Exists.intro _ (And.intro (cw_o1 hI5.1) ?_)
        refine Exists.intro _ (And.intro (cw_ro_o hI5.1 ro_dn) ?_)
        refine Exists.intro _ (And.intro (cw_o1 hI5.1) ?_)
        refine Exists.intro _ (Exists.intro _ (And.intro (Or.inl (cw_a13 hI5.1)) (And.intro (by omega) ?_)))
        have w21 := hs5.2.2 ((e5 (dn + 1) (z2_12).toInt.toNat)).toInt.toNat
        have hb22 := ro_dn
        unfold cw_ro at hb22
        refine Exists.intro _ (Exists.intro _ (And.intro (cw_ro_3 hI5.1 ro_dn) (And.intro (by omega) ?_)))
        rw [cw_sr_3 hI5.1 ro_dn]
        obtain ⟨e23, ee23⟩ : ∃ z9, z9 = va_up e5 (dn + 3) (upd (e5 (dn + 3)) (z2_12).toInt.toNat (f5 13 ((e5 (dn + 1) (z2_12).toInt.toNat)).toInt.toNat)) := ⟨_, rfl⟩
        rw [← ee23]
        have hI23 : cw_I K nn dn q w5 e23 := ⟨hI5.1, hI5.2.1, hI5.2.2.1, by rw [ee23]; exact cw_E_3 hI5.2.2.2 (by omega) _ _ (by omega)⟩
        have hx23 : e23 15 = e 15 := (show e23 15 = e5 15 by rw [ee23]; exact if_neg (by omega)).trans hx5
        have pe_47 := ee23
        refine Exists.intro _ (And.intro (cw_o1 hI23.1) ?_)
        refine Exists.intro _ (Exists.intro _ (And.intro (cw_a13 hI23.1) (And.intro (by omega) ?_)))
        rw [cw_s13 hI23.1]
        obtain ⟨f24, ef24⟩ : ∃ z9, z9 = va_up f5 13 (upd (f5 13) ((e5 (dn + 1) (z2_12).toInt.toNat)).toInt.toNat z2_12) := ⟨_, rfl⟩
        rw [← ef24]
        have hs24 : cw_S v5 f24 := by rw [ef24]; exact cw_S_f13 hs5 _ _ (by omega)
        have pf_54 := ef24
        refine Exists.intro _ (And.intro (cw_o1 hI23.1) ?_)
        refine Exists.intro _ (Exists.intro _ (And.intro (Or.inl (cw_a12 hI23.1)) (And.intro (by omega) ?_)))
        have km2 : (-2 : Int32).toInt = -2 := rfl
        refine And.intro (fun c25 => ?_) (fun c25 => ?_)
        · skip
          have dc25 : ((f24 12 (z2_12).toInt.toNat)).toInt = ((-2 : Int32) : Int32).toInt := congrArg Int32.toInt c25
          refine hC.1 2 86 _ _ rfl _ _ _ _ _ ?_
          have k1 : (1 : Int32).toInt = 1 := rfl
          intro m26 em_86
          try have e26 : m26.toInt = (z2_12).toInt + (1) := by rw [em_86]; exact pm_addc _ _ (1) rfl (by omega) (by omega)
          exact hC.2 [false, false, false, true] _ _ _ _ _ _ (ih7 z1_12 m26 w5 e23 v5 f24 hI23 hx23 hs24 (by omega) (by omega) (by exact ⟨j2_12.1, fun i9 h91 => (by rw [pe_47, va_un h91]; exact j2_12.2 i9 h91)⟩) (by intro j hj; rw [pe_47, va_us]; by_cases h8 : j = z2_12.toInt.toNat; (subst h8; rw [pk_us, ← hk9, ← hk8]; exact j4_12 k9 (by omega) (by omega)); (rw [pk_un h8]; exact j3_12 j (by omega))) (by intro c9 h1 h2; rw [pf_54, va_us, ← hk9, show m26.toInt.toNat = z2_12.toInt.toNat + 1 by omega]; by_cases h8 : c9 = k9; (subst h8; rw [pk_us, lastEq_y hk8.symm]; omega); (rw [pk_un (fun h7 => h8 (pm_eqI (by omega))), lastEq_n (fun h7 => h8 (by rw [hk8]; exact h7.symm))]; exact j4_12 c9 h1 h2)) (by omega) (by rw [pf_54, va_un (by decide)]; exact j6_12) (by intro n c m h1 h2; have h7 := j7_12 n c m h1 h2; have h8 := h2 z2_12.toInt.toNat (by rw [← j2_12.1]; omega); have h6 : ∀ z9, f 12 z9 = f24 12 z9 := (fun z9 => by rw [pf_54, va_un (by decide), j6_12]); rw [show m26.toInt.toNat = z2_12.toInt.toNat + 1 by omega]; first | (rw [tcN_b h1 h8 yb_8, h6]; split <;> rename_i h5 <;> first | omega | (exact absurd (by assumption) h5.2) | (exact absurd ⟨by assumption, by assumption⟩ h5)) | (rw [tcN_b h1 h8 rfl, h6]; split <;> rename_i h5 <;> first | omega | (exact absurd (by assumption) h5.1))) (by rw [← j2_12.1]; omega) (by omega) (by omega) (by omega))
        · skip
          have dc25 := pm_neI c25
          refine Exists.intro _ (And.intro (cw_o1 hI23.1) ?_)
          refine Exists.intro _ (Exists.intro _ (And.intro (Or.inl (cw_a12 hI23.1)) (And.intro (by omega) ?_)))
          refine Exists.intro _ (And.intro (cw_o1 hI23.1) ?_)
          refine And.intro (Exists.intro _ (cw_ro_o hI23.1 ro_dn)) (Exists.intro _ (Exists.intro _ (Exists.intro _ (Exists.intro _ (And.intro (U_X7_bondAt hI23 hs24 ro_dn z2_12 ) (And.intro rfl (fun r9 A9 h9 => ?_)))))))
          obtain ⟨y27, rfl, rfl, by27⟩ := h9
          have yb_9 : y27 = bo (e (dn + 1)) (e (dn + 2)) z2_12.toInt := (by have h9 := by27; rw [pe_47, va_un (show dn + 1 ≠ dn + 3 by omega), va_un (show dn + 2 ≠ dn + 3 by omega), va_us, j2_12.2 (dn + 1) (by omega), j2_12.2 (dn + 2) (by omega)] at h9; exact (h9 (fun _ _ => (by rw [pk_us, ← hk8]; exact j4_12 k9 (by omega) (by omega)))).trans (BA_y (by omega)))
          have yb_8 : y27 = bo (e (dn + 1)) (e (dn + 2)) ((z2_12.toInt.toNat : Nat) : Int) := (by rw [show ((z2_12.toInt.toNat : Nat) : Int) = z2_12.toInt by omega]; exact yb_9)
          refine And.intro (fun c29 => ?_) (fun c29 => ?_)
          · skip
            have dc29 : ((f24 12 (z2_12).toInt.toNat)).toInt = (y27 : Int32).toInt := congrArg Int32.toInt c29
            refine hC.1 2 86 _ _ rfl _ _ _ _ _ ?_
            have k1 : (1 : Int32).toInt = 1 := rfl
            intro m30 em_86
            try have e30 : m30.toInt = (z2_12).toInt + (1) := by rw [em_86]; exact pm_addc _ _ (1) rfl (by omega) (by omega)
            exact hC.2 [false, false, false, true] _ _ _ _ _ _ (ih7 z1_12 m30 w5 e23 v5 f24 hI23 hx23 hs24 (by omega) (by omega) (by exact ⟨j2_12.1, fun i9 h91 => (by rw [pe_47, va_un h91]; exact j2_12.2 i9 h91)⟩) (by intro j hj; rw [pe_47, va_us]; by_cases h8 : j = z2_12.toInt.toNat; (subst h8; rw [pk_us, ← hk9, ← hk8]; exact j4_12 k9 (by omega) (by omega)); (rw [pk_un h8]; exact j3_12 j (by omega))) (by intro c9 h1 h2; rw [pf_54, va_us, ← hk9, show m30.toInt.toNat = z2_12.toInt.toNat + 1 by omega]; by_cases h8 : c9 = k9; (subst h8; rw [pk_us, lastEq_y hk8.symm]; omega); (rw [pk_un (fun h7 => h8 (pm_eqI (by omega))), lastEq_n (fun h7 => h8 (by rw [hk8]; exact h7.symm))]; exact j4_12 c9 h1 h2)) (by omega) (by rw [pf_54, va_un (by decide)]; exact j6_12) (by intro n c m h1 h2; have h7 := j7_12 n c m h1 h2; have h8 := h2 z2_12.toInt.toNat (by rw [← j2_12.1]; omega); have h6 : ∀ z9, f 12 z9 = f24 12 z9 := (fun z9 => by rw [pf_54, va_un (by decide), j6_12]); rw [show m30.toInt.toNat = z2_12.toInt.toNat + 1 by omega]; first | (rw [tcN_b h1 h8 yb_8, h6]; split <;> rename_i h5 <;> first | omega | (exact absurd (by assumption) h5.2) | (exact absurd ⟨by assumption, by assumption⟩ h5)) | (rw [tcN_b h1 h8 rfl, h6]; split <;> rename_i h5 <;> first | omega | (exact absurd (by assumption) h5.1))) (by rw [← j2_12.1]; omega) (by omega) (by omega) (by omega))
          · skip
            have dc29 := pm_neI c29
            have k1 : (1 : Int32).toInt = 1 := rfl
            intro m31 em_83
            try have e31 : m31.toInt = (z1_12).toInt + (1) := by rw [em_83]; exact pm_addc _ _ (1) rfl (by omega) (by omega)
            refine hC.1 2 86 _ _ rfl _ _ _ _ _ ?_
            intro m32 em_86
            try have e32 : m32.toInt = (z2_12).toInt + (1) := by rw [em_86]; exact pm_addc _ _ (1) rfl (by omega) (by omega)
            exact hC.2 [false, false, false, true] _ _ _ _ _ _ (ih7 m31 m32 w5 e23 v5 f24 hI23 hx23 hs24 (by omega) (by omega) (by exact ⟨j2_12.1, fun i9 h91 => (by rw [pe_47, va_un h91]; exact j2_12.2 i9 h91)⟩) (by intro j hj; rw [pe_47, va_us]; by_cases h8 : j = z2_12.toInt.toNat; (subst h8; rw [pk_us, ← hk9, ← hk8]; exact j4_12 k9 (by omega) (by omega)); (rw [pk_un h8]; exact j3_12 j (by omega))) (by intro c9 h1 h2; rw [pf_54, va_us, ← hk9, show m32.toInt.toNat = z2_12.toInt.toNat + 1 by omega]; by_cases h8 : c9 = k9; (subst h8; rw [pk_us, lastEq_y hk8.symm]; omega); (rw [pk_un (fun h7 => h8 (pm_eqI (by omega))), lastEq_n (fun h7 => h8 (by rw [hk8]; exact h7.symm))]; exact j4_12 c9 h1 h2)) (by omega) (by rw [pf_54, va_un (by decide)]; exact j6_12) (by intro n c m h1 h2; have h7 := j7_12 n c m h1 h2; have h8 := h2 z2_12.toInt.toNat (by rw [← j2_12.1]; omega); have h6 : ∀ z9, f 12 z9 = f24 12 z9 := (fun z9 => by rw [pf_54, va_un (by decide), j6_12]); rw [show m32.toInt.toNat = z2_12.toInt.toNat + 1 by omega]; first | (rw [tcN_b h1 h8 yb_8, h6]; split <;> rename_i h5 <;> first | omega | (exact absurd (by assumption) h5.2) | (exact absurd ⟨by assumption, by assumption⟩ h5)) | (rw [tcN_b h1 h8 rfl, h6]; split <;> rename_i h5 <;> first | omega | (exact absurd (by assumption) h5.1))) (by rw [← j2_12.1]; omega) (by omega) (by omega) (by omega))
  exact lp6 (200 - (0 : Int32).toInt).toNat.succ (0 : Int32) (0 : Int32) w e v f4 hI rfl hs4 (by omega) (by omega) (by exact ⟨rfl, fun _ _ => rfl⟩) (by intro j hj; omega) (by intro c9 h1 h2; rw [pf_5, va_us, if_pos (by omega)]; rfl) (by omega) (by rw [pf_5, va_un (by decide)]) (by intro n c m _ _; rfl) (by omega) (by omega) (by omega) (by omega)

set_option maxRecDepth 100000 in
set_option maxHeartbeats 2000000 in
theorem U_X10_cut (hI : cw_I K nn dn q w e) (hs : cw_S v f) (x1 : Int32) (x2 : Int32) (p0 : (w 0).toInt < 100000) : pm_Mt l g 29 4 4 485 [.ref (q 0), .int x1, .int x2] (cw A0 g K nn dn q w e v f) (cw_Qb A0 g K nn q (fun r K2 nn2 dn2 w2 e2 => e2 15 = e 15 ∧ (∃ x : Int32, r = some (.int x) ∧ (((w2 0).toInt ≤ (w 0).toInt + 1 ∧ (w 0).toInt ≤ (w2 0).toInt ∧ (w2 3).toInt = (w 3).toInt) ∧ ((∀ L, rp (w nn) (e (nn + 1)) (e (nn + 2)) L → (nn : Int) = 40 + 4 * ((w 0).toInt % 41) → rp (w2 nn2) (e2 (nn2 + 1)) (e2 (nn2 + 2)) ((ed_cut L x1 x2).getD L) ∧ (w2 0).toInt = (w 0).toInt + edn (ed_cut L x1 x2) ∧ (w2 1).toInt = (w 1).toInt + edn (ed_cut L x1 x2) * (0) ∧ (nn2 : Int) = 40 + 4 * ((w2 0).toInt % 41) ∧ (bd (w nn) (e (nn + 1)) (e (nn + 3)) → bd (w2 nn2) (e2 (nn2 + 1)) (e2 (nn2 + 3)))) ∧ (HCe K nn w e w2 e2 nn2 x) ∧ (((w2 0).toInt = (w 0).toInt ∧ x.toInt = -1 ∧ w2 2 = w 2) ∨ ((w2 0).toInt = (w 0).toInt + 1 ∧ ((nn : Int) = 40 + 4 * ((w 0).toInt % 41) → UQ (w nn).toInt (e (nn + 2)) → bd (w nn) (e (nn + 1)) (e (nn + 3)) → (∀ i : Nat, (i : Int) < (w nn).toInt → (e (nn + 2) i).toInt < (w 1).toInt) → x.toInt = (tcN (w nn).toInt (e (nn + 1)) (e (nn + 2)) (e2 (nn2 + 1)) (e2 (nn2 + 2)) (w2 nn2).toInt.toNat : Int)) ∧ w2 2 = w 2 + x))))))) := by
  refine mt_X10_cut rfl (fun J hC => ?_)
  have ro_nn : cw_ro K nn := hI.2.1.2.1
  have ro_dn : cw_ro K dn := hI.2.1.2.2.1
  have hu1 := hI.2.1
  unfold cw_W at hu1
  replace hu1 := And.intro hu1.1 (And.intro (And.intro hu1.2.1.1 hu1.2.1.2.1) (And.intro (And.intro hu1.2.2.1.1 hu1.2.2.1.2.1) (And.intro hu1.2.2.2.1 (And.intro hu1.2.2.2.2.2.1 hu1.2.2.2.2.2.2))))
  have zs2 := cw_sz hI ro_nn
  have zs3 := cw_sz hI ro_dn
  have rg_x1 := pm_rng x1
  have rg_x2 := pm_rng x2
  refine hC.1 0 0 _ _ rfl _ _ _ _ _ ?_
  refine Exists.intro _ (And.intro (cw_o0 hI.1) ?_)
  refine Exists.intro _ (And.intro (cw_o1 hI.1) ?_)
  refine And.intro (Exists.intro _ (cw_ro_o hI.1 ro_nn)) (Exists.intro _ (Exists.intro _ (Exists.intro _ (Exists.intro _ (And.intro (c_X7_isSpan hI hs ro_nn x1 x2 ) (And.intro rfl (fun r9 A9 h9 => ?_)))))))
  rcases h9 with ⟨y4, rfl, rfl, ⟨rfl, by4⟩ | ⟨rfl, by4⟩⟩
  · skip
    have k1 : (1 : Int32).toInt = 1 := rfl
    refine And.intro (fun _ => ?_) (fun c9 => absurd c9 (by decide))
    refine hC.1 1 19 _ _ rfl _ _ _ _ _ ?_
    refine Exists.intro _ (And.intro (cw_o0 hI.1) ?_)
    refine And.intro (Exists.intro _ (cw_o1 hI.1)) (Exists.intro _ (Exists.intro _ (Exists.intro _ (Exists.intro _ (And.intro (F_X9_begin hI hs  (by omega)) (And.intro rfl (fun r9 A9 h9 => ?_)))))))
    obtain ⟨K7, dn7, q7, w7, e7, rfl, rfl, hI7, hX7, hk7, hw7, hy7, hdn7, hfm7, hz7⟩ := h9
    have hq7_0 : q 0 = q7 0 := (hX7.2.1 0 (by omega)).symm
    have hq7_nn : q nn = q7 nn := (hX7.2.1 nn (by omega)).symm
    rw [hq7_0, hq7_nn]
    have hw7_0 := congrArg Int32.toInt hw7.1
    have hw7_1 := congrArg Int32.toInt hw7.2.1
    have hw7_3 := congrArg Int32.toInt hw7.2.2.2
    have hw7_2 := congrArg Int32.toInt hw7.2.2.1
    have ro7 : cw_ro K7 dn7 := hI7.2.1.2.2.1
    have rn7 : cw_ro K7 nn := hI7.2.1.2.1
    have hx7 : e7 15 = e 15 := hy7.trans rfl
    have hu8 := hI7.2.1
    unfold cw_W at hu8
    replace hu8 := And.intro hu8.1 (And.intro (And.intro hu8.2.1.1 hu8.2.1.2.1) (And.intro (And.intro hu8.2.2.1.1 hu8.2.2.1.2.1) (And.intro hu8.2.2.2.1 (And.intro hu8.2.2.2.2.2.1 hu8.2.2.2.2.2.2))))
    have zs9 := cw_sz hI7 rn7
    have zs10 := cw_sz hI7 ro7
    have hz9 := hz7
    have hL7 : ∀ L, rp (w nn) (e (nn + 1)) (e (nn + 2)) L → (nn : Int) = 40 + 4 * ((w 0).toInt % 41) → nn ≠ dn7 ∧ rp (w7 nn) (e7 (nn + 1)) (e7 (nn + 2)) L := hL_b ro_nn ro7 hdn7 hfm7
    have hF7 : FRO K w e w7 e7 dn7 := hfm7
    have hT7 : TQ w e nn w7 e7 f dn7 := TQ_b ro_nn ro7 hdn7 hfm7 hw7.2.1 hz7
    refine Exists.intro _ (And.intro (cw_o0 hI7.1) ?_)
    have k0 : (0 : Int32).toInt = 0 := rfl
    intro m11 em_33
    try have e11 : m11.toInt = (x1).toInt - (1) := by rw [em_33]; exact pm_subc _ _ (1) rfl (by omega) (by omega)
    have hp_34 := hL7
    refine And.intro (Exists.intro _ (cw_o1 hI7.1)) (Exists.intro _ (Exists.intro _ (Exists.intro _ (Exists.intro _ (And.intro (U_X9_keep hI7 hs (0 : Int32) m11 ) (And.intro rfl (fun r9 A9 h9 => ?_)))))))
    rcases h9 with ⟨w13, e13, v13, f13, rfl, hI13, hs13, hy13, rfl, by12⟩
    have hx13 : e13 15 = e 15 := hy13.trans hx7
    have zs14 := cw_sz hI13 rn7
    have zs15 := cw_sz hI13 ro7
    have hb_34 := by12.2.1
    have ht_34 := by12.2.2
    have hT13 : TQ w e nn w13 e13 f13 dn7 := TQ_k hT7 rn7 ro7 hb_34.1 (by omega) ht_34
    have hF13 : FRO K w e w13 e13 dn7 := FRO_s hF7 hb_34.1
    have hL13 : ∀ L, rp (w nn) (e (nn + 1)) (e (nn + 2)) L → (nn : Int) = 40 + 4 * ((w 0).toInt % 41) → nn ≠ dn7 ∧ rp (w13 nn) (e13 (nn + 1)) (e13 (nn + 2)) L := hL_k hL7 rn7 ro7 hb_34.1
    have sw13_0 : (w13 0).toInt = (w 0).toInt := by12.1.1.trans hw7_0
    have sw13_1 : (w13 1).toInt = (w 1).toInt := by12.1.2.1.trans hw7_1
    have sw13_2 : (w13 2).toInt = (w 2).toInt := by12.1.2.2.1.trans hw7_2
    have sw13_3 : (w13 3).toInt = (w 3).toInt := by12.1.2.2.2.trans hw7_3
    clear by12
    refine Exists.intro _ (And.intro (cw_o0 hI13.1) ?_)
    intro m16 em_43
    try have e16 : m16.toInt = (x2).toInt + (1) := by rw [em_43]; exact pm_addc _ _ (1) rfl (by omega) (by omega)
    refine Exists.intro _ (And.intro (cw_ro_o hI13.1 rn7) ?_)
    have z17 := cw_sz hI13 rn7
    intro m18 em_49
    try have e18 : m18.toInt = ((w13 nn)).toInt - (1) := by rw [em_49]; exact pm_subc _ _ (1) rfl (by omega) (by omega)
    have hp_50 := hL13
    refine And.intro (Exists.intro _ (cw_o1 hI13.1)) (Exists.intro _ (Exists.intro _ (Exists.intro _ (Exists.intro _ (And.intro (U_X9_keep hI13 hs13 m16 m18 ) (And.intro rfl (fun r9 A9 h9 => ?_)))))))
    rcases h9 with ⟨w20, e20, v20, f20, rfl, hI20, hs20, hy20, rfl, by19⟩
    have hx20 : e20 15 = e 15 := hy20.trans hx13
    clear zs14 zs15
    have zs21 := cw_sz hI20 rn7
    have zs22 := cw_sz hI20 ro7
    have hb_50 := by19.2.1
    have ht_50 := by19.2.2
    have hT20 : TQ w e nn w20 e20 f20 dn7 := TQ_k hT13 rn7 ro7 hb_50.1 (by omega) ht_50
    have hF20 : FRO K w e w20 e20 dn7 := FRO_s hF13 hb_50.1
    have hL20 : ∀ L, rp (w nn) (e (nn + 1)) (e (nn + 2)) L → (nn : Int) = 40 + 4 * ((w 0).toInt % 41) → nn ≠ dn7 ∧ rp (w20 nn) (e20 (nn + 1)) (e20 (nn + 2)) L := hL_k hL13 rn7 ro7 hb_50.1
    have sw20_0 : (w20 0).toInt = (w 0).toInt := by19.1.1.trans sw13_0
    have sw20_1 : (w20 1).toInt = (w 1).toInt := by19.1.2.1.trans sw13_1
    have sw20_2 : (w20 2).toInt = (w 2).toInt := by19.1.2.2.1.trans sw13_2
    have sw20_3 : (w20 3).toInt = (w 3).toInt := by19.1.2.2.2.trans sw13_3
    clear by19 sw13_0 sw13_1 sw13_2 sw13_3
    refine Exists.intro _ (And.intro (cw_o0 hI20.1) ?_)
    have hp_57 := hL20
    refine And.intro (Exists.intro _ (cw_o1 hI20.1)) (Exists.intro _ (Exists.intro _ (Exists.intro _ (Exists.intro _ (And.intro (U_X9_finish hI20 hs20  (by omega) (by omega)) (And.intro rfl (fun r9 A9 h9 => ?_)))))))
    rcases h9 with ⟨w24, e24, v24, f24, rfl, hI24, hs24, hy24, y23, rfl, by23⟩
    have hx24 : e24 15 = e 15 := hy24.trans hx20
    have hu25 := hI24.2.1.2.2.2.1
    have hu26 := hI24.2.1.2.2.2.2.1
    clear zs21 zs22
    have zs27 := cw_sz hI24 ro7
    have zs28 := cw_sz hI24 ro7
    have hb_57 := by23.2.1
    have ht_57 := by23.2.2.1.1
    have h5_9 := by23.2.2.1.2
    have ha_9 := fun h1 h2 h3 h4 => by23.2.2.2 _ _ _ h2 (hT20 h1 h2 h3 h4).2.2.2.2.2.2
    have hF24 : FRO K w e w24 e24 dn7 := FRO_s hF20 hb_57.1
    have hc_9 : HCn K w e w24 e24 dn7 y23 := ⟨by omega, hF24, ht_57⟩
    have sw24_1 : (w24 1).toInt = (w 1).toInt := by23.1.1.trans sw20_1
    have sw24_3 : (w24 3).toInt = (w 3).toInt := by23.1.2.1.trans sw20_3
    have sp24 := by23.1.2.2
    clear by23 sw20_1 sw20_3
    exact ⟨rfl, fun e9 => absurd e9 (by decide), rfl, K7, dn7, dn7, q7, w24, e24, v24, f24, rfl, hI24, hs24, hX7, hx24, y23, rfl, by first | omega | (dsimp only; omega) | trivial, by refine ⟨?_, ?_, ?_⟩; (intro L hL hN; have hl := hL.1; rw [ed_cut, if_pos (by omega)]; have q1 := hp_34 L hL hN; have z1 := q1.2.1; have t1 := hb_34.2 L ([]) (0) (x1.toInt) q1.2 q1.1 (by omega) (by omega) (by omega) (by omega) (by omega) (by first | omega | (simp only [List.length_append, List.length_nil, List.length_cons, List.length_map, List.length_reverse, nw_len, dr_len]; omega)) (rp_0 hz9); have k1 := si_len (L := L) (a := 0) (b := x1.toInt) (by omega) (by omega) (by omega); rw [List.nil_append] at t1; have q2 := hp_50 L hL hN; have z2 := q2.2.1; have t2 := hb_50.2 L (_) (x2.toInt + 1) (L.length) q2.2 q2.1 (by omega) (by omega) (by omega) (by omega) (by omega) (by first | omega | (simp only [List.length_append, List.length_nil, List.length_cons, List.length_map, List.length_reverse, nw_len, dr_len]; omega)) t1; have k2 := si_len (L := L) (a := x2.toInt + 1) (b := L.length) (by omega) (by omega) (by omega); exact ⟨hb_57.2.1 _ t2, by show _ = _ + (1 : Int); omega, by show _ = _ + (1 : Int) * _; omega, by omega, fun _ => hb_57.2.2⟩); (first | (exact Or.inr hc_9) | (exact hc_9) | (exact Or.inl ⟨rfl, rfl, fun _ _ => ⟨rfl, rfl⟩⟩)); (first | (exact hq_9) | (exact Or.inr ⟨by omega, ha_9, h5_9.trans (by congr 1; exact pm_eqI (by omega))⟩) | (exact Or.inl ⟨rfl, rfl, rfl⟩))⟩
  · skip
    have k0 : (0 : Int32).toInt = 0 := rfl
    refine And.intro (fun c9 => absurd c9 (by decide)) (fun _ => ?_)
    have km1 : (-1 : Int32).toInt = -1 := rfl
    exact ⟨rfl, fun e9 => absurd e9 (by decide), rfl, K, nn, dn, q, w, e, v, f, rfl, hI, hs, cw_X_r, rfl, (-1 : Int32), rfl, by first | omega | (dsimp only; omega) | trivial, by refine ⟨?_, ?_, ?_⟩; (intro L hL hN; have hl := hL.1; rw [ed_cut, if_neg (by omega)]; exact ⟨hL, by show _ = _ + (0 : Int); omega, by show _ = _ + (0 : Int) * _; omega, hN, fun h8 => h8⟩); (first | (exact Or.inr hc_9) | (exact hc_9) | (exact Or.inl ⟨rfl, rfl, fun _ _ => ⟨rfl, rfl⟩⟩)); (first | (exact hq_9) | (exact Or.inr ⟨by omega, ha_9, h5_9.trans (by congr 1; exact pm_eqI (by omega))⟩) | (exact Or.inl ⟨rfl, rfl, rfl⟩))⟩

end
end
section
section
variable {l : Launch} {g : pm_G} {A0 : pm_H} {K nn dn : Nat} {q : Nat → Nat} {w : Nat → Int32} {e : Nat → Nat → Int32} {v : Nat → Int32} {f : Nat → Nat → Int32}
set_option maxRecDepth 100000 in
set_option maxHeartbeats 2000000 in
theorem U_X10_insert (hI : cw_I K nn dn q w e) (hs : cw_S v f) (x1 : Int32) (x2 : Int32) (p0 : (w 0).toInt < 100000) : pm_Mt l g 25 4 4 485 [.ref (q 0), .int x1, .int x2] (cw A0 g K nn dn q w e v f) (cw_Qb A0 g K nn q (fun r K2 nn2 dn2 w2 e2 => e2 15 = e 15 ∧ (∃ x : Int32, r = some (.int x) ∧ (((w2 0).toInt ≤ (w 0).toInt + 1 ∧ (w 0).toInt ≤ (w2 0).toInt ∧ (w2 3).toInt = (w 3).toInt) ∧ ((∀ L, rp (w nn) (e (nn + 1)) (e (nn + 2)) L → (nn : Int) = 40 + 4 * ((w 0).toInt % 41) → rp (w2 nn2) (e2 (nn2 + 1)) (e2 (nn2 + 2)) ((ed_insert L (w 1) x1 x2).getD L) ∧ (w2 0).toInt = (w 0).toInt + edn (ed_insert L (w 1) x1 x2) ∧ (w2 1).toInt = (w 1).toInt + edn (ed_insert L (w 1) x1 x2) * (1) ∧ (nn2 : Int) = 40 + 4 * ((w2 0).toInt % 41) ∧ (bd (w nn) (e (nn + 1)) (e (nn + 3)) → bd (w2 nn2) (e2 (nn2 + 1)) (e2 (nn2 + 3)))) ∧ (HCe K nn w e w2 e2 nn2 x) ∧ (((w2 0).toInt = (w 0).toInt ∧ x.toInt = -1 ∧ w2 2 = w 2) ∨ ((w2 0).toInt = (w 0).toInt + 1 ∧ ((nn : Int) = 40 + 4 * ((w 0).toInt % 41) → UQ (w nn).toInt (e (nn + 2)) → bd (w nn) (e (nn + 1)) (e (nn + 3)) → (∀ i : Nat, (i : Int) < (w nn).toInt → (e (nn + 2) i).toInt < (w 1).toInt) → x.toInt = (tcN (w nn).toInt (e (nn + 1)) (e (nn + 2)) (e2 (nn2 + 1)) (e2 (nn2 + 2)) (w2 nn2).toInt.toNat : Int)) ∧ w2 2 = w 2 + x))))))) := by
  refine mt_X10_insert rfl (fun J hC => ?_)
  have ro_nn : cw_ro K nn := hI.2.1.2.1
  have ro_dn : cw_ro K dn := hI.2.1.2.2.1
  have hu1 := hI.2.1
  unfold cw_W at hu1
  replace hu1 := And.intro hu1.1 (And.intro (And.intro hu1.2.1.1 hu1.2.1.2.1) (And.intro (And.intro hu1.2.2.1.1 hu1.2.2.1.2.1) (And.intro hu1.2.2.2.1 (And.intro hu1.2.2.2.2.2.1 hu1.2.2.2.2.2.2))))
  have zs2 := cw_sz hI ro_nn
  have zs3 := cw_sz hI ro_dn
  have rg_x1 := pm_rng x1
  have rg_x2 := pm_rng x2
  refine hC.1 0 0 _ _ rfl _ _ _ _ _ ?_
  refine Exists.intro _ (And.intro (cw_o0 hI.1) ?_)
  refine Exists.intro _ (And.intro (cw_o1 hI.1) ?_)
  refine And.intro (Exists.intro _ (cw_ro_o hI.1 ro_nn)) (Exists.intro _ (Exists.intro _ (Exists.intro _ (Exists.intro _ (And.intro (c_X7_isGap hI hs ro_nn x1 ) (And.intro rfl (fun r9 A9 h9 => ?_)))))))
  rcases h9 with ⟨y4, rfl, rfl, ⟨rfl, by4⟩ | ⟨rfl, by4⟩⟩
  · skip
    have k1 : (1 : Int32).toInt = 1 := rfl
    refine And.intro (fun c9 => absurd c9 (by decide)) (fun _ => ?_)
    refine Exists.intro _ (Exists.intro _ (Exists.intro _ (Exists.intro _ (And.intro (c_X10_isColour (cw A0 g K nn dn q w e v f) x2 ) (And.intro rfl (fun r9 A9 h9 => ?_))))))
    rcases h9 with ⟨y6, rfl, rfl, ⟨rfl, by6⟩ | ⟨rfl, by6⟩⟩
    · skip
      refine And.intro (fun c9 => absurd c9 (by decide)) (fun _ => ?_)
      refine Exists.intro _ (And.intro (cw_o0 hI.1) ?_)
      refine And.intro (Exists.intro _ (cw_o1 hI.1)) (Exists.intro _ (Exists.intro _ (Exists.intro _ (Exists.intro _ (And.intro (c_X9_hasRoomFor hI hs (1 : Int32) (by omega)) (And.intro rfl (fun r9 A9 h9 => ?_)))))))
      rcases h9 with ⟨y8, rfl, rfl, ⟨rfl, by8⟩ | ⟨rfl, by8⟩⟩
      · skip
        refine And.intro (fun _ => ?_) (fun c9 => absurd c9 (by decide))
        refine hC.1 2 36 _ _ rfl _ _ _ _ _ ?_
        refine Exists.intro _ (And.intro (cw_o0 hI.1) ?_)
        refine And.intro (Exists.intro _ (cw_o1 hI.1)) (Exists.intro _ (Exists.intro _ (Exists.intro _ (Exists.intro _ (And.intro (F_X9_begin hI hs  (by omega)) (And.intro rfl (fun r9 A9 h9 => ?_)))))))
        obtain ⟨K11, dn11, q11, w11, e11, rfl, rfl, hI11, hX11, hk11, hw11, hy11, hdn11, hfm11, hz11⟩ := h9
        have hq11_0 : q 0 = q11 0 := (hX11.2.1 0 (by omega)).symm
        have hq11_nn : q nn = q11 nn := (hX11.2.1 nn (by omega)).symm
        rw [hq11_0, hq11_nn]
        have hw11_0 := congrArg Int32.toInt hw11.1
        have hw11_1 := congrArg Int32.toInt hw11.2.1
        have hw11_3 := congrArg Int32.toInt hw11.2.2.2
        have hw11_2 := congrArg Int32.toInt hw11.2.2.1
        have ro11 : cw_ro K11 dn11 := hI11.2.1.2.2.1
        have rn11 : cw_ro K11 nn := hI11.2.1.2.1
        have hx11 : e11 15 = e 15 := hy11.trans rfl
        have hu12 := hI11.2.1
        unfold cw_W at hu12
        replace hu12 := And.intro hu12.1 (And.intro (And.intro hu12.2.1.1 hu12.2.1.2.1) (And.intro (And.intro hu12.2.2.1.1 hu12.2.2.1.2.1) (And.intro hu12.2.2.2.1 (And.intro hu12.2.2.2.2.2.1 hu12.2.2.2.2.2.2))))
        have zs13 := cw_sz hI11 rn11
        have zs14 := cw_sz hI11 ro11
        have hz9 := hz11
        have hL11 : ∀ L, rp (w nn) (e (nn + 1)) (e (nn + 2)) L → (nn : Int) = 40 + 4 * ((w 0).toInt % 41) → nn ≠ dn11 ∧ rp (w11 nn) (e11 (nn + 1)) (e11 (nn + 2)) L := hL_b ro_nn ro11 hdn11 hfm11
        have hF11 : FRO K w e w11 e11 dn11 := hfm11
        have hT11 : TQ w e nn w11 e11 f dn11 := TQ_b ro_nn ro11 hdn11 hfm11 hw11.2.1 hz11
        refine Exists.intro _ (And.intro (cw_o0 hI11.1) ?_)
        have k0 : (0 : Int32).toInt = 0 := rfl
        intro m15 em_50
        try have e15 : m15.toInt = (x1).toInt - (1) := by rw [em_50]; exact pm_subc _ _ (1) rfl (by omega) (by omega)
        have hp_51 := hL11
        refine And.intro (Exists.intro _ (cw_o1 hI11.1)) (Exists.intro _ (Exists.intro _ (Exists.intro _ (Exists.intro _ (And.intro (U_X9_keep hI11 hs (0 : Int32) m15 ) (And.intro rfl (fun r9 A9 h9 => ?_)))))))
        rcases h9 with ⟨w17, e17, v17, f17, rfl, hI17, hs17, hy17, rfl, by16⟩
        have hx17 : e17 15 = e 15 := hy17.trans hx11
        have zs18 := cw_sz hI17 rn11
        have zs19 := cw_sz hI17 ro11
        have hb_51 := by16.2.1
        have ht_51 := by16.2.2
        have hT17 : TQ w e nn w17 e17 f17 dn11 := TQ_k hT11 rn11 ro11 hb_51.1 (by omega) ht_51
        have hF17 : FRO K w e w17 e17 dn11 := FRO_s hF11 hb_51.1
        have hL17 : ∀ L, rp (w nn) (e (nn + 1)) (e (nn + 2)) L → (nn : Int) = 40 + 4 * ((w 0).toInt % 41) → nn ≠ dn11 ∧ rp (w17 nn) (e17 (nn + 1)) (e17 (nn + 2)) L := hL_k hL11 rn11 ro11 hb_51.1
        have sw17_0 : (w17 0).toInt = (w 0).toInt := by16.1.1.trans hw11_0
        have sw17_1 : (w17 1).toInt = (w 1).toInt := by16.1.2.1.trans hw11_1
        have sw17_2 : (w17 2).toInt = (w 2).toInt := by16.1.2.2.1.trans hw11_2
        have sw17_3 : (w17 3).toInt = (w 3).toInt := by16.1.2.2.2.trans hw11_3
        clear by16
        refine Exists.intro _ (And.intro (cw_o0 hI17.1) ?_)
        have wn9 : w17 1 = w 1 := pm_eqI (by omega)
        have hp_59 := hL17
        refine And.intro (Exists.intro _ (cw_o1 hI17.1)) (Exists.intro _ (Exists.intro _ (Exists.intro _ (Exists.intro _ (And.intro (U_X9_add hI17 hs17 x2 (by omega) (by omega)) (And.intro rfl (fun r9 A9 h9 => ?_)))))))
        rcases h9 with ⟨w21, e21, v21, f21, rfl, hI21, hs21, hy21, rfl, by20⟩
        have hx21 : e21 15 = e 15 := hy21.trans hx17
        have hu22 := hI21.2.1.2.2.2.2.2.1
        clear zs18 zs19
        have zs23 := cw_sz hI21 rn11
        have zs24 := cw_sz hI21 ro11
        have hb_59 := by20.2.1
        have ht_59 := by20.2.2
        have hT21 : TQ w e nn w21 e21 f21 dn11 := TQ_a hT17 rn11 ro11 hb_59.1 (by omega) ht_59
        have hF21 : FRO K w e w21 e21 dn11 := FRO_s hF17 hb_59.1
        have hL21 : ∀ L, rp (w nn) (e (nn + 1)) (e (nn + 2)) L → (nn : Int) = 40 + 4 * ((w 0).toInt % 41) → nn ≠ dn11 ∧ rp (w21 nn) (e21 (nn + 1)) (e21 (nn + 2)) L := hL_k hL17 rn11 ro11 hb_59.1
        have sw21_0 : (w21 0).toInt = (w 0).toInt := by20.1.1.trans sw17_0
        have sw21_2 : (w21 2).toInt = (w 2).toInt := by20.1.2.1.trans sw17_2
        have sw21_3 : (w21 3).toInt = (w 3).toInt := by20.1.2.2.1.trans sw17_3
        have sp21 := by20.1.2.2.2
        clear by20 sw17_0 sw17_2 sw17_3
        refine Exists.intro _ (And.intro (cw_o0 hI21.1) ?_)
        refine Exists.intro _ (And.intro (cw_ro_o hI21.1 rn11) ?_)
        have z25 := cw_sz hI21 rn11
        intro m26 em_72
        try have e26 : m26.toInt = ((w21 nn)).toInt - (1) := by rw [em_72]; exact pm_subc _ _ (1) rfl (by omega) (by omega)
        have hp_73 := hL21
        refine And.intro (Exists.intro _ (cw_o1 hI21.1)) (Exists.intro _ (Exists.intro _ (Exists.intro _ (Exists.intro _ (And.intro (U_X9_keep hI21 hs21 x1 m26 ) (And.intro rfl (fun r9 A9 h9 => ?_)))))))
        rcases h9 with ⟨w28, e28, v28, f28, rfl, hI28, hs28, hy28, rfl, by27⟩
        have hx28 : e28 15 = e 15 := hy28.trans hx21
        clear zs23 zs24
        have zs29 := cw_sz hI28 rn11
        have zs30 := cw_sz hI28 ro11
        have hb_73 := by27.2.1
        have ht_73 := by27.2.2
        have hT28 : TQ w e nn w28 e28 f28 dn11 := TQ_k hT21 rn11 ro11 hb_73.1 (by omega) ht_73
        have hF28 : FRO K w e w28 e28 dn11 := FRO_s hF21 hb_73.1
        have hL28 : ∀ L, rp (w nn) (e (nn + 1)) (e (nn + 2)) L → (nn : Int) = 40 + 4 * ((w 0).toInt % 41) → nn ≠ dn11 ∧ rp (w28 nn) (e28 (nn + 1)) (e28 (nn + 2)) L := hL_k hL21 rn11 ro11 hb_73.1
        have sw28_0 : (w28 0).toInt = (w 0).toInt := by27.1.1.trans sw21_0
        have sw28_1 : (w28 1).toInt = (w21 1).toInt := by27.1.2.1
        have sw28_2 : (w28 2).toInt = (w 2).toInt := by27.1.2.2.1.trans sw21_2
        have sw28_3 : (w28 3).toInt = (w 3).toInt := by27.1.2.2.2.trans sw21_3
        clear by27 sw21_0 sw21_2 sw21_3
        refine Exists.intro _ (And.intro (cw_o0 hI28.1) ?_)
        have hp_80 := hL28
        refine And.intro (Exists.intro _ (cw_o1 hI28.1)) (Exists.intro _ (Exists.intro _ (Exists.intro _ (Exists.intro _ (And.intro (U_X9_finish hI28 hs28  (by omega) (by omega)) (And.intro rfl (fun r9 A9 h9 => ?_)))))))
        rcases h9 with ⟨w32, e32, v32, f32, rfl, hI32, hs32, hy32, y31, rfl, by31⟩
        have hx32 : e32 15 = e 15 := hy32.trans hx28
        have hu33 := hI32.2.1.2.2.2.1
        have hu34 := hI32.2.1.2.2.2.2.1
        clear zs29 zs30
        have zs35 := cw_sz hI32 ro11
        have zs36 := cw_sz hI32 ro11
        have hb_80 := by31.2.1
        have ht_80 := by31.2.2.1.1
        have h5_9 := by31.2.2.1.2
        have ha_9 := fun h1 h2 h3 h4 => by31.2.2.2 _ _ _ h2 (hT28 h1 h2 h3 h4).2.2.2.2.2.2
        have hF32 : FRO K w e w32 e32 dn11 := FRO_s hF28 hb_80.1
        have hc_9 : HCn K w e w32 e32 dn11 y31 := ⟨by omega, hF32, ht_80⟩
        have sw32_1 : (w32 1).toInt = (w21 1).toInt := by31.1.1.trans sw28_1
        have sw32_3 : (w32 3).toInt = (w 3).toInt := by31.1.2.1.trans sw28_3
        have sp32 := by31.1.2.2
        clear by31 sw28_1 sw28_3
        exact ⟨rfl, fun e9 => absurd e9 (by decide), rfl, K11, dn11, dn11, q11, w32, e32, v32, f32, rfl, hI32, hs32, hX11, hx32, y31, rfl, by first | omega | (dsimp only; omega) | trivial, by refine ⟨?_, ?_, ?_⟩; (intro L hL hN; have hl := hL.1; rw [ed_insert, if_pos (by omega)]; have q1 := hp_51 L hL hN; have z1 := q1.2.1; have t1 := hb_51.2 L ([]) (0) (x1.toInt) q1.2 q1.1 (by omega) (by omega) (by omega) (by omega) (by omega) (by first | omega | (simp only [List.length_append, List.length_nil, List.length_cons, List.length_map, List.length_reverse, nw_len, dr_len]; omega)) (rp_0 hz9); have k1 := si_len (L := L) (a := 0) (b := x1.toInt) (by omega) (by omega) (by omega); rw [List.nil_append] at t1; have t2 := hb_59.2 _ t1 (by first | omega | (simp only [List.length_append, List.length_nil, List.length_cons, List.length_map, List.length_reverse, nw_len, dr_len]; omega)); rw [wn9] at t2; have q3 := hp_73 L hL hN; have z3 := q3.2.1; have t3 := hb_73.2 L (_) (x1.toInt) (L.length) q3.2 q3.1 (by omega) (by omega) (by omega) (by omega) (by omega) (by first | omega | (simp only [List.length_append, List.length_nil, List.length_cons, List.length_map, List.length_reverse, nw_len, dr_len]; omega)) t2; have k3 := si_len (L := L) (a := x1.toInt) (b := L.length) (by omega) (by omega) (by omega); exact ⟨hb_80.2.1 _ t3, by show _ = _ + (1 : Int); omega, by show _ = _ + (1 : Int) * _; omega, by omega, fun _ => hb_80.2.2⟩); (first | (exact Or.inr hc_9) | (exact hc_9) | (exact Or.inl ⟨rfl, rfl, fun _ _ => ⟨rfl, rfl⟩⟩)); (first | (exact hq_9) | (exact Or.inr ⟨by omega, ha_9, h5_9.trans (by congr 1; exact pm_eqI (by omega))⟩) | (exact Or.inl ⟨rfl, rfl, rfl⟩))⟩
      · skip
        have k0 : (0 : Int32).toInt = 0 := rfl
        refine And.intro (fun c9 => absurd c9 (by decide)) (fun _ => ?_)
        refine hC.1 1 34 _ _ rfl _ _ _ _ _ ?_
        have km1 : (-1 : Int32).toInt = -1 := rfl
        exact ⟨rfl, fun e9 => absurd e9 (by decide), rfl, K, nn, dn, q, w, e, v, f, rfl, hI, hs, cw_X_r, rfl, (-1 : Int32), rfl, by first | omega | (dsimp only; omega) | trivial, by refine ⟨?_, ?_, ?_⟩; (intro L hL hN; have hl := hL.1; rw [ed_insert, if_neg (by omega)]; exact ⟨hL, by show _ = _ + (0 : Int); omega, by show _ = _ + (0 : Int) * _; omega, hN, fun h8 => h8⟩); (first | (exact Or.inr hc_9) | (exact hc_9) | (exact Or.inl ⟨rfl, rfl, fun _ _ => ⟨rfl, rfl⟩⟩)); (first | (exact hq_9) | (exact Or.inr ⟨by omega, ha_9, h5_9.trans (by congr 1; exact pm_eqI (by omega))⟩) | (exact Or.inl ⟨rfl, rfl, rfl⟩))⟩
    · skip
      have k0 : (0 : Int32).toInt = 0 := rfl
      refine And.intro (fun _ => ?_) (fun c9 => absurd c9 (by decide))
      refine hC.1 1 34 _ _ rfl _ _ _ _ _ ?_
      have km1 : (-1 : Int32).toInt = -1 := rfl
      exact ⟨rfl, fun e9 => absurd e9 (by decide), rfl, K, nn, dn, q, w, e, v, f, rfl, hI, hs, cw_X_r, rfl, (-1 : Int32), rfl, by first | omega | (dsimp only; omega) | trivial, by refine ⟨?_, ?_, ?_⟩; (intro L hL hN; have hl := hL.1; rw [ed_insert, if_neg (by omega)]; exact ⟨hL, by show _ = _ + (0 : Int); omega, by show _ = _ + (0 : Int) * _; omega, hN, fun h8 => h8⟩); (first | (exact Or.inr hc_9) | (exact hc_9) | (exact Or.inl ⟨rfl, rfl, fun _ _ => ⟨rfl, rfl⟩⟩)); (first | (exact hq_9) | (exact Or.inr ⟨by omega, ha_9, h5_9.trans (by congr 1; exact pm_eqI (by omega))⟩) | (exact Or.inl ⟨rfl, rfl, rfl⟩))⟩
  · skip
    have k0 : (0 : Int32).toInt = 0 := rfl
    refine And.intro (fun _ => ?_) (fun c9 => absurd c9 (by decide))
    refine hC.1 1 34 _ _ rfl _ _ _ _ _ ?_
    have km1 : (-1 : Int32).toInt = -1 := rfl
    exact ⟨rfl, fun e9 => absurd e9 (by decide), rfl, K, nn, dn, q, w, e, v, f, rfl, hI, hs, cw_X_r, rfl, (-1 : Int32), rfl, by first | omega | (dsimp only; omega) | trivial, by refine ⟨?_, ?_, ?_⟩; (intro L hL hN; have hl := hL.1; rw [ed_insert, if_neg (by omega)]; exact ⟨hL, by show _ = _ + (0 : Int); omega, by show _ = _ + (0 : Int) * _; omega, hN, fun h8 => h8⟩); (first | (exact Or.inr hc_9) | (exact hc_9) | (exact Or.inl ⟨rfl, rfl, fun _ _ => ⟨rfl, rfl⟩⟩)); (first | (exact hq_9) | (exact Or.inr ⟨by omega, ha_9, h5_9.trans (by congr 1; exact pm_eqI (by omega))⟩) | (exact Or.inl ⟨rfl, rfl, rfl⟩))⟩

set_option maxRecDepth 100000 in
set_option maxHeartbeats 2000000 in
theorem U_X10_shift (hI : cw_I K nn dn q w e) (hs : cw_S v f) (x1 : Int32) (x2 : Int32) (x3 : Int32) (p0 : (w 0).toInt < 100000) : pm_Mt l g 31 4 4 485 [.ref (q 0), .int x1, .int x2, .int x3] (cw A0 g K nn dn q w e v f) (cw_Qb A0 g K nn q (fun r K2 nn2 dn2 w2 e2 => e2 15 = e 15 ∧ (∃ x : Int32, r = some (.int x) ∧ (((w2 0).toInt ≤ (w 0).toInt + 1 ∧ (w 0).toInt ≤ (w2 0).toInt ∧ (w2 3).toInt = (w 3).toInt) ∧ ((∀ L, rp (w nn) (e (nn + 1)) (e (nn + 2)) L → (nn : Int) = 40 + 4 * ((w 0).toInt % 41) → rp (w2 nn2) (e2 (nn2 + 1)) (e2 (nn2 + 2)) ((ed_shift L x1 x2 x3).getD L) ∧ (w2 0).toInt = (w 0).toInt + edn (ed_shift L x1 x2 x3) ∧ (w2 1).toInt = (w 1).toInt + edn (ed_shift L x1 x2 x3) * (0) ∧ (nn2 : Int) = 40 + 4 * ((w2 0).toInt % 41) ∧ (bd (w nn) (e (nn + 1)) (e (nn + 3)) → bd (w2 nn2) (e2 (nn2 + 1)) (e2 (nn2 + 3)))) ∧ (HCe K nn w e w2 e2 nn2 x) ∧ (((w2 0).toInt = (w 0).toInt ∧ x.toInt = -1 ∧ w2 2 = w 2) ∨ ((w2 0).toInt = (w 0).toInt + 1 ∧ ((nn : Int) = 40 + 4 * ((w 0).toInt % 41) → UQ (w nn).toInt (e (nn + 2)) → bd (w nn) (e (nn + 1)) (e (nn + 3)) → (∀ i : Nat, (i : Int) < (w nn).toInt → (e (nn + 2) i).toInt < (w 1).toInt) → x.toInt = (tcN (w nn).toInt (e (nn + 1)) (e (nn + 2)) (e2 (nn2 + 1)) (e2 (nn2 + 2)) (w2 nn2).toInt.toNat : Int)) ∧ w2 2 = w 2 + x))))))) := by
  refine mt_X10_shift rfl (fun J hC => ?_)
  have ro_nn : cw_ro K nn := hI.2.1.2.1
  have ro_dn : cw_ro K dn := hI.2.1.2.2.1
  have hu1 := hI.2.1
  unfold cw_W at hu1
  replace hu1 := And.intro hu1.1 (And.intro (And.intro hu1.2.1.1 hu1.2.1.2.1) (And.intro (And.intro hu1.2.2.1.1 hu1.2.2.1.2.1) (And.intro hu1.2.2.2.1 (And.intro hu1.2.2.2.2.2.1 hu1.2.2.2.2.2.2))))
  have zs2 := cw_sz hI ro_nn
  have zs3 := cw_sz hI ro_dn
  have rg_x1 := pm_rng x1
  have rg_x2 := pm_rng x2
  have rg_x3 := pm_rng x3
  refine hC.1 0 0 _ _ rfl _ _ _ _ _ ?_
  refine Exists.intro _ (And.intro (cw_o0 hI.1) ?_)
  refine Exists.intro _ (And.intro (cw_o1 hI.1) ?_)
  refine And.intro (Exists.intro _ (cw_ro_o hI.1 ro_nn)) (Exists.intro _ (Exists.intro _ (Exists.intro _ (Exists.intro _ (And.intro (c_X7_isSpan hI hs ro_nn x1 x2 ) (And.intro rfl (fun r9 A9 h9 => ?_)))))))
  rcases h9 with ⟨y4, rfl, rfl, ⟨rfl, by4⟩ | ⟨rfl, by4⟩⟩
  · skip
    have k1 : (1 : Int32).toInt = 1 := rfl
    refine And.intro (fun c9 => absurd c9 (by decide)) (fun _ => ?_)
    refine And.intro (fun c6 => ?_) (fun c6 => ?_)
    · skip
      refine hC.1 1 32 _ _ rfl _ _ _ _ _ ?_
      have km1 : (-1 : Int32).toInt = -1 := rfl
      exact ⟨rfl, fun e9 => absurd e9 (by decide), rfl, K, nn, dn, q, w, e, v, f, rfl, hI, hs, cw_X_r, rfl, (-1 : Int32), rfl, by first | omega | (dsimp only; omega) | trivial, by refine ⟨?_, ?_, ?_⟩; (intro L hL hN; have hl := hL.1; rw [ed_shift, if_neg (by omega)]; exact ⟨hL, by show _ = _ + (0 : Int); omega, by show _ = _ + (0 : Int) * _; omega, hN, fun h8 => h8⟩); (first | (exact Or.inr hc_9) | (exact hc_9) | (exact Or.inl ⟨rfl, rfl, fun _ _ => ⟨rfl, rfl⟩⟩)); (first | (exact hq_9) | (exact Or.inr ⟨by omega, ha_9, h5_9.trans (by congr 1; exact pm_eqI (by omega))⟩) | (exact Or.inl ⟨rfl, rfl, rfl⟩))⟩
    · skip
      intro m7 em_26
      try have e7 : m7.toInt = (x2).toInt - (x1).toInt := by rw [em_26]; exact pm_sub _ _ (by omega) (by omega)
      intro m8 em_28
      try have e8 : m8.toInt = (m7).toInt + (1) := by rw [em_28]; exact pm_addc _ _ (1) rfl (by omega) (by omega)
      refine And.intro (fun c9 => ?_) (fun c9 => ?_)
      · skip
        refine hC.1 2 34 _ _ rfl _ _ _ _ _ ?_
        refine Exists.intro _ (And.intro (cw_o0 hI.1) ?_)
        refine And.intro (Exists.intro _ (cw_o1 hI.1)) (Exists.intro _ (Exists.intro _ (Exists.intro _ (Exists.intro _ (And.intro (F_X9_begin hI hs  (by omega)) (And.intro rfl (fun r9 A9 h9 => ?_)))))))
        obtain ⟨K11, dn11, q11, w11, e11, rfl, rfl, hI11, hX11, hk11, hw11, hy11, hdn11, hfm11, hz11⟩ := h9
        have hq11_0 : q 0 = q11 0 := (hX11.2.1 0 (by omega)).symm
        have hq11_nn : q nn = q11 nn := (hX11.2.1 nn (by omega)).symm
        rw [hq11_0, hq11_nn]
        have hw11_0 := congrArg Int32.toInt hw11.1
        have hw11_1 := congrArg Int32.toInt hw11.2.1
        have hw11_3 := congrArg Int32.toInt hw11.2.2.2
        have hw11_2 := congrArg Int32.toInt hw11.2.2.1
        have ro11 : cw_ro K11 dn11 := hI11.2.1.2.2.1
        have rn11 : cw_ro K11 nn := hI11.2.1.2.1
        have hx11 : e11 15 = e 15 := hy11.trans rfl
        have hu12 := hI11.2.1
        unfold cw_W at hu12
        replace hu12 := And.intro hu12.1 (And.intro (And.intro hu12.2.1.1 hu12.2.1.2.1) (And.intro (And.intro hu12.2.2.1.1 hu12.2.2.1.2.1) (And.intro hu12.2.2.2.1 (And.intro hu12.2.2.2.2.2.1 hu12.2.2.2.2.2.2))))
        have zs13 := cw_sz hI11 rn11
        have zs14 := cw_sz hI11 ro11
        have hz9 := hz11
        have hL11 : ∀ L, rp (w nn) (e (nn + 1)) (e (nn + 2)) L → (nn : Int) = 40 + 4 * ((w 0).toInt % 41) → nn ≠ dn11 ∧ rp (w11 nn) (e11 (nn + 1)) (e11 (nn + 2)) L := hL_b ro_nn ro11 hdn11 hfm11
        have hF11 : FRO K w e w11 e11 dn11 := hfm11
        have hT11 : TQ w e nn w11 e11 f dn11 := TQ_b ro_nn ro11 hdn11 hfm11 hw11.2.1 hz11
        refine Exists.intro _ (And.intro (cw_o0 hI11.1) ?_)
        have k0 : (0 : Int32).toInt = 0 := rfl
        intro m15 em_48
        try have e15 : m15.toInt = (x1).toInt - (1) := by rw [em_48]; exact pm_subc _ _ (1) rfl (by omega) (by omega)
        have hp_49 := hL11
        refine And.intro (Exists.intro _ (cw_o1 hI11.1)) (Exists.intro _ (Exists.intro _ (Exists.intro _ (Exists.intro _ (And.intro (U_X9_keep hI11 hs (0 : Int32) m15 ) (And.intro rfl (fun r9 A9 h9 => ?_)))))))
        rcases h9 with ⟨w17, e17, v17, f17, rfl, hI17, hs17, hy17, rfl, by16⟩
        have hx17 : e17 15 = e 15 := hy17.trans hx11
        have zs18 := cw_sz hI17 rn11
        have zs19 := cw_sz hI17 ro11
        have hb_49 := by16.2.1
        have ht_49 := by16.2.2
        have hT17 : TQ w e nn w17 e17 f17 dn11 := TQ_k hT11 rn11 ro11 hb_49.1 (by omega) ht_49
        have hF17 : FRO K w e w17 e17 dn11 := FRO_s hF11 hb_49.1
        have hL17 : ∀ L, rp (w nn) (e (nn + 1)) (e (nn + 2)) L → (nn : Int) = 40 + 4 * ((w 0).toInt % 41) → nn ≠ dn11 ∧ rp (w17 nn) (e17 (nn + 1)) (e17 (nn + 2)) L := hL_k hL11 rn11 ro11 hb_49.1
        have sw17_0 : (w17 0).toInt = (w 0).toInt := by16.1.1.trans hw11_0
        have sw17_1 : (w17 1).toInt = (w 1).toInt := by16.1.2.1.trans hw11_1
        have sw17_2 : (w17 2).toInt = (w 2).toInt := by16.1.2.2.1.trans hw11_2
        have sw17_3 : (w17 3).toInt = (w 3).toInt := by16.1.2.2.2.trans hw11_3
        clear by16
        refine Exists.intro _ (And.intro (cw_o0 hI17.1) ?_)
        intro m20 em_58
        try have e20 : m20.toInt = (x1).toInt + (x3).toInt := by rw [em_58]; exact pm_add _ _ (by omega) (by omega)
        have hp_60 := hL17
        refine And.intro (Exists.intro _ (cw_o1 hI17.1)) (Exists.intro _ (Exists.intro _ (Exists.intro _ (Exists.intro _ (And.intro (U_X9_keep hI17 hs17 m20 x2 ) (And.intro rfl (fun r9 A9 h9 => ?_)))))))
        rcases h9 with ⟨w22, e22, v22, f22, rfl, hI22, hs22, hy22, rfl, by21⟩
        have hx22 : e22 15 = e 15 := hy22.trans hx17
        clear zs18 zs19
        have zs23 := cw_sz hI22 rn11
        have zs24 := cw_sz hI22 ro11
        have hb_60 := by21.2.1
        have ht_60 := by21.2.2
        have hT22 : TQ w e nn w22 e22 f22 dn11 := TQ_k hT17 rn11 ro11 hb_60.1 (by omega) ht_60
        have hF22 : FRO K w e w22 e22 dn11 := FRO_s hF17 hb_60.1
        have hL22 : ∀ L, rp (w nn) (e (nn + 1)) (e (nn + 2)) L → (nn : Int) = 40 + 4 * ((w 0).toInt % 41) → nn ≠ dn11 ∧ rp (w22 nn) (e22 (nn + 1)) (e22 (nn + 2)) L := hL_k hL17 rn11 ro11 hb_60.1
        have sw22_0 : (w22 0).toInt = (w 0).toInt := by21.1.1.trans sw17_0
        have sw22_1 : (w22 1).toInt = (w 1).toInt := by21.1.2.1.trans sw17_1
        have sw22_2 : (w22 2).toInt = (w 2).toInt := by21.1.2.2.1.trans sw17_2
        have sw22_3 : (w22 3).toInt = (w 3).toInt := by21.1.2.2.2.trans sw17_3
        clear by21 sw17_0 sw17_1 sw17_2 sw17_3
        refine Exists.intro _ (And.intro (cw_o0 hI22.1) ?_)
        intro m25 em_70
        try have e25 : m25.toInt = (x1).toInt + (x3).toInt := by rw [em_70]; exact pm_add _ _ (by omega) (by omega)
        intro m26 em_72
        try have e26 : m26.toInt = (m25).toInt - (1) := by rw [em_72]; exact pm_subc _ _ (1) rfl (by omega) (by omega)
        have hp_73 := hL22
        refine And.intro (Exists.intro _ (cw_o1 hI22.1)) (Exists.intro _ (Exists.intro _ (Exists.intro _ (Exists.intro _ (And.intro (U_X9_keep hI22 hs22 x1 m26 ) (And.intro rfl (fun r9 A9 h9 => ?_)))))))
        rcases h9 with ⟨w28, e28, v28, f28, rfl, hI28, hs28, hy28, rfl, by27⟩
        have hx28 : e28 15 = e 15 := hy28.trans hx22
        clear zs23 zs24
        have zs29 := cw_sz hI28 rn11
        have zs30 := cw_sz hI28 ro11
        have hb_73 := by27.2.1
        have ht_73 := by27.2.2
        have hT28 : TQ w e nn w28 e28 f28 dn11 := TQ_k hT22 rn11 ro11 hb_73.1 (by omega) ht_73
        have hF28 : FRO K w e w28 e28 dn11 := FRO_s hF22 hb_73.1
        have hL28 : ∀ L, rp (w nn) (e (nn + 1)) (e (nn + 2)) L → (nn : Int) = 40 + 4 * ((w 0).toInt % 41) → nn ≠ dn11 ∧ rp (w28 nn) (e28 (nn + 1)) (e28 (nn + 2)) L := hL_k hL22 rn11 ro11 hb_73.1
        have sw28_0 : (w28 0).toInt = (w 0).toInt := by27.1.1.trans sw22_0
        have sw28_1 : (w28 1).toInt = (w 1).toInt := by27.1.2.1.trans sw22_1
        have sw28_2 : (w28 2).toInt = (w 2).toInt := by27.1.2.2.1.trans sw22_2
        have sw28_3 : (w28 3).toInt = (w 3).toInt := by27.1.2.2.2.trans sw22_3
        clear by27 sw22_0 sw22_1 sw22_2 sw22_3
        refine Exists.intro _ (And.intro (cw_o0 hI28.1) ?_)
        intro m31 em_82
        try have e31 : m31.toInt = (x2).toInt + (1) := by rw [em_82]; exact pm_addc _ _ (1) rfl (by omega) (by omega)
        refine Exists.intro _ (And.intro (cw_ro_o hI28.1 rn11) ?_)
        have z32 := cw_sz hI28 rn11
        intro m33 em_89
        try have e33 : m33.toInt = ((w28 nn)).toInt - (1) := by rw [em_89]; exact pm_subc _ _ (1) rfl (by omega) (by omega)
        have hp_90 := hL28
        refine And.intro (Exists.intro _ (cw_o1 hI28.1)) (Exists.intro _ (Exists.intro _ (Exists.intro _ (Exists.intro _ (And.intro (U_X9_keep hI28 hs28 m31 m33 ) (And.intro rfl (fun r9 A9 h9 => ?_)))))))
        rcases h9 with ⟨w35, e35, v35, f35, rfl, hI35, hs35, hy35, rfl, by34⟩
        have hx35 : e35 15 = e 15 := hy35.trans hx28
        clear zs29 zs30
        have zs36 := cw_sz hI35 rn11
        have zs37 := cw_sz hI35 ro11
        have hb_90 := by34.2.1
        have ht_90 := by34.2.2
        have hT35 : TQ w e nn w35 e35 f35 dn11 := TQ_k hT28 rn11 ro11 hb_90.1 (by omega) ht_90
        have hF35 : FRO K w e w35 e35 dn11 := FRO_s hF28 hb_90.1
        have hL35 : ∀ L, rp (w nn) (e (nn + 1)) (e (nn + 2)) L → (nn : Int) = 40 + 4 * ((w 0).toInt % 41) → nn ≠ dn11 ∧ rp (w35 nn) (e35 (nn + 1)) (e35 (nn + 2)) L := hL_k hL28 rn11 ro11 hb_90.1
        have sw35_0 : (w35 0).toInt = (w 0).toInt := by34.1.1.trans sw28_0
        have sw35_1 : (w35 1).toInt = (w 1).toInt := by34.1.2.1.trans sw28_1
        have sw35_2 : (w35 2).toInt = (w 2).toInt := by34.1.2.2.1.trans sw28_2
        have sw35_3 : (w35 3).toInt = (w 3).toInt := by34.1.2.2.2.trans sw28_3
        clear by34 sw28_0 sw28_1 sw28_2 sw28_3
        refine Exists.intro _ (And.intro (cw_o0 hI35.1) ?_)
        have hp_97 := hL35
        refine And.intro (Exists.intro _ (cw_o1 hI35.1)) (Exists.intro _ (Exists.intro _ (Exists.intro _ (Exists.intro _ (And.intro (U_X9_finish hI35 hs35  (by omega) (by omega)) (And.intro rfl (fun r9 A9 h9 => ?_)))))))
        rcases h9 with ⟨w39, e39, v39, f39, rfl, hI39, hs39, hy39, y38, rfl, by38⟩
        have hx39 : e39 15 = e 15 := hy39.trans hx35
        have hu40 := hI39.2.1.2.2.2.1
        have hu41 := hI39.2.1.2.2.2.2.1
        clear zs36 zs37
        have zs42 := cw_sz hI39 ro11
        have zs43 := cw_sz hI39 ro11
        have hb_97 := by38.2.1
        have ht_97 := by38.2.2.1.1
        have h5_9 := by38.2.2.1.2
        have ha_9 := fun h1 h2 h3 h4 => by38.2.2.2 _ _ _ h2 (hT35 h1 h2 h3 h4).2.2.2.2.2.2
        have hF39 : FRO K w e w39 e39 dn11 := FRO_s hF35 hb_97.1
        have hc_9 : HCn K w e w39 e39 dn11 y38 := ⟨by omega, hF39, ht_97⟩
        have sw39_1 : (w39 1).toInt = (w 1).toInt := by38.1.1.trans sw35_1
        have sw39_3 : (w39 3).toInt = (w 3).toInt := by38.1.2.1.trans sw35_3
        have sp39 := by38.1.2.2
        clear by38 sw35_1 sw35_3
        exact ⟨rfl, fun e9 => absurd e9 (by decide), rfl, K11, dn11, dn11, q11, w39, e39, v39, f39, rfl, hI39, hs39, hX11, hx39, y38, rfl, by first | omega | (dsimp only; omega) | trivial, by refine ⟨?_, ?_, ?_⟩; (intro L hL hN; have hl := hL.1; rw [ed_shift, if_pos (by omega)]; have q1 := hp_49 L hL hN; have z1 := q1.2.1; have t1 := hb_49.2 L ([]) (0) (x1.toInt) q1.2 q1.1 (by omega) (by omega) (by omega) (by omega) (by omega) (by first | omega | (simp only [List.length_append, List.length_nil, List.length_cons, List.length_map, List.length_reverse, nw_len, dr_len]; omega)) (rp_0 hz9); have k1 := si_len (L := L) (a := 0) (b := x1.toInt) (by omega) (by omega) (by omega); rw [List.nil_append] at t1; have q2 := hp_60 L hL hN; have z2 := q2.2.1; have t2 := hb_60.2 L (_) (x1.toInt + x3.toInt) (x2.toInt + 1) q2.2 q2.1 (by omega) (by omega) (by omega) (by omega) (by omega) (by first | omega | (simp only [List.length_append, List.length_nil, List.length_cons, List.length_map, List.length_reverse, nw_len, dr_len]; omega)) t1; have k2 := si_len (L := L) (a := x1.toInt + x3.toInt) (b := x2.toInt + 1) (by omega) (by omega) (by omega); have q3 := hp_73 L hL hN; have z3 := q3.2.1; have t3 := hb_73.2 L (_) (x1.toInt) (x1.toInt + x3.toInt) q3.2 q3.1 (by omega) (by omega) (by omega) (by omega) (by omega) (by first | omega | (simp only [List.length_append, List.length_nil, List.length_cons, List.length_map, List.length_reverse, nw_len, dr_len]; omega)) t2; have k3 := si_len (L := L) (a := x1.toInt) (b := x1.toInt + x3.toInt) (by omega) (by omega) (by omega); have q4 := hp_90 L hL hN; have z4 := q4.2.1; have t4 := hb_90.2 L (_) (x2.toInt + 1) (L.length) q4.2 q4.1 (by omega) (by omega) (by omega) (by omega) (by omega) (by first | omega | (simp only [List.length_append, List.length_nil, List.length_cons, List.length_map, List.length_reverse, nw_len, dr_len]; omega)) t3; have k4 := si_len (L := L) (a := x2.toInt + 1) (b := L.length) (by omega) (by omega) (by omega); exact ⟨hb_97.2.1 _ t4, by show _ = _ + (1 : Int); omega, by show _ = _ + (1 : Int) * _; omega, by omega, fun _ => hb_97.2.2⟩); (first | (exact Or.inr hc_9) | (exact hc_9) | (exact Or.inl ⟨rfl, rfl, fun _ _ => ⟨rfl, rfl⟩⟩)); (first | (exact hq_9) | (exact Or.inr ⟨by omega, ha_9, h5_9.trans (by congr 1; exact pm_eqI (by omega))⟩) | (exact Or.inl ⟨rfl, rfl, rfl⟩))⟩
      · skip
        refine hC.1 1 32 _ _ rfl _ _ _ _ _ ?_
        have km1 : (-1 : Int32).toInt = -1 := rfl
        exact ⟨rfl, fun e9 => absurd e9 (by decide), rfl, K, nn, dn, q, w, e, v, f, rfl, hI, hs, cw_X_r, rfl, (-1 : Int32), rfl, by first | omega | (dsimp only; omega) | trivial, by refine ⟨?_, ?_, ?_⟩; (intro L hL hN; have hl := hL.1; rw [ed_shift, if_neg (by omega)]; exact ⟨hL, by show _ = _ + (0 : Int); omega, by show _ = _ + (0 : Int) * _; omega, hN, fun h8 => h8⟩); (first | (exact Or.inr hc_9) | (exact hc_9) | (exact Or.inl ⟨rfl, rfl, fun _ _ => ⟨rfl, rfl⟩⟩)); (first | (exact hq_9) | (exact Or.inr ⟨by omega, ha_9, h5_9.trans (by congr 1; exact pm_eqI (by omega))⟩) | (exact Or.inl ⟨rfl, rfl, rfl⟩))⟩
  · skip
    have k0 : (0 : Int32).toInt = 0 := rfl
    refine And.intro (fun _ => ?_) (fun c9 => absurd c9 (by decide))
    refine hC.1 1 32 _ _ rfl _ _ _ _ _ ?_
    have km1 : (-1 : Int32).toInt = -1 := rfl
    exact ⟨rfl, fun e9 => absurd e9 (by decide), rfl, K, nn, dn, q, w, e, v, f, rfl, hI, hs, cw_X_r, rfl, (-1 : Int32), rfl, by first | omega | (dsimp only; omega) | trivial, by refine ⟨?_, ?_, ?_⟩; (intro L hL hN; have hl := hL.1; rw [ed_shift, if_neg (by omega)]; exact ⟨hL, by show _ = _ + (0 : Int); omega, by show _ = _ + (0 : Int) * _; omega, hN, fun h8 => h8⟩); (first | (exact Or.inr hc_9) | (exact hc_9) | (exact Or.inl ⟨rfl, rfl, fun _ _ => ⟨rfl, rfl⟩⟩)); (first | (exact hq_9) | (exact Or.inr ⟨by omega, ha_9, h5_9.trans (by congr 1; exact pm_eqI (by omega))⟩) | (exact Or.inl ⟨rfl, rfl, rfl⟩))⟩

end
end
section
section
variable {l : Launch} {g : pm_G} {A0 : pm_H} {K nn dn : Nat} {q : Nat → Nat} {w : Nat → Int32} {e : Nat → Nat → Int32} {v : Nat → Int32} {f : Nat → Nat → Int32}
set_option maxRecDepth 100000 in
set_option maxHeartbeats 2000000 in
theorem U_X10_swapInOrder (hI : cw_I K nn dn q w e) (hs : cw_S v f) (x1 : Int32) (x2 : Int32) (x3 : Int32) (x4 : Int32) (p0 : (w 0).toInt < 100000) (p1 : 0 ≤ x1.toInt ∧ x1.toInt ≤ x2.toInt ∧ x2.toInt < x3.toInt ∧ x3.toInt ≤ x4.toInt ∧ x4.toInt < 160) : pm_Mt l g 35 4 4 485 [.ref (q 0), .int x1, .int x2, .int x3, .int x4] (cw A0 g K nn dn q w e v f) (cw_Qb A0 g K nn q (fun r K2 nn2 dn2 w2 e2 => e2 15 = e 15 ∧ (∃ x : Int32, r = some (.int x) ∧ (((w2 0).toInt ≤ (w 0).toInt + 1 ∧ (w 0).toInt ≤ (w2 0).toInt ∧ (w2 3).toInt = (w 3).toInt) ∧ ((∀ L, rp (w nn) (e (nn + 1)) (e (nn + 2)) L → (nn : Int) = 40 + 4 * ((w 0).toInt % 41) → x4.toInt < (L.length : Int) → rp (w2 nn2) (e2 (nn2 + 1)) (e2 (nn2 + 2)) (sw_l L x1.toInt x2.toInt x3.toInt x4.toInt) ∧ (w2 0).toInt = (w 0).toInt + 1 ∧ (w2 1).toInt = (w 1).toInt ∧ (nn2 : Int) = 40 + 4 * ((w2 0).toInt % 41) ∧ (bd (w nn) (e (nn + 1)) (e (nn + 3)) → bd (w2 nn2) (e2 (nn2 + 1)) (e2 (nn2 + 3)))) ∧ (HCn K w e w2 e2 nn2 x) ∧ (((w2 0).toInt = (w 0).toInt ∧ x.toInt = -1 ∧ w2 2 = w 2) ∨ ((w2 0).toInt = (w 0).toInt + 1 ∧ ((nn : Int) = 40 + 4 * ((w 0).toInt % 41) → UQ (w nn).toInt (e (nn + 2)) → bd (w nn) (e (nn + 1)) (e (nn + 3)) → (∀ i : Nat, (i : Int) < (w nn).toInt → (e (nn + 2) i).toInt < (w 1).toInt) → x.toInt = (tcN (w nn).toInt (e (nn + 1)) (e (nn + 2)) (e2 (nn2 + 1)) (e2 (nn2 + 2)) (w2 nn2).toInt.toNat : Int)) ∧ w2 2 = w 2 + x))))))) := by
  refine mt_X10_swapInOrder rfl (fun J hC => ?_)
  have ro_nn : cw_ro K nn := hI.2.1.2.1
  have ro_dn : cw_ro K dn := hI.2.1.2.2.1
  have hu1 := hI.2.1
  unfold cw_W at hu1
  replace hu1 := And.intro hu1.1 (And.intro (And.intro hu1.2.1.1 hu1.2.1.2.1) (And.intro (And.intro hu1.2.2.1.1 hu1.2.2.1.2.1) (And.intro hu1.2.2.2.1 (And.intro hu1.2.2.2.2.2.1 hu1.2.2.2.2.2.2))))
  have zs2 := cw_sz hI ro_nn
  have zs3 := cw_sz hI ro_dn
  have rg_x1 := pm_rng x1
  have rg_x2 := pm_rng x2
  have rg_x3 := pm_rng x3
  have rg_x4 := pm_rng x4
  refine hC.1 0 0 _ _ rfl _ _ _ _ _ ?_
  refine Exists.intro _ (And.intro (cw_o0 hI.1) ?_)
  refine And.intro (Exists.intro _ (cw_o1 hI.1)) (Exists.intro _ (Exists.intro _ (Exists.intro _ (Exists.intro _ (And.intro (F_X9_begin hI hs  (by omega)) (And.intro rfl (fun r9 A9 h9 => ?_)))))))
  obtain ⟨K5, dn5, q5, w5, e5, rfl, rfl, hI5, hX5, hk5, hw5, hy5, hdn5, hfm5, hz5⟩ := h9
  have hq5_0 : q 0 = q5 0 := (hX5.2.1 0 (by omega)).symm
  rw [hq5_0]
  have hw5_0 := congrArg Int32.toInt hw5.1
  have hw5_1 := congrArg Int32.toInt hw5.2.1
  have hw5_3 := congrArg Int32.toInt hw5.2.2.2
  have hw5_2 := congrArg Int32.toInt hw5.2.2.1
  have ro5 : cw_ro K5 dn5 := hI5.2.1.2.2.1
  have rn5 : cw_ro K5 nn := hI5.2.1.2.1
  have hx5 : e5 15 = e 15 := hy5.trans rfl
  have hu6 := hI5.2.1
  unfold cw_W at hu6
  replace hu6 := And.intro hu6.1 (And.intro (And.intro hu6.2.1.1 hu6.2.1.2.1) (And.intro (And.intro hu6.2.2.1.1 hu6.2.2.1.2.1) (And.intro hu6.2.2.2.1 (And.intro hu6.2.2.2.2.2.1 hu6.2.2.2.2.2.2))))
  have zs7 := cw_sz hI5 rn5
  have zs8 := cw_sz hI5 ro5
  have hz9 := hz5
  have hL5 : ∀ L, rp (w nn) (e (nn + 1)) (e (nn + 2)) L → (nn : Int) = 40 + 4 * ((w 0).toInt % 41) → nn ≠ dn5 ∧ rp (w5 nn) (e5 (nn + 1)) (e5 (nn + 2)) L := hL_b ro_nn ro5 hdn5 hfm5
  have hF5 : FRO K w e w5 e5 dn5 := hfm5
  have hT5 : TQ w e nn w5 e5 f dn5 := TQ_b ro_nn ro5 hdn5 hfm5 hw5.2.1 hz5
  refine Exists.intro _ (And.intro (cw_o0 hI5.1) ?_)
  have k0 : (0 : Int32).toInt = 0 := rfl
  have k1 : (1 : Int32).toInt = 1 := rfl
  intro m9 em_14
  try have e9 : m9.toInt = (x1).toInt - (1) := by rw [em_14]; exact pm_subc _ _ (1) rfl (by omega) (by omega)
  have hp_15 := hL5
  refine And.intro (Exists.intro _ (cw_o1 hI5.1)) (Exists.intro _ (Exists.intro _ (Exists.intro _ (Exists.intro _ (And.intro (U_X9_keep hI5 hs (0 : Int32) m9 ) (And.intro rfl (fun r9 A9 h9 => ?_)))))))
  rcases h9 with ⟨w11, e11, v11, f11, rfl, hI11, hs11, hy11, rfl, by10⟩
  have hx11 : e11 15 = e 15 := hy11.trans hx5
  have zs12 := cw_sz hI11 rn5
  have zs13 := cw_sz hI11 ro5
  have hb_15 := by10.2.1
  have ht_15 := by10.2.2
  have hT11 : TQ w e nn w11 e11 f11 dn5 := TQ_k hT5 rn5 ro5 hb_15.1 (by omega) ht_15
  have hF11 : FRO K w e w11 e11 dn5 := FRO_s hF5 hb_15.1
  have hL11 : ∀ L, rp (w nn) (e (nn + 1)) (e (nn + 2)) L → (nn : Int) = 40 + 4 * ((w 0).toInt % 41) → nn ≠ dn5 ∧ rp (w11 nn) (e11 (nn + 1)) (e11 (nn + 2)) L := hL_k hL5 rn5 ro5 hb_15.1
  have sw11_0 : (w11 0).toInt = (w 0).toInt := by10.1.1.trans hw5_0
  have sw11_1 : (w11 1).toInt = (w 1).toInt := by10.1.2.1.trans hw5_1
  have sw11_2 : (w11 2).toInt = (w 2).toInt := by10.1.2.2.1.trans hw5_2
  have sw11_3 : (w11 3).toInt = (w 3).toInt := by10.1.2.2.2.trans hw5_3
  clear by10
  refine Exists.intro _ (And.intro (cw_o0 hI11.1) ?_)
  have hp_25 := hL11
  refine And.intro (Exists.intro _ (cw_o1 hI11.1)) (Exists.intro _ (Exists.intro _ (Exists.intro _ (Exists.intro _ (And.intro (U_X9_keep hI11 hs11 x3 x4 ) (And.intro rfl (fun r9 A9 h9 => ?_)))))))
  rcases h9 with ⟨w15, e15, v15, f15, rfl, hI15, hs15, hy15, rfl, by14⟩
  have hx15 : e15 15 = e 15 := hy15.trans hx11
  clear zs12 zs13
  have zs16 := cw_sz hI15 rn5
  have zs17 := cw_sz hI15 ro5
  have hb_25 := by14.2.1
  have ht_25 := by14.2.2
  have hT15 : TQ w e nn w15 e15 f15 dn5 := TQ_k hT11 rn5 ro5 hb_25.1 (by omega) ht_25
  have hF15 : FRO K w e w15 e15 dn5 := FRO_s hF11 hb_25.1
  have hL15 : ∀ L, rp (w nn) (e (nn + 1)) (e (nn + 2)) L → (nn : Int) = 40 + 4 * ((w 0).toInt % 41) → nn ≠ dn5 ∧ rp (w15 nn) (e15 (nn + 1)) (e15 (nn + 2)) L := hL_k hL11 rn5 ro5 hb_25.1
  have sw15_0 : (w15 0).toInt = (w 0).toInt := by14.1.1.trans sw11_0
  have sw15_1 : (w15 1).toInt = (w 1).toInt := by14.1.2.1.trans sw11_1
  have sw15_2 : (w15 2).toInt = (w 2).toInt := by14.1.2.2.1.trans sw11_2
  have sw15_3 : (w15 3).toInt = (w 3).toInt := by14.1.2.2.2.trans sw11_3
  clear by14 sw11_0 sw11_1 sw11_2 sw11_3
  refine Exists.intro _ (And.intro (cw_o0 hI15.1) ?_)
  intro m18 em_34
  try have e18 : m18.toInt = (x2).toInt + (1) := by rw [em_34]; exact pm_addc _ _ (1) rfl (by omega) (by omega)
  intro m19 em_37
  try have e19 : m19.toInt = (x3).toInt - (1) := by rw [em_37]; exact pm_subc _ _ (1) rfl (by omega) (by omega)
  have hp_38 := hL15
  refine And.intro (Exists.intro _ (cw_o1 hI15.1)) (Exists.intro _ (Exists.intro _ (Exists.intro _ (Exists.intro _ (And.intro (U_X9_keep hI15 hs15 m18 m19 ) (And.intro rfl (fun r9 A9 h9 => ?_)))))))
  rcases h9 with ⟨w21, e21, v21, f21, rfl, hI21, hs21, hy21, rfl, by20⟩
  have hx21 : e21 15 = e 15 := hy21.trans hx15
  clear zs16 zs17
  have zs22 := cw_sz hI21 rn5
  have zs23 := cw_sz hI21 ro5
  have hb_38 := by20.2.1
  have ht_38 := by20.2.2
  have hT21 : TQ w e nn w21 e21 f21 dn5 := TQ_k hT15 rn5 ro5 hb_38.1 (by omega) ht_38
  have hF21 : FRO K w e w21 e21 dn5 := FRO_s hF15 hb_38.1
  have hL21 : ∀ L, rp (w nn) (e (nn + 1)) (e (nn + 2)) L → (nn : Int) = 40 + 4 * ((w 0).toInt % 41) → nn ≠ dn5 ∧ rp (w21 nn) (e21 (nn + 1)) (e21 (nn + 2)) L := hL_k hL15 rn5 ro5 hb_38.1
  have sw21_0 : (w21 0).toInt = (w 0).toInt := by20.1.1.trans sw15_0
  have sw21_1 : (w21 1).toInt = (w 1).toInt := by20.1.2.1.trans sw15_1
  have sw21_2 : (w21 2).toInt = (w 2).toInt := by20.1.2.2.1.trans sw15_2
  have sw21_3 : (w21 3).toInt = (w 3).toInt := by20.1.2.2.2.trans sw15_3
  clear by20 sw15_0 sw15_1 sw15_2 sw15_3
  refine Exists.intro _ (And.intro (cw_o0 hI21.1) ?_)
  have hp_47 := hL21
  refine And.intro (Exists.intro _ (cw_o1 hI21.1)) (Exists.intro _ (Exists.intro _ (Exists.intro _ (Exists.intro _ (And.intro (U_X9_keep hI21 hs21 x1 x2 ) (And.intro rfl (fun r9 A9 h9 => ?_)))))))
  rcases h9 with ⟨w25, e25, v25, f25, rfl, hI25, hs25, hy25, rfl, by24⟩
  have hx25 : e25 15 = e 15 := hy25.trans hx21
  clear zs22 zs23
  have zs26 := cw_sz hI25 rn5
  have zs27 := cw_sz hI25 ro5
  have hb_47 := by24.2.1
  have ht_47 := by24.2.2
  have hT25 : TQ w e nn w25 e25 f25 dn5 := TQ_k hT21 rn5 ro5 hb_47.1 (by omega) ht_47
  have hF25 : FRO K w e w25 e25 dn5 := FRO_s hF21 hb_47.1
  have hL25 : ∀ L, rp (w nn) (e (nn + 1)) (e (nn + 2)) L → (nn : Int) = 40 + 4 * ((w 0).toInt % 41) → nn ≠ dn5 ∧ rp (w25 nn) (e25 (nn + 1)) (e25 (nn + 2)) L := hL_k hL21 rn5 ro5 hb_47.1
  have sw25_0 : (w25 0).toInt = (w 0).toInt := by24.1.1.trans sw21_0
  have sw25_1 : (w25 1).toInt = (w 1).toInt := by24.1.2.1.trans sw21_1
  have sw25_2 : (w25 2).toInt = (w 2).toInt := by24.1.2.2.1.trans sw21_2
  have sw25_3 : (w25 3).toInt = (w 3).toInt := by24.1.2.2.2.trans sw21_3
  clear by24 sw21_0 sw21_1 sw21_2 sw21_3
  refine Exists.intro _ (And.intro (cw_o0 hI25.1) ?_)
  intro m28 em_57
  try have e28 : m28.toInt = (x4).toInt + (1) := by rw [em_57]; exact pm_addc _ _ (1) rfl (by omega) (by omega)
  refine Exists.intro _ (And.intro (cw_o0 hI25.1) ?_)
  refine Exists.intro _ (And.intro (cw_o1 hI25.1) ?_)
  refine Exists.intro _ (And.intro (cw_ro_o hI25.1 rn5) ?_)
  have z29 := cw_sz hI25 rn5
  intro m30 em_69
  try have e30 : m30.toInt = ((w25 nn)).toInt - (1) := by rw [em_69]; exact pm_subc _ _ (1) rfl (by omega) (by omega)
  have hp_70 := hL25
  refine And.intro (Exists.intro _ (cw_o1 hI25.1)) (Exists.intro _ (Exists.intro _ (Exists.intro _ (Exists.intro _ (And.intro (U_X9_keep hI25 hs25 m28 m30 ) (And.intro rfl (fun r9 A9 h9 => ?_)))))))
  rcases h9 with ⟨w32, e32, v32, f32, rfl, hI32, hs32, hy32, rfl, by31⟩
  have hx32 : e32 15 = e 15 := hy32.trans hx25
  clear zs26 zs27
  have zs33 := cw_sz hI32 rn5
  have zs34 := cw_sz hI32 ro5
  have hb_70 := by31.2.1
  have ht_70 := by31.2.2
  have hT32 : TQ w e nn w32 e32 f32 dn5 := TQ_k hT25 rn5 ro5 hb_70.1 (by omega) ht_70
  have hF32 : FRO K w e w32 e32 dn5 := FRO_s hF25 hb_70.1
  have hL32 : ∀ L, rp (w nn) (e (nn + 1)) (e (nn + 2)) L → (nn : Int) = 40 + 4 * ((w 0).toInt % 41) → nn ≠ dn5 ∧ rp (w32 nn) (e32 (nn + 1)) (e32 (nn + 2)) L := hL_k hL25 rn5 ro5 hb_70.1
  have sw32_0 : (w32 0).toInt = (w 0).toInt := by31.1.1.trans sw25_0
  have sw32_1 : (w32 1).toInt = (w 1).toInt := by31.1.2.1.trans sw25_1
  have sw32_2 : (w32 2).toInt = (w 2).toInt := by31.1.2.2.1.trans sw25_2
  have sw32_3 : (w32 3).toInt = (w 3).toInt := by31.1.2.2.2.trans sw25_3
  clear by31 sw25_0 sw25_1 sw25_2 sw25_3
  refine Exists.intro _ (And.intro (cw_o0 hI32.1) ?_)
  have hp_77 := hL32
  refine And.intro (Exists.intro _ (cw_o1 hI32.1)) (Exists.intro _ (Exists.intro _ (Exists.intro _ (Exists.intro _ (And.intro (U_X9_finish hI32 hs32  (by omega) (by omega)) (And.intro rfl (fun r9 A9 h9 => ?_)))))))
  rcases h9 with ⟨w36, e36, v36, f36, rfl, hI36, hs36, hy36, y35, rfl, by35⟩
  have hx36 : e36 15 = e 15 := hy36.trans hx32
  have hu37 := hI36.2.1.2.2.2.1
  have hu38 := hI36.2.1.2.2.2.2.1
  clear zs33 zs34
  have zs39 := cw_sz hI36 ro5
  have zs40 := cw_sz hI36 ro5
  have hb_77 := by35.2.1
  have ht_77 := by35.2.2.1.1
  have h5_9 := by35.2.2.1.2
  have ha_9 := fun h1 h2 h3 h4 => by35.2.2.2 _ _ _ h2 (hT32 h1 h2 h3 h4).2.2.2.2.2.2
  have hF36 : FRO K w e w36 e36 dn5 := FRO_s hF32 hb_77.1
  have hc_9 : HCn K w e w36 e36 dn5 y35 := ⟨by omega, hF36, ht_77⟩
  have sw36_1 : (w36 1).toInt = (w 1).toInt := by35.1.1.trans sw32_1
  have sw36_3 : (w36 3).toInt = (w 3).toInt := by35.1.2.1.trans sw32_3
  have sp36 := by35.1.2.2
  clear by35 sw32_1 sw32_3
  exact ⟨rfl, fun e9 => absurd e9 (by decide), rfl, K5, dn5, dn5, q5, w36, e36, v36, f36, rfl, hI36, hs36, hX5, hx36, y35, rfl, by first | omega | (dsimp only; omega) | trivial, by refine ⟨?_, ?_, ?_⟩; (intro L hL hN h4; have hl := hL.1; unfold sw_l; have q1 := hp_15 L hL hN; have z1 := q1.2.1; have t1 := hb_15.2 L ([]) (0) (x1.toInt) q1.2 q1.1 (by omega) (by omega) (by omega) (by omega) (by omega) (by first | omega | (simp only [List.length_append, List.length_nil, List.length_cons, List.length_map, List.length_reverse, nw_len, dr_len]; omega)) (rp_0 hz9); have k1 := si_len (L := L) (a := 0) (b := x1.toInt) (by omega) (by omega) (by omega); rw [List.nil_append] at t1; have q2 := hp_25 L hL hN; have z2 := q2.2.1; have t2 := hb_25.2 L (_) (x3.toInt) (x4.toInt + 1) q2.2 q2.1 (by omega) (by omega) (by omega) (by omega) (by omega) (by first | omega | (simp only [List.length_append, List.length_nil, List.length_cons, List.length_map, List.length_reverse, nw_len, dr_len]; omega)) t1; have k2 := si_len (L := L) (a := x3.toInt) (b := x4.toInt + 1) (by omega) (by omega) (by omega); have q3 := hp_38 L hL hN; have z3 := q3.2.1; have t3 := hb_38.2 L (_) (x2.toInt + 1) (x3.toInt) q3.2 q3.1 (by omega) (by omega) (by omega) (by omega) (by omega) (by first | omega | (simp only [List.length_append, List.length_nil, List.length_cons, List.length_map, List.length_reverse, nw_len, dr_len]; omega)) t2; have k3 := si_len (L := L) (a := x2.toInt + 1) (b := x3.toInt) (by omega) (by omega) (by omega); have q4 := hp_47 L hL hN; have z4 := q4.2.1; have t4 := hb_47.2 L (_) (x1.toInt) (x2.toInt + 1) q4.2 q4.1 (by omega) (by omega) (by omega) (by omega) (by omega) (by first | omega | (simp only [List.length_append, List.length_nil, List.length_cons, List.length_map, List.length_reverse, nw_len, dr_len]; omega)) t3; have k4 := si_len (L := L) (a := x1.toInt) (b := x2.toInt + 1) (by omega) (by omega) (by omega); have q5 := hp_70 L hL hN; have z5 := q5.2.1; have t5 := hb_70.2 L (_) (x4.toInt + 1) (L.length) q5.2 q5.1 (by omega) (by omega) (by omega) (by omega) (by omega) (by first | omega | (simp only [List.length_append, List.length_nil, List.length_cons, List.length_map, List.length_reverse, nw_len, dr_len]; omega)) t4; have k5 := si_len (L := L) (a := x4.toInt + 1) (b := L.length) (by omega) (by omega) (by omega); exact ⟨hb_77.2.1 _ t5, by omega, by omega, by omega, fun _ => hb_77.2.2⟩); (exact hc_9); (first | (exact hq_9) | (exact Or.inr ⟨by omega, ha_9, h5_9.trans (by congr 1; exact pm_eqI (by omega))⟩) | (exact Or.inl ⟨rfl, rfl, rfl⟩))⟩

set_option maxRecDepth 100000 in
set_option maxHeartbeats 2000000 in
theorem U_X10_swap (hI : cw_I K nn dn q w e) (hs : cw_S v f) (x1 : Int32) (x2 : Int32) (x3 : Int32) (x4 : Int32) (p0 : (w 0).toInt < 100000) : pm_Mt l g 34 5 4 485 [.ref (q 0), .int x1, .int x2, .int x3, .int x4] (cw A0 g K nn dn q w e v f) (cw_Qb A0 g K nn q (fun r K2 nn2 dn2 w2 e2 => e2 15 = e 15 ∧ (∃ x : Int32, r = some (.int x) ∧ (((w2 0).toInt ≤ (w 0).toInt + 1 ∧ (w 0).toInt ≤ (w2 0).toInt ∧ (w2 3).toInt = (w 3).toInt) ∧ ((∀ L, rp (w nn) (e (nn + 1)) (e (nn + 2)) L → (nn : Int) = 40 + 4 * ((w 0).toInt % 41) → rp (w2 nn2) (e2 (nn2 + 1)) (e2 (nn2 + 2)) ((ed_swap L x1 x2 x3 x4).getD L) ∧ (w2 0).toInt = (w 0).toInt + edn (ed_swap L x1 x2 x3 x4) ∧ (w2 1).toInt = (w 1).toInt + edn (ed_swap L x1 x2 x3 x4) * (0) ∧ (nn2 : Int) = 40 + 4 * ((w2 0).toInt % 41) ∧ (bd (w nn) (e (nn + 1)) (e (nn + 3)) → bd (w2 nn2) (e2 (nn2 + 1)) (e2 (nn2 + 3)))) ∧ (HCe K nn w e w2 e2 nn2 x) ∧ (((w2 0).toInt = (w 0).toInt ∧ x.toInt = -1 ∧ w2 2 = w 2) ∨ ((w2 0).toInt = (w 0).toInt + 1 ∧ ((nn : Int) = 40 + 4 * ((w 0).toInt % 41) → UQ (w nn).toInt (e (nn + 2)) → bd (w nn) (e (nn + 1)) (e (nn + 3)) → (∀ i : Nat, (i : Int) < (w nn).toInt → (e (nn + 2) i).toInt < (w 1).toInt) → x.toInt = (tcN (w nn).toInt (e (nn + 1)) (e (nn + 2)) (e2 (nn2 + 1)) (e2 (nn2 + 2)) (w2 nn2).toInt.toNat : Int)) ∧ w2 2 = w 2 + x))))))) := by
  refine mt_X10_swap rfl (fun J hC => ?_)
  have ro_nn : cw_ro K nn := hI.2.1.2.1
  have ro_dn : cw_ro K dn := hI.2.1.2.2.1
  have hu1 := hI.2.1
  unfold cw_W at hu1
  replace hu1 := And.intro hu1.1 (And.intro (And.intro hu1.2.1.1 hu1.2.1.2.1) (And.intro (And.intro hu1.2.2.1.1 hu1.2.2.1.2.1) (And.intro hu1.2.2.2.1 (And.intro hu1.2.2.2.2.2.1 hu1.2.2.2.2.2.2))))
  have zs2 := cw_sz hI ro_nn
  have zs3 := cw_sz hI ro_dn
  have rg_x1 := pm_rng x1
  have rg_x2 := pm_rng x2
  have rg_x3 := pm_rng x3
  have rg_x4 := pm_rng x4
  refine hC.1 0 0 _ _ rfl _ _ _ _ _ ?_
  refine Exists.intro _ (And.intro (cw_o0 hI.1) ?_)
  refine Exists.intro _ (And.intro (cw_o1 hI.1) ?_)
  refine And.intro (Exists.intro _ (cw_ro_o hI.1 ro_nn)) (Exists.intro _ (Exists.intro _ (Exists.intro _ (Exists.intro _ (And.intro (c_X7_isSpan hI hs ro_nn x1 x2 ) (And.intro rfl (fun r9 A9 h9 => ?_)))))))
  rcases h9 with ⟨y4, rfl, rfl, ⟨rfl, by4⟩ | ⟨rfl, by4⟩⟩
  · skip
    have k1 : (1 : Int32).toInt = 1 := rfl
    refine And.intro (fun c9 => absurd c9 (by decide)) (fun _ => ?_)
    refine And.intro (Exists.intro _ (cw_ro_o hI.1 ro_nn)) (Exists.intro _ (Exists.intro _ (Exists.intro _ (Exists.intro _ (And.intro (c_X7_isSpan hI hs ro_nn x3 x4 ) (And.intro rfl (fun r9 A9 h9 => ?_)))))))
    rcases h9 with ⟨y6, rfl, rfl, ⟨rfl, by6⟩ | ⟨rfl, by6⟩⟩
    · skip
      refine And.intro (fun _ => ?_) (fun c9 => absurd c9 (by decide))
      refine hC.1 2 32 _ _ rfl _ _ _ _ _ ?_
      refine And.intro (fun c8 => ?_) (fun c8 => ?_)
      · skip
        refine hC.1 3 47 _ _ rfl _ _ _ _ _ ?_
        refine And.intro (fun c9 => ?_) (fun c9 => ?_)
        · skip
          refine hC.1 4 65 _ _ rfl _ _ _ _ _ ?_
          have km1 : (-1 : Int32).toInt = -1 := rfl
          refine hC.1 5 66 _ _ rfl _ _ _ _ _ ?_
          exact ⟨rfl, fun e9 => absurd e9 (by decide), rfl, K, nn, dn, q, w, e, v, f, rfl, hI, hs, cw_X_r, rfl, (-1 : Int32), rfl, by first | omega | (dsimp only; omega) | trivial, by refine ⟨?_, ?_, ?_⟩; (first | (intro L hL hN; have hl := hL.1; rw [ed_swap, if_pos (by omega), if_neg (by omega)]; have t1 := hb_59 L hL hN (by omega); exact ⟨t1.1, by show _ = _ + (1 : Int); omega, by show _ = _ + (1 : Int) * _; omega, t1.2.2.2.1, t1.2.2.2.2⟩) | (intro L hL hN; have hl := hL.1; rw [ed_swap, if_neg (by omega)]; exact ⟨hL, by show _ = _ + (0 : Int); omega, by show _ = _ + (0 : Int) * _; omega, hN, fun h8 => h8⟩)); (first | (exact Or.inr hc_9) | (exact hc_9) | (exact Or.inl ⟨rfl, rfl, fun _ _ => ⟨rfl, rfl⟩⟩)); (first | (exact hq_9) | (exact Or.inr ⟨by omega, ha_9, h5_9.trans (by congr 1; exact pm_eqI (by omega))⟩) | (exact Or.inl ⟨rfl, rfl, rfl⟩))⟩
        · skip
          refine And.intro (Exists.intro _ (cw_o0 hI.1)) (Exists.intro _ (Exists.intro _ (Exists.intro _ (Exists.intro _ (And.intro (U_X10_swapInOrder hI hs x3 x4 x1 x2 (by omega) (by omega)) (And.intro rfl (fun r9 A9 h9 => ?_)))))))
          obtain ⟨K11, nn11, dn11, q11, w11, e11, v11, f11, rfl, hI11, hs11, hX11, hy11, y10, rfl, by10⟩ := h9
          have hq11_0 : q 0 = q11 0 := (hX11.2.1 0 (by omega)).symm
          have hq11_nn : q nn = q11 nn := (hX11.2.1 nn (by omega)).symm
          rw [hq11_0, hq11_nn]
          have hx11 : e11 15 = e 15 := hy11.trans rfl
          have hu12 := hI11.2.1
          unfold cw_W at hu12
          replace hu12 := And.intro hu12.1 (And.intro (And.intro hu12.2.1.1 hu12.2.1.2.1) (And.intro (And.intro hu12.2.2.1.1 hu12.2.2.1.2.1) (And.intro hu12.2.2.2.1 (And.intro hu12.2.2.2.2.2.1 hu12.2.2.2.2.2.2))))
          have hb_59 := by10.2.1
          have ht_59 := by10.2.2.1
          have hq_9 := by10.2.2.2
          have hc_9 := ht_59
          refine hC.1 5 66 _ _ rfl _ _ _ _ _ ?_
          exact ⟨rfl, fun e9 => absurd e9 (by decide), rfl, K11, nn11, dn11, q11, w11, e11, v11, f11, rfl, hI11, hs11, hX11, hx11, y10, rfl, by first | omega | (dsimp only; omega) | trivial, by refine ⟨?_, ?_, ?_⟩; (first | (intro L hL hN; have hl := hL.1; rw [ed_swap, if_pos (by omega), if_neg (by omega)]; have t1 := hb_59 L hL hN (by omega); exact ⟨t1.1, by show _ = _ + (1 : Int); omega, by show _ = _ + (1 : Int) * _; omega, t1.2.2.2.1, t1.2.2.2.2⟩) | (intro L hL hN; have hl := hL.1; rw [ed_swap, if_neg (by omega)]; exact ⟨hL, by show _ = _ + (0 : Int); omega, by show _ = _ + (0 : Int) * _; omega, hN, fun h8 => h8⟩)); (first | (exact Or.inr hc_9) | (exact hc_9) | (exact Or.inl ⟨rfl, rfl, fun _ _ => ⟨rfl, rfl⟩⟩)); (first | (exact hq_9) | (exact Or.inr ⟨by omega, ha_9, h5_9.trans (by congr 1; exact pm_eqI (by omega))⟩) | (exact Or.inl ⟨rfl, rfl, rfl⟩))⟩
      · skip
        refine And.intro (Exists.intro _ (cw_o0 hI.1)) (Exists.intro _ (Exists.intro _ (Exists.intro _ (Exists.intro _ (And.intro (U_X10_swapInOrder hI hs x1 x2 x3 x4 (by omega) (by omega)) (And.intro rfl (fun r9 A9 h9 => ?_)))))))
        obtain ⟨K14, nn14, dn14, q14, w14, e14, v14, f14, rfl, hI14, hs14, hX14, hy14, y13, rfl, by13⟩ := h9
        have hq14_0 : q 0 = q14 0 := (hX14.2.1 0 (by omega)).symm
        have hq14_nn : q nn = q14 nn := (hX14.2.1 nn (by omega)).symm
        rw [hq14_0, hq14_nn]
        have hx14 : e14 15 = e 15 := hy14.trans rfl
        have hu15 := hI14.2.1
        unfold cw_W at hu15
        replace hu15 := And.intro hu15.1 (And.intro (And.intro hu15.2.1.1 hu15.2.1.2.1) (And.intro (And.intro hu15.2.2.1.1 hu15.2.2.1.2.1) (And.intro hu15.2.2.2.1 (And.intro hu15.2.2.2.2.2.1 hu15.2.2.2.2.2.2))))
        have hb_43 := by13.2.1
        have ht_43 := by13.2.2.1
        have hq_9 := by13.2.2.2
        have hc_9 := ht_43
        exact ⟨rfl, fun e9 => absurd e9 (by decide), rfl, K14, nn14, dn14, q14, w14, e14, v14, f14, rfl, hI14, hs14, hX14, hx14, y13, rfl, by first | omega | (dsimp only; omega) | trivial, by refine ⟨?_, ?_, ?_⟩; (intro L hL hN; have hl := hL.1; rw [ed_swap, if_pos (by omega), if_pos (by omega)]; have t1 := hb_43 L hL hN (by omega); exact ⟨t1.1, by show _ = _ + (1 : Int); omega, by show _ = _ + (1 : Int) * _; omega, t1.2.2.2.1, t1.2.2.2.2⟩); (first | (exact Or.inr hc_9) | (exact hc_9) | (exact Or.inl ⟨rfl, rfl, fun _ _ => ⟨rfl, rfl⟩⟩)); (first | (exact hq_9) | (exact Or.inr ⟨by omega, ha_9, h5_9.trans (by congr 1; exact pm_eqI (by omega))⟩) | (exact Or.inl ⟨rfl, rfl, rfl⟩))⟩
    · skip
      have k0 : (0 : Int32).toInt = 0 := rfl
      refine And.intro (fun c9 => absurd c9 (by decide)) (fun _ => ?_)
      refine hC.1 1 30 _ _ rfl _ _ _ _ _ ?_
      have km1 : (-1 : Int32).toInt = -1 := rfl
      exact ⟨rfl, fun e9 => absurd e9 (by decide), rfl, K, nn, dn, q, w, e, v, f, rfl, hI, hs, cw_X_r, rfl, (-1 : Int32), rfl, by first | omega | (dsimp only; omega) | trivial, by refine ⟨?_, ?_, ?_⟩; (intro L hL hN; have hl := hL.1; rw [ed_swap, if_neg (by omega)]; exact ⟨hL, by show _ = _ + (0 : Int); omega, by show _ = _ + (0 : Int) * _; omega, hN, fun h8 => h8⟩); (first | (exact Or.inr hc_9) | (exact hc_9) | (exact Or.inl ⟨rfl, rfl, fun _ _ => ⟨rfl, rfl⟩⟩)); (first | (exact hq_9) | (exact Or.inr ⟨by omega, ha_9, h5_9.trans (by congr 1; exact pm_eqI (by omega))⟩) | (exact Or.inl ⟨rfl, rfl, rfl⟩))⟩
  · skip
    have k0 : (0 : Int32).toInt = 0 := rfl
    refine And.intro (fun _ => ?_) (fun c9 => absurd c9 (by decide))
    refine hC.1 1 30 _ _ rfl _ _ _ _ _ ?_
    have km1 : (-1 : Int32).toInt = -1 := rfl
    exact ⟨rfl, fun e9 => absurd e9 (by decide), rfl, K, nn, dn, q, w, e, v, f, rfl, hI, hs, cw_X_r, rfl, (-1 : Int32), rfl, by first | omega | (dsimp only; omega) | trivial, by refine ⟨?_, ?_, ?_⟩; (intro L hL hN; have hl := hL.1; rw [ed_swap, if_neg (by omega)]; exact ⟨hL, by show _ = _ + (0 : Int); omega, by show _ = _ + (0 : Int) * _; omega, hN, fun h8 => h8⟩); (first | (exact Or.inr hc_9) | (exact hc_9) | (exact Or.inl ⟨rfl, rfl, fun _ _ => ⟨rfl, rfl⟩⟩)); (first | (exact hq_9) | (exact Or.inr ⟨by omega, ha_9, h5_9.trans (by congr 1; exact pm_eqI (by omega))⟩) | (exact Or.inl ⟨rfl, rfl, rfl⟩))⟩

end
end
section
section
variable {l : Launch} {g : pm_G} {A0 : pm_H} {K nn dn : Nat} {q : Nat → Nat} {w : Nat → Int32} {e : Nat → Nat → Int32} {v : Nat → Int32} {f : Nat → Nat → Int32}
set_option maxRecDepth 100000 in
set_option maxHeartbeats 2000000 in
theorem U_X10_paint (hI : cw_I K nn dn q w e) (hs : cw_S v f) (x1 : Int32) (x2 : Int32) (x3 : Int32) (p0 : (w 0).toInt < 100000) : pm_Mt l g 13 4 4 485 [.ref (q 0), .int x1, .int x2, .int x3] (cw A0 g K nn dn q w e v f) (cw_Qb A0 g K nn q (fun r K2 nn2 dn2 w2 e2 => e2 15 = e 15 ∧ (∃ x : Int32, r = some (.int x) ∧ (((w2 0).toInt ≤ (w 0).toInt + 1 ∧ (w 0).toInt ≤ (w2 0).toInt ∧ (w2 3).toInt = (w 3).toInt) ∧ ((∀ L, rp (w nn) (e (nn + 1)) (e (nn + 2)) L → (nn : Int) = 40 + 4 * ((w 0).toInt % 41) → rp (w2 nn2) (e2 (nn2 + 1)) (e2 (nn2 + 2)) ((ed_paint L x1 x2 x3).getD L) ∧ (w2 0).toInt = (w 0).toInt + edn (ed_paint L x1 x2 x3) ∧ (w2 1).toInt = (w 1).toInt + edn (ed_paint L x1 x2 x3) * (0) ∧ (nn2 : Int) = 40 + 4 * ((w2 0).toInt % 41) ∧ (bd (w nn) (e (nn + 1)) (e (nn + 3)) → bd (w2 nn2) (e2 (nn2 + 1)) (e2 (nn2 + 3)))) ∧ (HCe K nn w e w2 e2 nn2 x) ∧ (((w2 0).toInt = (w 0).toInt ∧ x.toInt = -1 ∧ w2 2 = w 2) ∨ ((w2 0).toInt = (w 0).toInt + 1 ∧ ((nn : Int) = 40 + 4 * ((w 0).toInt % 41) → UQ (w nn).toInt (e (nn + 2)) → bd (w nn) (e (nn + 1)) (e (nn + 3)) → (∀ i : Nat, (i : Int) < (w nn).toInt → (e (nn + 2) i).toInt < (w 1).toInt) → x.toInt = (tcN (w nn).toInt (e (nn + 1)) (e (nn + 2)) (e2 (nn2 + 1)) (e2 (nn2 + 2)) (w2 nn2).toInt.toNat : Int)) ∧ w2 2 = w 2 + x))))))) := by
  refine mt_X10_paint rfl (fun J hC => ?_)
  have ro_nn : cw_ro K nn := hI.2.1.2.1
  have ro_dn : cw_ro K dn := hI.2.1.2.2.1
  have hu1 := hI.2.1
  unfold cw_W at hu1
  replace hu1 := And.intro hu1.1 (And.intro (And.intro hu1.2.1.1 hu1.2.1.2.1) (And.intro (And.intro hu1.2.2.1.1 hu1.2.2.1.2.1) (And.intro hu1.2.2.2.1 (And.intro hu1.2.2.2.2.2.1 hu1.2.2.2.2.2.2))))
  have zs2 := cw_sz hI ro_nn
  have zs3 := cw_sz hI ro_dn
  have rg_x1 := pm_rng x1
  have rg_x2 := pm_rng x2
  have rg_x3 := pm_rng x3
  refine hC.1 0 0 _ _ rfl _ _ _ _ _ ?_
  refine Exists.intro _ (And.intro (cw_o0 hI.1) ?_)
  refine Exists.intro _ (And.intro (cw_o1 hI.1) ?_)
  refine And.intro (Exists.intro _ (cw_ro_o hI.1 ro_nn)) (Exists.intro _ (Exists.intro _ (Exists.intro _ (Exists.intro _ (And.intro (c_X7_isSpan hI hs ro_nn x1 x2 ) (And.intro rfl (fun r9 A9 h9 => ?_)))))))
  rcases h9 with ⟨y4, rfl, rfl, ⟨rfl, by4⟩ | ⟨rfl, by4⟩⟩
  · skip
    have k1 : (1 : Int32).toInt = 1 := rfl
    refine And.intro (fun c9 => absurd c9 (by decide)) (fun _ => ?_)
    refine Exists.intro _ (Exists.intro _ (Exists.intro _ (Exists.intro _ (And.intro (c_X10_isColour (cw A0 g K nn dn q w e v f) x3 ) (And.intro rfl (fun r9 A9 h9 => ?_))))))
    rcases h9 with ⟨y6, rfl, rfl, ⟨rfl, by6⟩ | ⟨rfl, by6⟩⟩
    · skip
      refine And.intro (fun _ => ?_) (fun c9 => absurd c9 (by decide))
      refine hC.1 2 28 _ _ rfl _ _ _ _ _ ?_
      refine Exists.intro _ (And.intro (cw_o0 hI.1) ?_)
      refine And.intro (Exists.intro _ (cw_o1 hI.1)) (Exists.intro _ (Exists.intro _ (Exists.intro _ (Exists.intro _ (And.intro (F_X9_begin hI hs  (by omega)) (And.intro rfl (fun r9 A9 h9 => ?_)))))))
      obtain ⟨K9, dn9, q9, w9, e9, rfl, rfl, hI9, hX9, hk9, hw9, hy9, hdn9, hfm9, hz9⟩ := h9
      have hq9_0 : q 0 = q9 0 := (hX9.2.1 0 (by omega)).symm
      have hq9_nn : q nn = q9 nn := (hX9.2.1 nn (by omega)).symm
      rw [hq9_0, hq9_nn]
      have hw9_0 := congrArg Int32.toInt hw9.1
      have hw9_1 := congrArg Int32.toInt hw9.2.1
      have hw9_3 := congrArg Int32.toInt hw9.2.2.2
      have hw9_2 := congrArg Int32.toInt hw9.2.2.1
      have ro9 : cw_ro K9 dn9 := hI9.2.1.2.2.1
      have rn9 : cw_ro K9 nn := hI9.2.1.2.1
      have hx9 : e9 15 = e 15 := hy9.trans rfl
      have hu10 := hI9.2.1
      unfold cw_W at hu10
      replace hu10 := And.intro hu10.1 (And.intro (And.intro hu10.2.1.1 hu10.2.1.2.1) (And.intro (And.intro hu10.2.2.1.1 hu10.2.2.1.2.1) (And.intro hu10.2.2.2.1 (And.intro hu10.2.2.2.2.2.1 hu10.2.2.2.2.2.2))))
      have zs11 := cw_sz hI9 rn9
      have zs12 := cw_sz hI9 ro9
      have hz9 := hz9
      have hL9 : ∀ L, rp (w nn) (e (nn + 1)) (e (nn + 2)) L → (nn : Int) = 40 + 4 * ((w 0).toInt % 41) → nn ≠ dn9 ∧ rp (w9 nn) (e9 (nn + 1)) (e9 (nn + 2)) L := hL_b ro_nn ro9 hdn9 hfm9
      have hF9 : FRO K w e w9 e9 dn9 := hfm9
      have hT9 : TQ w e nn w9 e9 f dn9 := TQ_b ro_nn ro9 hdn9 hfm9 hw9.2.1 hz9
      refine Exists.intro _ (And.intro (cw_o0 hI9.1) ?_)
      have k0 : (0 : Int32).toInt = 0 := rfl
      intro m13 em_42
      try have e13 : m13.toInt = (x1).toInt - (1) := by rw [em_42]; exact pm_subc _ _ (1) rfl (by omega) (by omega)
      have hp_43 := hL9
      refine And.intro (Exists.intro _ (cw_o1 hI9.1)) (Exists.intro _ (Exists.intro _ (Exists.intro _ (Exists.intro _ (And.intro (U_X9_keep hI9 hs (0 : Int32) m13 ) (And.intro rfl (fun r9 A9 h9 => ?_)))))))
      rcases h9 with ⟨w15, e15, v15, f15, rfl, hI15, hs15, hy15, rfl, by14⟩
      have hx15 : e15 15 = e 15 := hy15.trans hx9
      have zs16 := cw_sz hI15 rn9
      have zs17 := cw_sz hI15 ro9
      have hb_43 := by14.2.1
      have ht_43 := by14.2.2
      have hT15 : TQ w e nn w15 e15 f15 dn9 := TQ_k hT9 rn9 ro9 hb_43.1 (by omega) ht_43
      have hF15 : FRO K w e w15 e15 dn9 := FRO_s hF9 hb_43.1
      have hL15 : ∀ L, rp (w nn) (e (nn + 1)) (e (nn + 2)) L → (nn : Int) = 40 + 4 * ((w 0).toInt % 41) → nn ≠ dn9 ∧ rp (w15 nn) (e15 (nn + 1)) (e15 (nn + 2)) L := hL_k hL9 rn9 ro9 hb_43.1
      have sw15_0 : (w15 0).toInt = (w 0).toInt := by14.1.1.trans hw9_0
      have sw15_1 : (w15 1).toInt = (w 1).toInt := by14.1.2.1.trans hw9_1
      have sw15_2 : (w15 2).toInt = (w 2).toInt := by14.1.2.2.1.trans hw9_2
      have sw15_3 : (w15 3).toInt = (w 3).toInt := by14.1.2.2.2.trans hw9_3
      clear by14
      have lp19 : ∀ (n : Nat) (z5_49 : Int32) (w18 : Nat → Int32) (e18 : Nat → Nat → Int32) (v18 : Nat → Int32) (f18 : Nat → Nat → Int32), cw_I K9 nn dn9 q9 w18 e18 → e18 15 = e 15 → (∀ L, rp (w nn) (e (nn + 1)) (e (nn + 2)) L → (nn : Int) = 40 + 4 * ((w 0).toInt % 41) → nn ≠ dn9 ∧ rp (w18 nn) (e18 (nn + 1)) (e18 (nn + 2)) L) → FRO K w e w18 e18 dn9 → TQ w e nn w18 e18 f18 dn9 → cw_S v18 f18 → (x1.toInt ≤ z5_49.toInt ∧ z5_49.toInt ≤ x2.toInt + 1) → (∀ L, rp (w nn) (e (nn + 1)) (e (nn + 2)) L → (nn : Int) = 40 + 4 * ((w 0).toInt % 41) → rp (w18 dn9) (e18 (dn9 + 1)) (e18 (dn9 + 2)) (si L 0 x1.toInt ++ (si L x1.toInt z5_49.toInt).map (fun p => (x3, p.2)))) → ((w18 2).toInt = (w 2).toInt) → (w18 0).toInt = (w 0).toInt → (w18 1).toInt = (w 1).toInt → (w18 3).toInt = (w 3).toInt → 200 - z5_49.toInt < (n : Int) → J 49 [some (.ref (q9 0)), some (.int x1), some (.int x2), some (.int x3), some (.ref (q9 nn)), some (.int z5_49)] [] (cw A0 g K9 nn dn9 q9 w18 e18 v18 f18) 4 485 := by
        intro n
        induction n with
        | zero =>
          intro z5_49 w18 e18 v18 f18 hI18 hx18 hL18 hF18 hT18 hs18 j0_49 j1_49 j2_49 j3_49 j4_49 j5_49 j6_49
          clear hu10 zs11 zs12 zs16 zs17 sw15_0 sw15_1 sw15_2 sw15_3
          omega
        | succ n ih20 =>
          intro z5_49 w18 e18 v18 f18 hI18 hx18 hL18 hF18 hT18 hs18 j0_49 j1_49 j2_49 j3_49 j4_49 j5_49 j6_49
          clear hu10 zs11 zs12 zs16 zs17 sw15_0 sw15_1 sw15_2 sw15_3
          have hu21 := hI18.2.1
          unfold cw_W at hu21
          replace hu21 := And.intro hu21.1 (And.intro (And.intro hu21.2.1.1 hu21.2.1.2.1) (And.intro (And.intro hu21.2.2.1.1 hu21.2.2.1.2.1) (And.intro hu21.2.2.2.1 (And.intro hu21.2.2.2.2.2.1 hu21.2.2.2.2.2.2))))
          have zs22 := cw_sz hI18 rn9
          have zs23 := cw_sz hI18 ro9
          refine hC.1 3 49 _ _ rfl _ _ _ _ _ ?_
          refine And.intro (fun c24 => ?_) (fun c24 => ?_)
          · skip
            refine hC.1 4 71 _ _ rfl _ _ _ _ _ ?_
            refine Exists.intro _ (And.intro (cw_o0 hI18.1) ?_)
            intro m25 em_77
            try have e25 : m25.toInt = (x2).toInt + (1) := by rw [em_77]; exact pm_addc _ _ (1) rfl (by omega) (by omega)
            refine Exists.intro _ (And.intro (cw_ro_o hI18.1 rn9) ?_)
            have z26 := cw_sz hI18 rn9
            intro m27 em_84
            try have e27 : m27.toInt = ((w18 nn)).toInt - (1) := by rw [em_84]; exact pm_subc _ _ (1) rfl (by omega) (by omega)
            have hp_85 := hL18
            refine And.intro (Exists.intro _ (cw_o1 hI18.1)) (Exists.intro _ (Exists.intro _ (Exists.intro _ (Exists.intro _ (And.intro (U_X9_keep hI18 hs18 m25 m27 ) (And.intro rfl (fun r9 A9 h9 => ?_)))))))
            rcases h9 with ⟨w29, e29, v29, f29, rfl, hI29, hs29, hy29, rfl, by28⟩
            have hx29 : e29 15 = e 15 := hy29.trans hx18
            have zs30 := cw_sz hI29 rn9
            have zs31 := cw_sz hI29 ro9
            have hb_85 := by28.2.1
            have ht_85 := by28.2.2
            have hT29 : TQ w e nn w29 e29 f29 dn9 := TQ_k hT18 rn9 ro9 hb_85.1 (by omega) ht_85
            have hF29 : FRO K w e w29 e29 dn9 := FRO_s hF18 hb_85.1
            have hL29 : ∀ L, rp (w nn) (e (nn + 1)) (e (nn + 2)) L → (nn : Int) = 40 + 4 * ((w 0).toInt % 41) → nn ≠ dn9 ∧ rp (w29 nn) (e29 (nn + 1)) (e29 (nn + 2)) L := hL_k hL18 rn9 ro9 hb_85.1
            have sw29_0 : (w29 0).toInt = (w18 0).toInt := by28.1.1
            have sw29_1 : (w29 1).toInt = (w18 1).toInt := by28.1.2.1
            have sw29_2 : (w29 2).toInt = (w18 2).toInt := by28.1.2.2.1
            have sw29_3 : (w29 3).toInt = (w18 3).toInt := by28.1.2.2.2
            clear by28
            refine Exists.intro _ (And.intro (cw_o0 hI29.1) ?_)
            have hp_92 := hL29
            refine And.intro (Exists.intro _ (cw_o1 hI29.1)) (Exists.intro _ (Exists.intro _ (Exists.intro _ (Exists.intro _ (And.intro (U_X9_finish hI29 hs29  (by omega) (by omega)) (And.intro rfl (fun r9 A9 h9 => ?_)))))))
            rcases h9 with ⟨w33, e33, v33, f33, rfl, hI33, hs33, hy33, y32, rfl, by32⟩
            have hx33 : e33 15 = e 15 := hy33.trans hx29
            have hu34 := hI33.2.1.2.2.2.1
            have hu35 := hI33.2.1.2.2.2.2.1
            clear zs30 zs31
            have zs36 := cw_sz hI33 ro9
            have zs37 := cw_sz hI33 ro9
            have hb_92 := by32.2.1
            have ht_92 := by32.2.2.1.1
            have h5_9 := by32.2.2.1.2
            have ha_9 := fun h1 h2 h3 h4 => by32.2.2.2 _ _ _ h2 (hT29 h1 h2 h3 h4).2.2.2.2.2.2
            have hF33 : FRO K w e w33 e33 dn9 := FRO_s hF29 hb_92.1
            have hc_9 : HCn K w e w33 e33 dn9 y32 := ⟨by omega, hF33, ht_92⟩
            have sw33_1 : (w33 1).toInt = (w18 1).toInt := by32.1.1.trans sw29_1
            have sw33_3 : (w33 3).toInt = (w18 3).toInt := by32.1.2.1.trans sw29_3
            have sp33 := by32.1.2.2
            clear by32 sw29_1 sw29_3
            exact ⟨rfl, fun e9 => absurd e9 (by decide), rfl, K9, dn9, dn9, q9, w33, e33, v33, f33, rfl, hI33, hs33, hX9, hx33, y32, rfl, by first | omega | (dsimp only; omega) | trivial, by refine ⟨?_, ?_, ?_⟩; (intro L hL hN; have hl := hL.1; rw [ed_paint, if_pos (by omega)]; have t2 := j1_49 L hL hN; rw [show z5_49.toInt = x2.toInt + 1 by omega] at t2; have s1 := si_len (L := L) (a := 0) (b := x1.toInt) (by omega) (by omega) (by omega); have s2 := si_len (L := L) (a := x1.toInt) (b := x2.toInt + 1) (by omega) (by omega) (by omega); have q3 := hp_85 L hL hN; have z3 := q3.2.1; have t3 := hb_85.2 L (_) (x2.toInt + 1) (L.length) q3.2 q3.1 (by omega) (by omega) (by omega) (by omega) (by omega) (by first | omega | (simp only [List.length_append, List.length_nil, List.length_cons, List.length_map, List.length_reverse, nw_len, dr_len]; omega)) t2; have k3 := si_len (L := L) (a := x2.toInt + 1) (b := L.length) (by omega) (by omega) (by omega); exact ⟨hb_92.2.1 _ t3, by show _ = _ + (1 : Int); omega, by show _ = _ + (1 : Int) * _; omega, by omega, fun _ => hb_92.2.2⟩); (first | (exact Or.inr hc_9) | (exact hc_9) | (exact Or.inl ⟨rfl, rfl, fun _ _ => ⟨rfl, rfl⟩⟩)); (first | (exact hq_9) | (exact Or.inr ⟨by omega, ha_9, h5_9.trans (by congr 1; exact pm_eqI (by omega))⟩) | (exact Or.inl ⟨rfl, rfl, rfl⟩))⟩
          · skip
            refine Exists.intro _ (And.intro (cw_o0 hI18.1) ?_)
            have hp_62 := hL18
            refine And.intro (Exists.intro _ (cw_o1 hI18.1)) (Exists.intro _ (Exists.intro _ (Exists.intro _ (Exists.intro _ (And.intro (U_X9_keepAs hI18 hs18 z5_49 x3 (by omega)) (And.intro rfl (fun r9 A9 h9 => ?_)))))))
            rcases h9 with ⟨w39, e39, v39, f39, rfl, hI39, hs39, hy39, rfl, by38⟩
            have hx39 : e39 15 = e 15 := hy39.trans hx18
            have zs40 := cw_sz hI39 rn9
            have zs41 := cw_sz hI39 ro9
            have hb_62 := by38.2.1
            have ht_62 := by38.2.2
            have hT39 : TQ w e nn w39 e39 f39 dn9 := TQ_k hT18 rn9 ro9 hb_62.1 (by omega) ht_62
            have hF39 : FRO K w e w39 e39 dn9 := FRO_s hF18 hb_62.1
            have hL39 : ∀ L, rp (w nn) (e (nn + 1)) (e (nn + 2)) L → (nn : Int) = 40 + 4 * ((w 0).toInt % 41) → nn ≠ dn9 ∧ rp (w39 nn) (e39 (nn + 1)) (e39 (nn + 2)) L := hL_k hL18 rn9 ro9 hb_62.1
            have sw39_0 : (w39 0).toInt = (w18 0).toInt := by38.1.1
            have sw39_1 : (w39 1).toInt = (w18 1).toInt := by38.1.2.1
            have sw39_2 : (w39 2).toInt = (w18 2).toInt := by38.1.2.2.1
            have sw39_3 : (w39 3).toInt = (w18 3).toInt := by38.1.2.2.2
            clear by38
            intro m42 em_65
            try have e42 : m42.toInt = (z5_49).toInt + (1) := by rw [em_65]; exact pm_addc _ _ (1) rfl (by omega) (by omega)
            exact ih20 m42 w39 e39 v39 f39 hI39 hx39 hL39 hF39 hT39 hs39 (by omega) (by intro L hL hN; have hl := hL.1; have q2 := hp_62 L hL hN; have z2 := q2.2.1; have s2 := si_len (L := L) (a := 0) (b := x1.toInt) (by omega) (by omega) (by omega); have s3 := si_len (L := L) (a := x1.toInt) (b := z5_49.toInt) (by omega) (by omega) (by omega); have t2 := hb_62.2 L _ q2.2 q2.1 (by omega) (by omega) (by first | omega | (simp only [List.length_append, List.length_nil, List.length_cons, List.length_map, List.length_reverse, nw_len, dr_len]; omega)) (j1_49 L hL hN); rw [show m42.toInt = z5_49.toInt + 1 by omega, si_s q2.2 (a := x1.toInt) (z := z5_49.toInt) (by omega) (by omega) (by omega), List.map_append, List.map_cons, List.map_nil, ← List.append_assoc]; exact t2) (by omega) (by omega) (by omega) (by omega) (by omega)
      exact lp19 (200 - x1.toInt).toNat.succ x1 w15 e15 v15 f15 hI15 hx15 hL15 hF15 hT15 hs15 (by omega) (by intro L hL hN; have hl := hL.1; have q1 := hp_43 L hL hN; have z1 := q1.2.1; have t1 := hb_43.2 L ([]) (0) (x1.toInt) q1.2 q1.1 (by omega) (by omega) (by omega) (by omega) (by omega) (by first | omega | (simp only [List.length_append, List.length_nil, List.length_cons, List.length_map, List.length_reverse, nw_len, dr_len]; omega)) (rp_0 hz9); have k1 := si_len (L := L) (a := 0) (b := x1.toInt) (by omega) (by omega) (by omega); rw [List.nil_append] at t1; rw [si_n (L := L) (a := x1.toInt) (b := x1.toInt) (Int.le_refl _)]; show rp _ _ _ (_ ++ []); rw [List.append_nil]; exact t1) (by omega) (by omega) (by omega) (by omega) (by omega)
    · skip
      have k0 : (0 : Int32).toInt = 0 := rfl
      refine And.intro (fun c9 => absurd c9 (by decide)) (fun _ => ?_)
      refine hC.1 1 26 _ _ rfl _ _ _ _ _ ?_
      have km1 : (-1 : Int32).toInt = -1 := rfl
      exact ⟨rfl, fun e9 => absurd e9 (by decide), rfl, K, nn, dn, q, w, e, v, f, rfl, hI, hs, cw_X_r, rfl, (-1 : Int32), rfl, by first | omega | (dsimp only; omega) | trivial, by refine ⟨?_, ?_, ?_⟩; (intro L hL hN; have hl := hL.1; rw [ed_paint, if_neg (by omega)]; exact ⟨hL, by show _ = _ + (0 : Int); omega, by show _ = _ + (0 : Int) * _; omega, hN, fun h8 => h8⟩); (first | (exact Or.inr hc_9) | (exact hc_9) | (exact Or.inl ⟨rfl, rfl, fun _ _ => ⟨rfl, rfl⟩⟩)); (first | (exact hq_9) | (exact Or.inr ⟨by omega, ha_9, h5_9.trans (by congr 1; exact pm_eqI (by omega))⟩) | (exact Or.inl ⟨rfl, rfl, rfl⟩))⟩
  · skip
    have k0 : (0 : Int32).toInt = 0 := rfl
    refine And.intro (fun _ => ?_) (fun c9 => absurd c9 (by decide))
    refine hC.1 1 26 _ _ rfl _ _ _ _ _ ?_
    have km1 : (-1 : Int32).toInt = -1 := rfl
    exact ⟨rfl, fun e9 => absurd e9 (by decide), rfl, K, nn, dn, q, w, e, v, f, rfl, hI, hs, cw_X_r, rfl, (-1 : Int32), rfl, by first | omega | (dsimp only; omega) | trivial, by refine ⟨?_, ?_, ?_⟩; (intro L hL hN; have hl := hL.1; rw [ed_paint, if_neg (by omega)]; exact ⟨hL, by show _ = _ + (0 : Int); omega, by show _ = _ + (0 : Int) * _; omega, hN, fun h8 => h8⟩); (first | (exact Or.inr hc_9) | (exact hc_9) | (exact Or.inl ⟨rfl, rfl, fun _ _ => ⟨rfl, rfl⟩⟩)); (first | (exact hq_9) | (exact Or.inr ⟨by omega, ha_9, h5_9.trans (by congr 1; exact pm_eqI (by omega))⟩) | (exact Or.inl ⟨rfl, rfl, rfl⟩))⟩

set_option maxRecDepth 100000 in
set_option maxHeartbeats 2000000 in
theorem U_X10_put (hI : cw_I K nn dn q w e) (hs : cw_S v f) (x1 : Int32) (x2 : Int32) (p0 : (w 0).toInt < 100000) : pm_Mt l g 12 5 4 485 [.ref (q 0), .int x1, .int x2] (cw A0 g K nn dn q w e v f) (cw_Qb A0 g K nn q (fun r K2 nn2 dn2 w2 e2 => e2 15 = e 15 ∧ (∃ x : Int32, r = some (.int x) ∧ (((w2 0).toInt ≤ (w 0).toInt + 1 ∧ (w 0).toInt ≤ (w2 0).toInt ∧ (w2 3).toInt = (w 3).toInt) ∧ ((∀ L, rp (w nn) (e (nn + 1)) (e (nn + 2)) L → (nn : Int) = 40 + 4 * ((w 0).toInt % 41) → rp (w2 nn2) (e2 (nn2 + 1)) (e2 (nn2 + 2)) ((ed_paint L x1 x1 x2).getD L) ∧ (w2 0).toInt = (w 0).toInt + edn (ed_paint L x1 x1 x2) ∧ (w2 1).toInt = (w 1).toInt + edn (ed_paint L x1 x1 x2) * (0) ∧ (nn2 : Int) = 40 + 4 * ((w2 0).toInt % 41) ∧ (bd (w nn) (e (nn + 1)) (e (nn + 3)) → bd (w2 nn2) (e2 (nn2 + 1)) (e2 (nn2 + 3)))) ∧ (HCe K nn w e w2 e2 nn2 x) ∧ (((w2 0).toInt = (w 0).toInt ∧ x.toInt = -1 ∧ w2 2 = w 2) ∨ ((w2 0).toInt = (w 0).toInt + 1 ∧ ((nn : Int) = 40 + 4 * ((w 0).toInt % 41) → UQ (w nn).toInt (e (nn + 2)) → bd (w nn) (e (nn + 1)) (e (nn + 3)) → (∀ i : Nat, (i : Int) < (w nn).toInt → (e (nn + 2) i).toInt < (w 1).toInt) → x.toInt = (tcN (w nn).toInt (e (nn + 1)) (e (nn + 2)) (e2 (nn2 + 1)) (e2 (nn2 + 2)) (w2 nn2).toInt.toNat : Int)) ∧ w2 2 = w 2 + x))))))) := by
  refine mt_X10_put rfl (fun J hC => ?_)
  have ro_nn : cw_ro K nn := hI.2.1.2.1
  have ro_dn : cw_ro K dn := hI.2.1.2.2.1
  have hu1 := hI.2.1
  unfold cw_W at hu1
  replace hu1 := And.intro hu1.1 (And.intro (And.intro hu1.2.1.1 hu1.2.1.2.1) (And.intro (And.intro hu1.2.2.1.1 hu1.2.2.1.2.1) (And.intro hu1.2.2.2.1 (And.intro hu1.2.2.2.2.2.1 hu1.2.2.2.2.2.2))))
  have zs2 := cw_sz hI ro_nn
  have zs3 := cw_sz hI ro_dn
  have rg_x1 := pm_rng x1
  have rg_x2 := pm_rng x2
  refine hC.1 0 0 _ _ rfl _ _ _ _ _ ?_
  refine And.intro (Exists.intro _ (cw_o0 hI.1)) (Exists.intro _ (Exists.intro _ (Exists.intro _ (Exists.intro _ (And.intro (U_X10_paint hI hs x1 x1 x2 (by omega)) (And.intro rfl (fun r9 A9 h9 => ?_)))))))
  obtain ⟨K5, nn5, dn5, q5, w5, e5, v5, f5, rfl, hI5, hs5, hX5, hy5, y4, rfl, by4⟩ := h9
  have hq5_0 : q 0 = q5 0 := (hX5.2.1 0 (by omega)).symm
  rw [hq5_0]
  have hx5 : e5 15 = e 15 := hy5.trans rfl
  have hu6 := hI5.2.1
  unfold cw_W at hu6
  replace hu6 := And.intro hu6.1 (And.intro (And.intro hu6.2.1.1 hu6.2.1.2.1) (And.intro (And.intro hu6.2.2.1.1 hu6.2.2.1.2.1) (And.intro hu6.2.2.2.1 (And.intro hu6.2.2.2.2.2.1 hu6.2.2.2.2.2.2))))
  have hb_4 := by4.2.1
  have ht_4 := by4.2.2.1
  have hq_9 := by4.2.2.2
  have hc_9 := ht_4
  exact ⟨rfl, fun e9 => absurd e9 (by decide), rfl, K5, nn5, dn5, q5, w5, e5, v5, f5, rfl, hI5, hs5, hX5, hx5, y4, rfl, by first | omega | (dsimp only; omega) | trivial, by refine ⟨?_, ?_, ?_⟩; (exact hb_4); (first | (exact Or.inr hc_9) | (exact hc_9) | (exact Or.inl ⟨rfl, rfl, fun _ _ => ⟨rfl, rfl⟩⟩)); (first | (exact hq_9) | (exact Or.inr ⟨by omega, ha_9, h5_9.trans (by congr 1; exact pm_eqI (by omega))⟩) | (exact Or.inl ⟨rfl, rfl, rfl⟩))⟩

set_option maxRecDepth 100000 in
set_option maxHeartbeats 2000000 in
theorem U_X10_turn (hI : cw_I K nn dn q w e) (hs : cw_S v f) (x1 : Int32) (x2 : Int32) (p0 : (w 0).toInt < 100000) : pm_Mt l g 30 4 4 485 [.ref (q 0), .int x1, .int x2] (cw A0 g K nn dn q w e v f) (cw_Qb A0 g K nn q (fun r K2 nn2 dn2 w2 e2 => e2 15 = e 15 ∧ (∃ x : Int32, r = some (.int x) ∧ (((w2 0).toInt ≤ (w 0).toInt + 1 ∧ (w 0).toInt ≤ (w2 0).toInt ∧ (w2 3).toInt = (w 3).toInt) ∧ ((∀ L, rp (w nn) (e (nn + 1)) (e (nn + 2)) L → (nn : Int) = 40 + 4 * ((w 0).toInt % 41) → rp (w2 nn2) (e2 (nn2 + 1)) (e2 (nn2 + 2)) ((ed_turn L x1 x2).getD L) ∧ (w2 0).toInt = (w 0).toInt + edn (ed_turn L x1 x2) ∧ (w2 1).toInt = (w 1).toInt + edn (ed_turn L x1 x2) * (0) ∧ (nn2 : Int) = 40 + 4 * ((w2 0).toInt % 41) ∧ (bd (w nn) (e (nn + 1)) (e (nn + 3)) → bd (w2 nn2) (e2 (nn2 + 1)) (e2 (nn2 + 3)))) ∧ (HCe K nn w e w2 e2 nn2 x) ∧ (((w2 0).toInt = (w 0).toInt ∧ x.toInt = -1 ∧ w2 2 = w 2) ∨ ((w2 0).toInt = (w 0).toInt + 1 ∧ ((nn : Int) = 40 + 4 * ((w 0).toInt % 41) → UQ (w nn).toInt (e (nn + 2)) → bd (w nn) (e (nn + 1)) (e (nn + 3)) → (∀ i : Nat, (i : Int) < (w nn).toInt → (e (nn + 2) i).toInt < (w 1).toInt) → x.toInt = (tcN (w nn).toInt (e (nn + 1)) (e (nn + 2)) (e2 (nn2 + 1)) (e2 (nn2 + 2)) (w2 nn2).toInt.toNat : Int)) ∧ w2 2 = w 2 + x))))))) := by
  refine mt_X10_turn rfl (fun J hC => ?_)
  have ro_nn : cw_ro K nn := hI.2.1.2.1
  have ro_dn : cw_ro K dn := hI.2.1.2.2.1
  have hu1 := hI.2.1
  unfold cw_W at hu1
  replace hu1 := And.intro hu1.1 (And.intro (And.intro hu1.2.1.1 hu1.2.1.2.1) (And.intro (And.intro hu1.2.2.1.1 hu1.2.2.1.2.1) (And.intro hu1.2.2.2.1 (And.intro hu1.2.2.2.2.2.1 hu1.2.2.2.2.2.2))))
  have zs2 := cw_sz hI ro_nn
  have zs3 := cw_sz hI ro_dn
  have rg_x1 := pm_rng x1
  have rg_x2 := pm_rng x2
  refine hC.1 0 0 _ _ rfl _ _ _ _ _ ?_
  refine Exists.intro _ (And.intro (cw_o0 hI.1) ?_)
  refine Exists.intro _ (And.intro (cw_o1 hI.1) ?_)
  refine And.intro (Exists.intro _ (cw_ro_o hI.1 ro_nn)) (Exists.intro _ (Exists.intro _ (Exists.intro _ (Exists.intro _ (And.intro (c_X7_isSpan hI hs ro_nn x1 x2 ) (And.intro rfl (fun r9 A9 h9 => ?_)))))))
  rcases h9 with ⟨y4, rfl, rfl, ⟨rfl, by4⟩ | ⟨rfl, by4⟩⟩
  · skip
    have k1 : (1 : Int32).toInt = 1 := rfl
    refine And.intro (fun _ => ?_) (fun c9 => absurd c9 (by decide))
    refine hC.1 1 19 _ _ rfl _ _ _ _ _ ?_
    refine Exists.intro _ (And.intro (cw_o0 hI.1) ?_)
    refine And.intro (Exists.intro _ (cw_o1 hI.1)) (Exists.intro _ (Exists.intro _ (Exists.intro _ (Exists.intro _ (And.intro (F_X9_begin hI hs  (by omega)) (And.intro rfl (fun r9 A9 h9 => ?_)))))))
    obtain ⟨K7, dn7, q7, w7, e7, rfl, rfl, hI7, hX7, hk7, hw7, hy7, hdn7, hfm7, hz7⟩ := h9
    have hq7_0 : q 0 = q7 0 := (hX7.2.1 0 (by omega)).symm
    have hq7_nn : q nn = q7 nn := (hX7.2.1 nn (by omega)).symm
    rw [hq7_0, hq7_nn]
    have hw7_0 := congrArg Int32.toInt hw7.1
    have hw7_1 := congrArg Int32.toInt hw7.2.1
    have hw7_3 := congrArg Int32.toInt hw7.2.2.2
    have hw7_2 := congrArg Int32.toInt hw7.2.2.1
    have ro7 : cw_ro K7 dn7 := hI7.2.1.2.2.1
    have rn7 : cw_ro K7 nn := hI7.2.1.2.1
    have hx7 : e7 15 = e 15 := hy7.trans rfl
    have hu8 := hI7.2.1
    unfold cw_W at hu8
    replace hu8 := And.intro hu8.1 (And.intro (And.intro hu8.2.1.1 hu8.2.1.2.1) (And.intro (And.intro hu8.2.2.1.1 hu8.2.2.1.2.1) (And.intro hu8.2.2.2.1 (And.intro hu8.2.2.2.2.2.1 hu8.2.2.2.2.2.2))))
    have zs9 := cw_sz hI7 rn7
    have zs10 := cw_sz hI7 ro7
    have hz9 := hz7
    have hL7 : ∀ L, rp (w nn) (e (nn + 1)) (e (nn + 2)) L → (nn : Int) = 40 + 4 * ((w 0).toInt % 41) → nn ≠ dn7 ∧ rp (w7 nn) (e7 (nn + 1)) (e7 (nn + 2)) L := hL_b ro_nn ro7 hdn7 hfm7
    have hF7 : FRO K w e w7 e7 dn7 := hfm7
    have hT7 : TQ w e nn w7 e7 f dn7 := TQ_b ro_nn ro7 hdn7 hfm7 hw7.2.1 hz7
    refine Exists.intro _ (And.intro (cw_o0 hI7.1) ?_)
    have k0 : (0 : Int32).toInt = 0 := rfl
    intro m11 em_33
    try have e11 : m11.toInt = (x1).toInt - (1) := by rw [em_33]; exact pm_subc _ _ (1) rfl (by omega) (by omega)
    have hp_34 := hL7
    refine And.intro (Exists.intro _ (cw_o1 hI7.1)) (Exists.intro _ (Exists.intro _ (Exists.intro _ (Exists.intro _ (And.intro (U_X9_keep hI7 hs (0 : Int32) m11 ) (And.intro rfl (fun r9 A9 h9 => ?_)))))))
    rcases h9 with ⟨w13, e13, v13, f13, rfl, hI13, hs13, hy13, rfl, by12⟩
    have hx13 : e13 15 = e 15 := hy13.trans hx7
    have zs14 := cw_sz hI13 rn7
    have zs15 := cw_sz hI13 ro7
    have hb_34 := by12.2.1
    have ht_34 := by12.2.2
    have hT13 : TQ w e nn w13 e13 f13 dn7 := TQ_k hT7 rn7 ro7 hb_34.1 (by omega) ht_34
    have hF13 : FRO K w e w13 e13 dn7 := FRO_s hF7 hb_34.1
    have hL13 : ∀ L, rp (w nn) (e (nn + 1)) (e (nn + 2)) L → (nn : Int) = 40 + 4 * ((w 0).toInt % 41) → nn ≠ dn7 ∧ rp (w13 nn) (e13 (nn + 1)) (e13 (nn + 2)) L := hL_k hL7 rn7 ro7 hb_34.1
    have sw13_0 : (w13 0).toInt = (w 0).toInt := by12.1.1.trans hw7_0
    have sw13_1 : (w13 1).toInt = (w 1).toInt := by12.1.2.1.trans hw7_1
    have sw13_2 : (w13 2).toInt = (w 2).toInt := by12.1.2.2.1.trans hw7_2
    have sw13_3 : (w13 3).toInt = (w 3).toInt := by12.1.2.2.2.trans hw7_3
    clear by12
    have lp17 : ∀ (n : Nat) (z4_40 : Int32) (w16 : Nat → Int32) (e16 : Nat → Nat → Int32) (v16 : Nat → Int32) (f16 : Nat → Nat → Int32), cw_I K7 nn dn7 q7 w16 e16 → e16 15 = e 15 → (∀ L, rp (w nn) (e (nn + 1)) (e (nn + 2)) L → (nn : Int) = 40 + 4 * ((w 0).toInt % 41) → nn ≠ dn7 ∧ rp (w16 nn) (e16 (nn + 1)) (e16 (nn + 2)) L) → FRO K w e w16 e16 dn7 → TQ w e nn w16 e16 f16 dn7 → cw_S v16 f16 → (x1.toInt - 1 ≤ z4_40.toInt ∧ z4_40.toInt ≤ x2.toInt) → (∀ L, rp (w nn) (e (nn + 1)) (e (nn + 2)) L → (nn : Int) = 40 + 4 * ((w 0).toInt % 41) → rp (w16 dn7) (e16 (dn7 + 1)) (e16 (dn7 + 2)) (si L 0 x1.toInt ++ (si L (z4_40.toInt + 1) (x2.toInt + 1)).reverse)) → ((w16 2).toInt = (w 2).toInt) → (w16 0).toInt = (w 0).toInt → (w16 1).toInt = (w 1).toInt → (w16 3).toInt = (w 3).toInt → z4_40.toInt + 1 < (n : Int) → J 40 [some (.ref (q7 0)), some (.int x1), some (.int x2), some (.ref (q7 nn)), some (.int z4_40)] [] (cw A0 g K7 nn dn7 q7 w16 e16 v16 f16) 4 485 := by
      intro n
      induction n with
      | zero =>
        intro z4_40 w16 e16 v16 f16 hI16 hx16 hL16 hF16 hT16 hs16 j0_40 j1_40 j2_40 j3_40 j4_40 j5_40 j6_40
        clear hu8 zs9 zs10 zs14 zs15 sw13_0 sw13_1 sw13_2 sw13_3
        omega
      | succ n ih18 =>
        intro z4_40 w16 e16 v16 f16 hI16 hx16 hL16 hF16 hT16 hs16 j0_40 j1_40 j2_40 j3_40 j4_40 j5_40 j6_40
        clear hu8 zs9 zs10 zs14 zs15 sw13_0 sw13_1 sw13_2 sw13_3
        have hu19 := hI16.2.1
        unfold cw_W at hu19
        replace hu19 := And.intro hu19.1 (And.intro (And.intro hu19.2.1.1 hu19.2.1.2.1) (And.intro (And.intro hu19.2.2.1.1 hu19.2.2.1.2.1) (And.intro hu19.2.2.2.1 (And.intro hu19.2.2.2.2.2.1 hu19.2.2.2.2.2.2))))
        have zs20 := cw_sz hI16 rn7
        have zs21 := cw_sz hI16 ro7
        refine hC.1 2 40 _ _ rfl _ _ _ _ _ ?_
        refine And.intro (fun c22 => ?_) (fun c22 => ?_)
        · skip
          refine hC.1 3 63 _ _ rfl _ _ _ _ _ ?_
          refine Exists.intro _ (And.intro (cw_o0 hI16.1) ?_)
          intro m23 em_69
          try have e23 : m23.toInt = (x2).toInt + (1) := by rw [em_69]; exact pm_addc _ _ (1) rfl (by omega) (by omega)
          refine Exists.intro _ (And.intro (cw_ro_o hI16.1 rn7) ?_)
          have z24 := cw_sz hI16 rn7
          intro m25 em_75
          try have e25 : m25.toInt = ((w16 nn)).toInt - (1) := by rw [em_75]; exact pm_subc _ _ (1) rfl (by omega) (by omega)
          have hp_76 := hL16
          refine And.intro (Exists.intro _ (cw_o1 hI16.1)) (Exists.intro _ (Exists.intro _ (Exists.intro _ (Exists.intro _ (And.intro (U_X9_keep hI16 hs16 m23 m25 ) (And.intro rfl (fun r9 A9 h9 => ?_)))))))
          rcases h9 with ⟨w27, e27, v27, f27, rfl, hI27, hs27, hy27, rfl, by26⟩
          have hx27 : e27 15 = e 15 := hy27.trans hx16
          have zs28 := cw_sz hI27 rn7
          have zs29 := cw_sz hI27 ro7
          have hb_76 := by26.2.1
          have ht_76 := by26.2.2
          have hT27 : TQ w e nn w27 e27 f27 dn7 := TQ_k hT16 rn7 ro7 hb_76.1 (by omega) ht_76
          have hF27 : FRO K w e w27 e27 dn7 := FRO_s hF16 hb_76.1
          have hL27 : ∀ L, rp (w nn) (e (nn + 1)) (e (nn + 2)) L → (nn : Int) = 40 + 4 * ((w 0).toInt % 41) → nn ≠ dn7 ∧ rp (w27 nn) (e27 (nn + 1)) (e27 (nn + 2)) L := hL_k hL16 rn7 ro7 hb_76.1
          have sw27_0 : (w27 0).toInt = (w16 0).toInt := by26.1.1
          have sw27_1 : (w27 1).toInt = (w16 1).toInt := by26.1.2.1
          have sw27_2 : (w27 2).toInt = (w16 2).toInt := by26.1.2.2.1
          have sw27_3 : (w27 3).toInt = (w16 3).toInt := by26.1.2.2.2
          clear by26
          refine Exists.intro _ (And.intro (cw_o0 hI27.1) ?_)
          have hp_83 := hL27
          refine And.intro (Exists.intro _ (cw_o1 hI27.1)) (Exists.intro _ (Exists.intro _ (Exists.intro _ (Exists.intro _ (And.intro (U_X9_finish hI27 hs27  (by omega) (by omega)) (And.intro rfl (fun r9 A9 h9 => ?_)))))))
          rcases h9 with ⟨w31, e31, v31, f31, rfl, hI31, hs31, hy31, y30, rfl, by30⟩
          have hx31 : e31 15 = e 15 := hy31.trans hx27
          have hu32 := hI31.2.1.2.2.2.1
          have hu33 := hI31.2.1.2.2.2.2.1
          clear zs28 zs29
          have zs34 := cw_sz hI31 ro7
          have zs35 := cw_sz hI31 ro7
          have hb_83 := by30.2.1
          have ht_83 := by30.2.2.1.1
          have h5_9 := by30.2.2.1.2
          have ha_9 := fun h1 h2 h3 h4 => by30.2.2.2 _ _ _ h2 (hT27 h1 h2 h3 h4).2.2.2.2.2.2
          have hF31 : FRO K w e w31 e31 dn7 := FRO_s hF27 hb_83.1
          have hc_9 : HCn K w e w31 e31 dn7 y30 := ⟨by omega, hF31, ht_83⟩
          have sw31_1 : (w31 1).toInt = (w16 1).toInt := by30.1.1.trans sw27_1
          have sw31_3 : (w31 3).toInt = (w16 3).toInt := by30.1.2.1.trans sw27_3
          have sp31 := by30.1.2.2
          clear by30 sw27_1 sw27_3
          exact ⟨rfl, fun e9 => absurd e9 (by decide), rfl, K7, dn7, dn7, q7, w31, e31, v31, f31, rfl, hI31, hs31, hX7, hx31, y30, rfl, by first | omega | (dsimp only; omega) | trivial, by refine ⟨?_, ?_, ?_⟩; (intro L hL hN; have hl := hL.1; rw [ed_turn, if_pos (by omega)]; have t2 := j1_40 L hL hN; rw [show z4_40.toInt + 1 = x1.toInt by omega] at t2; have s1 := si_len (L := L) (a := 0) (b := x1.toInt) (by omega) (by omega) (by omega); have s2 := si_len (L := L) (a := x1.toInt) (b := x2.toInt + 1) (by omega) (by omega) (by omega); have q3 := hp_76 L hL hN; have z3 := q3.2.1; have t3 := hb_76.2 L (_) (x2.toInt + 1) (L.length) q3.2 q3.1 (by omega) (by omega) (by omega) (by omega) (by omega) (by first | omega | (simp only [List.length_append, List.length_nil, List.length_cons, List.length_map, List.length_reverse, nw_len, dr_len]; omega)) t2; have k3 := si_len (L := L) (a := x2.toInt + 1) (b := L.length) (by omega) (by omega) (by omega); exact ⟨hb_83.2.1 _ t3, by show _ = _ + (1 : Int); omega, by show _ = _ + (1 : Int) * _; omega, by omega, fun _ => hb_83.2.2⟩); (first | (exact Or.inr hc_9) | (exact hc_9) | (exact Or.inl ⟨rfl, rfl, fun _ _ => ⟨rfl, rfl⟩⟩)); (first | (exact hq_9) | (exact Or.inr ⟨by omega, ha_9, h5_9.trans (by congr 1; exact pm_eqI (by omega))⟩) | (exact Or.inl ⟨rfl, rfl, rfl⟩))⟩
        · skip
          refine Exists.intro _ (And.intro (cw_o0 hI16.1) ?_)
          have hp_54 := hL16
          refine And.intro (Exists.intro _ (cw_o1 hI16.1)) (Exists.intro _ (Exists.intro _ (Exists.intro _ (Exists.intro _ (And.intro (U_X9_keep hI16 hs16 z4_40 z4_40 ) (And.intro rfl (fun r9 A9 h9 => ?_)))))))
          rcases h9 with ⟨w37, e37, v37, f37, rfl, hI37, hs37, hy37, rfl, by36⟩
          have hx37 : e37 15 = e 15 := hy37.trans hx16
          have zs38 := cw_sz hI37 rn7
          have zs39 := cw_sz hI37 ro7
          have hb_54 := by36.2.1
          have ht_54 := by36.2.2
          have hT37 : TQ w e nn w37 e37 f37 dn7 := TQ_k hT16 rn7 ro7 hb_54.1 (by omega) ht_54
          have hF37 : FRO K w e w37 e37 dn7 := FRO_s hF16 hb_54.1
          have hL37 : ∀ L, rp (w nn) (e (nn + 1)) (e (nn + 2)) L → (nn : Int) = 40 + 4 * ((w 0).toInt % 41) → nn ≠ dn7 ∧ rp (w37 nn) (e37 (nn + 1)) (e37 (nn + 2)) L := hL_k hL16 rn7 ro7 hb_54.1
          have sw37_0 : (w37 0).toInt = (w16 0).toInt := by36.1.1
          have sw37_1 : (w37 1).toInt = (w16 1).toInt := by36.1.2.1
          have sw37_2 : (w37 2).toInt = (w16 2).toInt := by36.1.2.2.1
          have sw37_3 : (w37 3).toInt = (w16 3).toInt := by36.1.2.2.2
          clear by36
          have km1 : (-1 : Int32).toInt = -1 := rfl
          intro m40 em_57
          try have e40 : m40.toInt = (z4_40).toInt + (-1) := by rw [em_57]; exact pm_addc _ _ (-1) rfl (by omega) (by omega)
          exact ih18 m40 w37 e37 v37 f37 hI37 hx37 hL37 hF37 hT37 hs37 (by omega) (by intro L hL hN; have hl := hL.1; have q2 := hp_54 L hL hN; have z2 := q2.2.1; have s2 := si_len (L := L) (a := 0) (b := x1.toInt) (by omega) (by omega) (by omega); have s3 := si_len (L := L) (a := z4_40.toInt + 1) (b := x2.toInt + 1) (by omega) (by omega) (by omega); have t2 := hb_54.2 L _ z4_40.toInt (z4_40.toInt + 1) q2.2 q2.1 rfl rfl (by omega) (by omega) (by omega) (by first | omega | (simp only [List.length_append, List.length_nil, List.length_cons, List.length_map, List.length_reverse, nw_len, dr_len]; omega)) (j1_40 L hL hN); rw [show m40.toInt + 1 = z4_40.toInt by omega, si_app (L := L) (a := z4_40.toInt) (m := z4_40.toInt + 1) (b := x2.toInt + 1) (by omega) (by omega) (by omega), List.reverse_append, si_r1 q2.2 (by omega) (by omega), ← List.append_assoc]; exact t2) (by omega) (by omega) (by omega) (by omega) (by omega)
    exact lp17 (x2.toInt + 1).toNat.succ x2 w13 e13 v13 f13 hI13 hx13 hL13 hF13 hT13 hs13 (by omega) (by intro L hL hN; have hl := hL.1; have q1 := hp_34 L hL hN; have z1 := q1.2.1; have t1 := hb_34.2 L ([]) (0) (x1.toInt) q1.2 q1.1 (by omega) (by omega) (by omega) (by omega) (by omega) (by first | omega | (simp only [List.length_append, List.length_nil, List.length_cons, List.length_map, List.length_reverse, nw_len, dr_len]; omega)) (rp_0 hz9); have k1 := si_len (L := L) (a := 0) (b := x1.toInt) (by omega) (by omega) (by omega); rw [List.nil_append] at t1; rw [si_n (L := L) (a := x2.toInt + 1) (b := x2.toInt + 1) (Int.le_refl _)]; show rp _ _ _ (_ ++ []); rw [List.append_nil]; exact t1) (by omega) (by omega) (by omega) (by omega) (by omega)
  · skip
    have k0 : (0 : Int32).toInt = 0 := rfl
    refine And.intro (fun c9 => absurd c9 (by decide)) (fun _ => ?_)
    have km1 : (-1 : Int32).toInt = -1 := rfl
    exact ⟨rfl, fun e9 => absurd e9 (by decide), rfl, K, nn, dn, q, w, e, v, f, rfl, hI, hs, cw_X_r, rfl, (-1 : Int32), rfl, by first | omega | (dsimp only; omega) | trivial, by refine ⟨?_, ?_, ?_⟩; (intro L hL hN; have hl := hL.1; rw [ed_turn, if_neg (by omega)]; exact ⟨hL, by show _ = _ + (0 : Int); omega, by show _ = _ + (0 : Int) * _; omega, hN, fun h8 => h8⟩); (first | (exact Or.inr hc_9) | (exact hc_9) | (exact Or.inl ⟨rfl, rfl, fun _ _ => ⟨rfl, rfl⟩⟩)); (first | (exact hq_9) | (exact Or.inr ⟨by omega, ha_9, h5_9.trans (by congr 1; exact pm_eqI (by omega))⟩) | (exact Or.inl ⟨rfl, rfl, rfl⟩))⟩

end
end
section
section
variable {l : Launch} {g : pm_G} {A0 : pm_H} {K nn dn : Nat} {q : Nat → Nat} {w : Nat → Int32} {e : Nat → Nat → Int32} {v : Nat → Int32} {f : Nat → Nat → Int32}
set_option maxRecDepth 100000 in
set_option maxHeartbeats 2000000 in
theorem U_X10_copy (hI : cw_I K nn dn q w e) (hs : cw_S v f) (x1 : Int32) (x2 : Int32) (x3 : Int32) (p0 : (w 0).toInt < 100000) : pm_Mt l g 36 4 4 485 [.ref (q 0), .int x1, .int x2, .int x3] (cw A0 g K nn dn q w e v f) (cw_Qb A0 g K nn q (fun r K2 nn2 dn2 w2 e2 => e2 15 = e 15 ∧ (∃ x : Int32, r = some (.int x) ∧ (((w2 0).toInt ≤ (w 0).toInt + 1 ∧ (w 0).toInt ≤ (w2 0).toInt ∧ (w2 3).toInt = (w 3).toInt) ∧ ((∀ L, rp (w nn) (e (nn + 1)) (e (nn + 2)) L → (nn : Int) = 40 + 4 * ((w 0).toInt % 41) → rp (w2 nn2) (e2 (nn2 + 1)) (e2 (nn2 + 2)) ((ed_copy L (w 1) x1 x2 x3).getD L) ∧ (w2 0).toInt = (w 0).toInt + edn (ed_copy L (w 1) x1 x2 x3) ∧ (w2 1).toInt = (w 1).toInt + edn (ed_copy L (w 1) x1 x2 x3) * (x2.toInt - x1.toInt + 1) ∧ (nn2 : Int) = 40 + 4 * ((w2 0).toInt % 41) ∧ (bd (w nn) (e (nn + 1)) (e (nn + 3)) → bd (w2 nn2) (e2 (nn2 + 1)) (e2 (nn2 + 3)))) ∧ (HCe K nn w e w2 e2 nn2 x) ∧ (((w2 0).toInt = (w 0).toInt ∧ x.toInt = -1 ∧ w2 2 = w 2) ∨ ((w2 0).toInt = (w 0).toInt + 1 ∧ ((nn : Int) = 40 + 4 * ((w 0).toInt % 41) → UQ (w nn).toInt (e (nn + 2)) → bd (w nn) (e (nn + 1)) (e (nn + 3)) → (∀ i : Nat, (i : Int) < (w nn).toInt → (e (nn + 2) i).toInt < (w 1).toInt) → x.toInt = (tcN (w nn).toInt (e (nn + 1)) (e (nn + 2)) (e2 (nn2 + 1)) (e2 (nn2 + 2)) (w2 nn2).toInt.toNat : Int)) ∧ w2 2 = w 2 + x))))))) := by
  refine mt_X10_copy rfl (fun J hC => ?_)
  have ro_nn : cw_ro K nn := hI.2.1.2.1
  have ro_dn : cw_ro K dn := hI.2.1.2.2.1
  have hu1 := hI.2.1
  unfold cw_W at hu1
  replace hu1 := And.intro hu1.1 (And.intro (And.intro hu1.2.1.1 hu1.2.1.2.1) (And.intro (And.intro hu1.2.2.1.1 hu1.2.2.1.2.1) (And.intro hu1.2.2.2.1 (And.intro hu1.2.2.2.2.2.1 hu1.2.2.2.2.2.2))))
  have zs2 := cw_sz hI ro_nn
  have zs3 := cw_sz hI ro_dn
  have rg_x1 := pm_rng x1
  have rg_x2 := pm_rng x2
  have rg_x3 := pm_rng x3
  refine hC.1 0 0 _ _ rfl _ _ _ _ _ ?_
  refine Exists.intro _ (And.intro (cw_o0 hI.1) ?_)
  refine Exists.intro _ (And.intro (cw_o1 hI.1) ?_)
  refine And.intro (Exists.intro _ (cw_ro_o hI.1 ro_nn)) (Exists.intro _ (Exists.intro _ (Exists.intro _ (Exists.intro _ (And.intro (c_X7_isSpan hI hs ro_nn x1 x2 ) (And.intro rfl (fun r9 A9 h9 => ?_)))))))
  rcases h9 with ⟨y4, rfl, rfl, ⟨rfl, by4⟩ | ⟨rfl, by4⟩⟩
  · skip
    have k1 : (1 : Int32).toInt = 1 := rfl
    refine And.intro (fun c9 => absurd c9 (by decide)) (fun _ => ?_)
    refine And.intro (Exists.intro _ (cw_ro_o hI.1 ro_nn)) (Exists.intro _ (Exists.intro _ (Exists.intro _ (Exists.intro _ (And.intro (c_X7_isGap hI hs ro_nn x3 ) (And.intro rfl (fun r9 A9 h9 => ?_)))))))
    rcases h9 with ⟨y6, rfl, rfl, ⟨rfl, by6⟩ | ⟨rfl, by6⟩⟩
    · skip
      refine And.intro (fun c9 => absurd c9 (by decide)) (fun _ => ?_)
      refine Exists.intro _ (And.intro (cw_o0 hI.1) ?_)
      intro m8 em_34
      try have e8 : m8.toInt = (x2).toInt - (x1).toInt := by rw [em_34]; exact pm_sub _ _ (by omega) (by omega)
      intro m9 em_36
      try have e9 : m9.toInt = (m8).toInt + (1) := by rw [em_36]; exact pm_addc _ _ (1) rfl (by omega) (by omega)
      refine And.intro (Exists.intro _ (cw_o1 hI.1)) (Exists.intro _ (Exists.intro _ (Exists.intro _ (Exists.intro _ (And.intro (c_X9_hasRoomFor hI hs m9 (by omega)) (And.intro rfl (fun r9 A9 h9 => ?_)))))))
      rcases h9 with ⟨y10, rfl, rfl, ⟨rfl, by10⟩ | ⟨rfl, by10⟩⟩
      · skip
        refine And.intro (fun _ => ?_) (fun c9 => absurd c9 (by decide))
        refine hC.1 2 45 _ _ rfl _ _ _ _ _ ?_
        refine Exists.intro _ (And.intro (cw_o0 hI.1) ?_)
        refine And.intro (Exists.intro _ (cw_o1 hI.1)) (Exists.intro _ (Exists.intro _ (Exists.intro _ (Exists.intro _ (And.intro (F_X9_begin hI hs  (by omega)) (And.intro rfl (fun r9 A9 h9 => ?_)))))))
        obtain ⟨K13, dn13, q13, w13, e13, rfl, rfl, hI13, hX13, hk13, hw13, hy13, hdn13, hfm13, hz13⟩ := h9
        have hq13_0 : q 0 = q13 0 := (hX13.2.1 0 (by omega)).symm
        have hq13_nn : q nn = q13 nn := (hX13.2.1 nn (by omega)).symm
        rw [hq13_0, hq13_nn]
        have hw13_0 := congrArg Int32.toInt hw13.1
        have hw13_1 := congrArg Int32.toInt hw13.2.1
        have hw13_3 := congrArg Int32.toInt hw13.2.2.2
        have hw13_2 := congrArg Int32.toInt hw13.2.2.1
        have ro13 : cw_ro K13 dn13 := hI13.2.1.2.2.1
        have rn13 : cw_ro K13 nn := hI13.2.1.2.1
        have hx13 : e13 15 = e 15 := hy13.trans rfl
        have hu14 := hI13.2.1
        unfold cw_W at hu14
        replace hu14 := And.intro hu14.1 (And.intro (And.intro hu14.2.1.1 hu14.2.1.2.1) (And.intro (And.intro hu14.2.2.1.1 hu14.2.2.1.2.1) (And.intro hu14.2.2.2.1 (And.intro hu14.2.2.2.2.2.1 hu14.2.2.2.2.2.2))))
        have zs15 := cw_sz hI13 rn13
        have zs16 := cw_sz hI13 ro13
        have hz9 := hz13
        have hL13 : ∀ L, rp (w nn) (e (nn + 1)) (e (nn + 2)) L → (nn : Int) = 40 + 4 * ((w 0).toInt % 41) → nn ≠ dn13 ∧ rp (w13 nn) (e13 (nn + 1)) (e13 (nn + 2)) L := hL_b ro_nn ro13 hdn13 hfm13
        have hF13 : FRO K w e w13 e13 dn13 := hfm13
        have hT13 : TQ w e nn w13 e13 f dn13 := TQ_b ro_nn ro13 hdn13 hfm13 hw13.2.1 hz13
        refine Exists.intro _ (And.intro (cw_o0 hI13.1) ?_)
        have k0 : (0 : Int32).toInt = 0 := rfl
        intro m17 em_59
        try have e17 : m17.toInt = (x3).toInt - (1) := by rw [em_59]; exact pm_subc _ _ (1) rfl (by omega) (by omega)
        have hp_60 := hL13
        refine And.intro (Exists.intro _ (cw_o1 hI13.1)) (Exists.intro _ (Exists.intro _ (Exists.intro _ (Exists.intro _ (And.intro (U_X9_keep hI13 hs (0 : Int32) m17 ) (And.intro rfl (fun r9 A9 h9 => ?_)))))))
        rcases h9 with ⟨w19, e19, v19, f19, rfl, hI19, hs19, hy19, rfl, by18⟩
        have hx19 : e19 15 = e 15 := hy19.trans hx13
        have zs20 := cw_sz hI19 rn13
        have zs21 := cw_sz hI19 ro13
        have hb_60 := by18.2.1
        have ht_60 := by18.2.2
        have hT19 : TQ w e nn w19 e19 f19 dn13 := TQ_k hT13 rn13 ro13 hb_60.1 (by omega) ht_60
        have hF19 : FRO K w e w19 e19 dn13 := FRO_s hF13 hb_60.1
        have hL19 : ∀ L, rp (w nn) (e (nn + 1)) (e (nn + 2)) L → (nn : Int) = 40 + 4 * ((w 0).toInt % 41) → nn ≠ dn13 ∧ rp (w19 nn) (e19 (nn + 1)) (e19 (nn + 2)) L := hL_k hL13 rn13 ro13 hb_60.1
        have sw19_0 : (w19 0).toInt = (w 0).toInt := by18.1.1.trans hw13_0
        have sw19_1 : (w19 1).toInt = (w 1).toInt := by18.1.2.1.trans hw13_1
        have sw19_2 : (w19 2).toInt = (w 2).toInt := by18.1.2.2.1.trans hw13_2
        have sw19_3 : (w19 3).toInt = (w 3).toInt := by18.1.2.2.2.trans hw13_3
        clear by18
        have lp23 : ∀ (n : Nat) (z5_66 : Int32) (w22 : Nat → Int32) (e22 : Nat → Nat → Int32) (v22 : Nat → Int32) (f22 : Nat → Nat → Int32), cw_I K13 nn dn13 q13 w22 e22 → e22 15 = e 15 → (∀ L, rp (w nn) (e (nn + 1)) (e (nn + 2)) L → (nn : Int) = 40 + 4 * ((w 0).toInt % 41) → nn ≠ dn13 ∧ rp (w22 nn) (e22 (nn + 1)) (e22 (nn + 2)) L) → FRO K w e w22 e22 dn13 → TQ w e nn w22 e22 f22 dn13 → cw_S v22 f22 → (x1.toInt ≤ z5_66.toInt ∧ z5_66.toInt ≤ x2.toInt + 1) → ((w22 1).toInt = (w 1).toInt + (z5_66.toInt - x1.toInt)) → (∀ L, rp (w nn) (e (nn + 1)) (e (nn + 2)) L → (nn : Int) = 40 + 4 * ((w 0).toInt % 41) → rp (w22 dn13) (e22 (dn13 + 1)) (e22 (dn13 + 2)) (si L 0 x3.toInt ++ nw_l (w 1) ((si L x1.toInt z5_66.toInt).map Prod.fst))) → ((w22 2).toInt = (w 2).toInt) → (w22 0).toInt = (w 0).toInt → (w22 3).toInt = (w 3).toInt → 200 - z5_66.toInt < (n : Int) → J 66 [some (.ref (q13 0)), some (.int x1), some (.int x2), some (.int x3), some (.ref (q13 nn)), some (.int z5_66)] [] (cw A0 g K13 nn dn13 q13 w22 e22 v22 f22) 4 485 := by
          intro n
          induction n with
          | zero =>
            intro z5_66 w22 e22 v22 f22 hI22 hx22 hL22 hF22 hT22 hs22 j0_66 j1_66 j2_66 j3_66 j4_66 j5_66 j6_66
            clear hu14 zs15 zs16 zs20 zs21 sw19_0 sw19_1 sw19_2 sw19_3
            omega
          | succ n ih24 =>
            intro z5_66 w22 e22 v22 f22 hI22 hx22 hL22 hF22 hT22 hs22 j0_66 j1_66 j2_66 j3_66 j4_66 j5_66 j6_66
            clear hu14 zs15 zs16 zs20 zs21 sw19_0 sw19_1 sw19_2 sw19_3
            obtain ⟨g66, eg66⟩ : ∃ z9, z9 = w22 1 := ⟨_, rfl⟩
            have hu25 := hI22.2.1
            unfold cw_W at hu25
            replace hu25 := And.intro hu25.1 (And.intro (And.intro hu25.2.1.1 hu25.2.1.2.1) (And.intro (And.intro hu25.2.2.1.1 hu25.2.2.1.2.1) (And.intro hu25.2.2.2.1 (And.intro hu25.2.2.2.2.2.1 hu25.2.2.2.2.2.2))))
            have zs26 := cw_sz hI22 rn13
            have zs27 := cw_sz hI22 ro13
            refine hC.1 3 66 _ _ rfl _ _ _ _ _ ?_
            refine And.intro (fun c28 => ?_) (fun c28 => ?_)
            · skip
              refine hC.1 4 93 _ _ rfl _ _ _ _ _ ?_
              refine Exists.intro _ (And.intro (cw_o0 hI22.1) ?_)
              refine Exists.intro _ (And.intro (cw_ro_o hI22.1 rn13) ?_)
              have z29 := cw_sz hI22 rn13
              intro m30 em_104
              try have e30 : m30.toInt = ((w22 nn)).toInt - (1) := by rw [em_104]; exact pm_subc _ _ (1) rfl (by omega) (by omega)
              have hp_105 := hL22
              refine And.intro (Exists.intro _ (cw_o1 hI22.1)) (Exists.intro _ (Exists.intro _ (Exists.intro _ (Exists.intro _ (And.intro (U_X9_keep hI22 hs22 x3 m30 ) (And.intro rfl (fun r9 A9 h9 => ?_)))))))
              rcases h9 with ⟨w32, e32, v32, f32, rfl, hI32, hs32, hy32, rfl, by31⟩
              have hx32 : e32 15 = e 15 := hy32.trans hx22
              have zs33 := cw_sz hI32 rn13
              have zs34 := cw_sz hI32 ro13
              have hb_105 := by31.2.1
              have ht_105 := by31.2.2
              have hT32 : TQ w e nn w32 e32 f32 dn13 := TQ_k hT22 rn13 ro13 hb_105.1 (by omega) ht_105
              have hF32 : FRO K w e w32 e32 dn13 := FRO_s hF22 hb_105.1
              have hL32 : ∀ L, rp (w nn) (e (nn + 1)) (e (nn + 2)) L → (nn : Int) = 40 + 4 * ((w 0).toInt % 41) → nn ≠ dn13 ∧ rp (w32 nn) (e32 (nn + 1)) (e32 (nn + 2)) L := hL_k hL22 rn13 ro13 hb_105.1
              have sw32_0 : (w32 0).toInt = (w22 0).toInt := by31.1.1
              have sw32_1 : (w32 1).toInt = (w22 1).toInt := by31.1.2.1
              have sw32_2 : (w32 2).toInt = (w22 2).toInt := by31.1.2.2.1
              have sw32_3 : (w32 3).toInt = (w22 3).toInt := by31.1.2.2.2
              clear by31
              refine Exists.intro _ (And.intro (cw_o0 hI32.1) ?_)
              have hp_112 := hL32
              refine And.intro (Exists.intro _ (cw_o1 hI32.1)) (Exists.intro _ (Exists.intro _ (Exists.intro _ (Exists.intro _ (And.intro (U_X9_finish hI32 hs32  (by omega) (by omega)) (And.intro rfl (fun r9 A9 h9 => ?_)))))))
              rcases h9 with ⟨w36, e36, v36, f36, rfl, hI36, hs36, hy36, y35, rfl, by35⟩
              have hx36 : e36 15 = e 15 := hy36.trans hx32
              have hu37 := hI36.2.1.2.2.2.1
              have hu38 := hI36.2.1.2.2.2.2.1
              clear zs33 zs34
              have zs39 := cw_sz hI36 ro13
              have zs40 := cw_sz hI36 ro13
              have hb_112 := by35.2.1
              have ht_112 := by35.2.2.1.1
              have h5_9 := by35.2.2.1.2
              have ha_9 := fun h1 h2 h3 h4 => by35.2.2.2 _ _ _ h2 (hT32 h1 h2 h3 h4).2.2.2.2.2.2
              have hF36 : FRO K w e w36 e36 dn13 := FRO_s hF32 hb_112.1
              have hc_9 : HCn K w e w36 e36 dn13 y35 := ⟨by omega, hF36, ht_112⟩
              have sw36_1 : (w36 1).toInt = (w22 1).toInt := by35.1.1.trans sw32_1
              have sw36_3 : (w36 3).toInt = (w22 3).toInt := by35.1.2.1.trans sw32_3
              have sp36 := by35.1.2.2
              clear by35 sw32_1 sw32_3
              exact ⟨rfl, fun e9 => absurd e9 (by decide), rfl, K13, dn13, dn13, q13, w36, e36, v36, f36, rfl, hI36, hs36, hX13, hx36, y35, rfl, by first | omega | (dsimp only; omega) | trivial, by refine ⟨?_, ?_, ?_⟩; (intro L hL hN; have hl := hL.1; rw [ed_copy, if_pos (by omega)]; have t2 := j2_66 L hL hN; rw [show z5_66.toInt = x2.toInt + 1 by omega] at t2; have s1 := si_len (L := L) (a := 0) (b := x3.toInt) (by omega) (by omega) (by omega); have s2 := si_len (L := L) (a := x1.toInt) (b := x2.toInt + 1) (by omega) (by omega) (by omega); have q3 := hp_105 L hL hN; have z3 := q3.2.1; have t3 := hb_105.2 L (_) (x3.toInt) (L.length) q3.2 q3.1 (by omega) (by omega) (by omega) (by omega) (by omega) (by first | omega | (simp only [List.length_append, List.length_nil, List.length_cons, List.length_map, List.length_reverse, nw_len, dr_len]; omega)) t2; have k3 := si_len (L := L) (a := x3.toInt) (b := L.length) (by omega) (by omega) (by omega); exact ⟨hb_112.2.1 _ t3, by show _ = _ + (1 : Int); omega, by show _ = _ + (1 : Int) * _; omega, by omega, fun _ => hb_112.2.2⟩); (first | (exact Or.inr hc_9) | (exact hc_9) | (exact Or.inl ⟨rfl, rfl, fun _ _ => ⟨rfl, rfl⟩⟩)); (first | (exact hq_9) | (exact Or.inr ⟨by omega, ha_9, h5_9.trans (by congr 1; exact pm_eqI (by omega))⟩) | (exact Or.inl ⟨rfl, rfl, rfl⟩))⟩
            · skip
              refine Exists.intro _ (And.intro (cw_o0 hI22.1) ?_)
              refine Exists.intro _ (And.intro (cw_ro_o hI22.1 rn13) ?_)
              refine Exists.intro _ (Exists.intro _ (And.intro (Or.inl (cw_ro_1 hI22.1 rn13)) (And.intro (by omega) ?_)))
              have w41 := cw_col hI22 rn13 (z5_66).toInt.toNat
              have hp_84 := hL22
              refine And.intro (Exists.intro _ (cw_o1 hI22.1)) (Exists.intro _ (Exists.intro _ (Exists.intro _ (Exists.intro _ (And.intro (U_X9_add hI22 hs22 (e22 (nn + 1) (z5_66).toInt.toNat) (by omega) (by omega)) (And.intro rfl (fun r9 A9 h9 => ?_)))))))
              rcases h9 with ⟨w43, e43, v43, f43, rfl, hI43, hs43, hy43, rfl, by42⟩
              have hx43 : e43 15 = e 15 := hy43.trans hx22
              have hu44 := hI43.2.1.2.2.2.2.2.1
              have zs45 := cw_sz hI43 rn13
              have zs46 := cw_sz hI43 ro13
              have hb_84 := by42.2.1
              have ht_84 := by42.2.2
              have hT43 : TQ w e nn w43 e43 f43 dn13 := TQ_a hT22 rn13 ro13 hb_84.1 (by omega) ht_84
              have hF43 : FRO K w e w43 e43 dn13 := FRO_s hF22 hb_84.1
              have hL43 : ∀ L, rp (w nn) (e (nn + 1)) (e (nn + 2)) L → (nn : Int) = 40 + 4 * ((w 0).toInt % 41) → nn ≠ dn13 ∧ rp (w43 nn) (e43 (nn + 1)) (e43 (nn + 2)) L := hL_k hL22 rn13 ro13 hb_84.1
              have sw43_0 : (w43 0).toInt = (w22 0).toInt := by42.1.1
              have sw43_2 : (w43 2).toInt = (w22 2).toInt := by42.1.2.1
              have sw43_3 : (w43 3).toInt = (w22 3).toInt := by42.1.2.2.1
              have sp43 := by42.1.2.2.2
              clear by42
              intro m47 em_87
              try have e47 : m47.toInt = (z5_66).toInt + (1) := by rw [em_87]; exact pm_addc _ _ (1) rfl (by omega) (by omega)
              exact ih24 m47 w43 e43 v43 f43 hI43 hx43 hL43 hF43 hT43 hs43 (by omega) (by omega) (by intro L hL hN; have hl := hL.1; have q2 := hp_84 L hL hN; have z2 := q2.2.1; have s2 := si_len (L := L) (a := 0) (b := x3.toInt) (by omega) (by omega) (by omega); have s3 := si_len (L := L) (a := x1.toInt) (b := z5_66.toInt) (by omega) (by omega) (by omega); have t2 := hb_84.2 _ (j2_66 L hL hN) (by first | omega | (simp only [List.length_append, List.length_nil, List.length_cons, List.length_map, List.length_reverse, nw_len, dr_len]; omega)); rw [← eg66] at t2; rw [show m47.toInt = z5_66.toInt + 1 by omega, si_s q2.2 (a := x1.toInt) (z := z5_66.toInt) (by omega) (by omega) (by omega), List.map_append, List.map_cons, List.map_nil, nw_app (g2 := g66) (by rw [eg66, List.length_map]; omega) (by rw [List.length_map]; omega), ← List.append_assoc]; exact t2) (by omega) (by omega) (by omega) (by omega)
        exact lp23 (200 - x1.toInt).toNat.succ x1 w19 e19 v19 f19 hI19 hx19 hL19 hF19 hT19 hs19 (by omega) (by omega) (by intro L hL hN; have hl := hL.1; have q1 := hp_60 L hL hN; have z1 := q1.2.1; have t1 := hb_60.2 L ([]) (0) (x3.toInt) q1.2 q1.1 (by omega) (by omega) (by omega) (by omega) (by omega) (by first | omega | (simp only [List.length_append, List.length_nil, List.length_cons, List.length_map, List.length_reverse, nw_len, dr_len]; omega)) (rp_0 hz9); have k1 := si_len (L := L) (a := 0) (b := x3.toInt) (by omega) (by omega) (by omega); rw [List.nil_append] at t1; rw [si_n (L := L) (a := x1.toInt) (b := x1.toInt) (Int.le_refl _)]; show rp _ _ _ (_ ++ []); rw [List.append_nil]; exact t1) (by omega) (by omega) (by omega) (by omega)
      · skip
        have k0 : (0 : Int32).toInt = 0 := rfl
        refine And.intro (fun c9 => absurd c9 (by decide)) (fun _ => ?_)
        refine hC.1 1 43 _ _ rfl _ _ _ _ _ ?_
        have km1 : (-1 : Int32).toInt = -1 := rfl
        exact ⟨rfl, fun e9 => absurd e9 (by decide), rfl, K, nn, dn, q, w, e, v, f, rfl, hI, hs, cw_X_r, rfl, (-1 : Int32), rfl, by first | omega | (dsimp only; omega) | trivial, by refine ⟨?_, ?_, ?_⟩; (intro L hL hN; have hl := hL.1; rw [ed_copy, if_neg (by omega)]; exact ⟨hL, by show _ = _ + (0 : Int); omega, by show _ = _ + (0 : Int) * _; omega, hN, fun h8 => h8⟩); (first | (exact Or.inr hc_9) | (exact hc_9) | (exact Or.inl ⟨rfl, rfl, fun _ _ => ⟨rfl, rfl⟩⟩)); (first | (exact hq_9) | (exact Or.inr ⟨by omega, ha_9, h5_9.trans (by congr 1; exact pm_eqI (by omega))⟩) | (exact Or.inl ⟨rfl, rfl, rfl⟩))⟩
    · skip
      have k0 : (0 : Int32).toInt = 0 := rfl
      refine And.intro (fun _ => ?_) (fun c9 => absurd c9 (by decide))
      refine hC.1 1 43 _ _ rfl _ _ _ _ _ ?_
      have km1 : (-1 : Int32).toInt = -1 := rfl
      exact ⟨rfl, fun e9 => absurd e9 (by decide), rfl, K, nn, dn, q, w, e, v, f, rfl, hI, hs, cw_X_r, rfl, (-1 : Int32), rfl, by first | omega | (dsimp only; omega) | trivial, by refine ⟨?_, ?_, ?_⟩; (intro L hL hN; have hl := hL.1; rw [ed_copy, if_neg (by omega)]; exact ⟨hL, by show _ = _ + (0 : Int); omega, by show _ = _ + (0 : Int) * _; omega, hN, fun h8 => h8⟩); (first | (exact Or.inr hc_9) | (exact hc_9) | (exact Or.inl ⟨rfl, rfl, fun _ _ => ⟨rfl, rfl⟩⟩)); (first | (exact hq_9) | (exact Or.inr ⟨by omega, ha_9, h5_9.trans (by congr 1; exact pm_eqI (by omega))⟩) | (exact Or.inl ⟨rfl, rfl, rfl⟩))⟩
  · skip
    have k0 : (0 : Int32).toInt = 0 := rfl
    refine And.intro (fun _ => ?_) (fun c9 => absurd c9 (by decide))
    refine hC.1 1 43 _ _ rfl _ _ _ _ _ ?_
    have km1 : (-1 : Int32).toInt = -1 := rfl
    exact ⟨rfl, fun e9 => absurd e9 (by decide), rfl, K, nn, dn, q, w, e, v, f, rfl, hI, hs, cw_X_r, rfl, (-1 : Int32), rfl, by first | omega | (dsimp only; omega) | trivial, by refine ⟨?_, ?_, ?_⟩; (intro L hL hN; have hl := hL.1; rw [ed_copy, if_neg (by omega)]; exact ⟨hL, by show _ = _ + (0 : Int); omega, by show _ = _ + (0 : Int) * _; omega, hN, fun h8 => h8⟩); (first | (exact Or.inr hc_9) | (exact hc_9) | (exact Or.inl ⟨rfl, rfl, fun _ _ => ⟨rfl, rfl⟩⟩)); (first | (exact hq_9) | (exact Or.inr ⟨by omega, ha_9, h5_9.trans (by congr 1; exact pm_eqI (by omega))⟩) | (exact Or.inl ⟨rfl, rfl, rfl⟩))⟩

set_option maxRecDepth 100000 in
set_option maxHeartbeats 2000000 in
theorem U_X10_merge (hI : cw_I K nn dn q w e) (hs : cw_S v f) (x1 : Int32) (x2 : Int32) (p0 : (w 0).toInt < 100000) : pm_Mt l g 37 4 4 485 [.ref (q 0), .int x1, .int x2] (cw A0 g K nn dn q w e v f) (cw_Qb A0 g K nn q (fun r K2 nn2 dn2 w2 e2 => e2 15 = e 15 ∧ (∃ x : Int32, r = some (.int x) ∧ (((w2 0).toInt ≤ (w 0).toInt + 1 ∧ (w 0).toInt ≤ (w2 0).toInt ∧ (w2 3).toInt = (w 3).toInt) ∧ ((∀ L, rp (w nn) (e (nn + 1)) (e (nn + 2)) L → (nn : Int) = 40 + 4 * ((w 0).toInt % 41) → rp (w2 nn2) (e2 (nn2 + 1)) (e2 (nn2 + 2)) ((ed_merge L x1 x2).getD L) ∧ (w2 0).toInt = (w 0).toInt + edn (ed_merge L x1 x2) ∧ (w2 1).toInt = (w 1).toInt + edn (ed_merge L x1 x2) * (0) ∧ (nn2 : Int) = 40 + 4 * ((w2 0).toInt % 41) ∧ (bd (w nn) (e (nn + 1)) (e (nn + 3)) → bd (w2 nn2) (e2 (nn2 + 1)) (e2 (nn2 + 3)))) ∧ (HCe K nn w e w2 e2 nn2 x) ∧ (((w2 0).toInt = (w 0).toInt ∧ x.toInt = -1 ∧ w2 2 = w 2) ∨ ((w2 0).toInt = (w 0).toInt + 1 ∧ ((nn : Int) = 40 + 4 * ((w 0).toInt % 41) → UQ (w nn).toInt (e (nn + 2)) → bd (w nn) (e (nn + 1)) (e (nn + 3)) → (∀ i : Nat, (i : Int) < (w nn).toInt → (e (nn + 2) i).toInt < (w 1).toInt) → x.toInt = (tcN (w nn).toInt (e (nn + 1)) (e (nn + 2)) (e2 (nn2 + 1)) (e2 (nn2 + 2)) (w2 nn2).toInt.toNat : Int)) ∧ w2 2 = w 2 + x))))))) := by
  refine mt_X10_merge rfl (fun J hC => ?_)
  have ro_nn : cw_ro K nn := hI.2.1.2.1
  have ro_dn : cw_ro K dn := hI.2.1.2.2.1
  have hu1 := hI.2.1
  unfold cw_W at hu1
  replace hu1 := And.intro hu1.1 (And.intro (And.intro hu1.2.1.1 hu1.2.1.2.1) (And.intro (And.intro hu1.2.2.1.1 hu1.2.2.1.2.1) (And.intro hu1.2.2.2.1 (And.intro hu1.2.2.2.2.2.1 hu1.2.2.2.2.2.2))))
  have zs2 := cw_sz hI ro_nn
  have zs3 := cw_sz hI ro_dn
  have rg_x1 := pm_rng x1
  have rg_x2 := pm_rng x2
  refine hC.1 0 0 _ _ rfl _ _ _ _ _ ?_
  refine Exists.intro _ (Exists.intro _ (Exists.intro _ (Exists.intro _ (And.intro (F_X10_areUnlikeColours (cw A0 g K nn dn q w e v f) x1 x2 ) (And.intro rfl (fun r9 A9 h9 => ?_))))))
  rcases h9 with ⟨y4, rfl, rfl, ⟨rfl, by4⟩ | ⟨rfl, by4⟩⟩
  · skip
    have k1 : (1 : Int32).toInt = 1 := rfl
    refine And.intro (fun _ => ?_) (fun c9 => absurd c9 (by decide))
    refine hC.1 1 10 _ _ rfl _ _ _ _ _ ?_
    refine Exists.intro _ (And.intro (cw_o0 hI.1) ?_)
    refine Exists.intro _ (And.intro (cw_o1 hI.1) ?_)
    refine Exists.intro _ (And.intro (cw_o0 hI.1) ?_)
    refine And.intro (Exists.intro _ (cw_o1 hI.1)) (Exists.intro _ (Exists.intro _ (Exists.intro _ (Exists.intro _ (And.intro (F_X9_begin hI hs  (by omega)) (And.intro rfl (fun r9 A9 h9 => ?_)))))))
    obtain ⟨K7, dn7, q7, w7, e7, rfl, rfl, hI7, hX7, hk7, hw7, hy7, hdn7, hfm7, hz7⟩ := h9
    have hq7_0 : q 0 = q7 0 := (hX7.2.1 0 (by omega)).symm
    have hq7_nn : q nn = q7 nn := (hX7.2.1 nn (by omega)).symm
    rw [hq7_0, hq7_nn]
    have hw7_0 := congrArg Int32.toInt hw7.1
    have hw7_1 := congrArg Int32.toInt hw7.2.1
    have hw7_3 := congrArg Int32.toInt hw7.2.2.2
    have hw7_2 := congrArg Int32.toInt hw7.2.2.1
    have ro7 : cw_ro K7 dn7 := hI7.2.1.2.2.1
    have rn7 : cw_ro K7 nn := hI7.2.1.2.1
    have hx7 : e7 15 = e 15 := hy7.trans rfl
    have hu8 := hI7.2.1
    unfold cw_W at hu8
    replace hu8 := And.intro hu8.1 (And.intro (And.intro hu8.2.1.1 hu8.2.1.2.1) (And.intro (And.intro hu8.2.2.1.1 hu8.2.2.1.2.1) (And.intro hu8.2.2.2.1 (And.intro hu8.2.2.2.2.2.1 hu8.2.2.2.2.2.2))))
    have zs9 := cw_sz hI7 rn7
    have zs10 := cw_sz hI7 ro7
    have hz9 := hz7
    have hL7 : ∀ L, rp (w nn) (e (nn + 1)) (e (nn + 2)) L → (nn : Int) = 40 + 4 * ((w 0).toInt % 41) → nn ≠ dn7 ∧ rp (w7 nn) (e7 (nn + 1)) (e7 (nn + 2)) L := hL_b ro_nn ro7 hdn7 hfm7
    have hF7 : FRO K w e w7 e7 dn7 := hfm7
    have hT7 : TQ w e nn w7 e7 f dn7 := TQ_b ro_nn ro7 hdn7 hfm7 hw7.2.1 hz7
    have k0 : (0 : Int32).toInt = 0 := rfl
    have lp12 : ∀ (n : Nat) (z4_28 : Int32) (w11 : Nat → Int32) (e11 : Nat → Nat → Int32) (v11 : Nat → Int32) (f11 : Nat → Nat → Int32), cw_I K7 nn dn7 q7 w11 e11 → e11 15 = e 15 → (∀ L, rp (w nn) (e (nn + 1)) (e (nn + 2)) L → (nn : Int) = 40 + 4 * ((w 0).toInt % 41) → nn ≠ dn7 ∧ rp (w11 nn) (e11 (nn + 1)) (e11 (nn + 2)) L) → FRO K w e w11 e11 dn7 → TQ w e nn w11 e11 f11 dn7 → cw_S v11 f11 → (0 ≤ z4_28.toInt ∧ z4_28.toInt ≤ 160) → (∀ L, rp (w nn) (e (nn + 1)) (e (nn + 2)) L → (nn : Int) = 40 + 4 * ((w 0).toInt % 41) → rp (w11 dn7) (e11 (dn7 + 1)) (e11 (dn7 + 2)) ((si L 0 z4_28.toInt).map (fun p => (if p.1 = x1 then x2 else p.1, p.2)))) → (∀ L, rp (w nn) (e (nn + 1)) (e (nn + 2)) L → (nn : Int) = 40 + 4 * ((w 0).toInt % 41) → z4_28.toInt ≤ (L.length : Int)) → ((w11 2).toInt = (w 2).toInt) → (w11 0).toInt = (w 0).toInt → (w11 1).toInt = (w 1).toInt → (w11 3).toInt = (w 3).toInt → 200 - z4_28.toInt < (n : Int) → J 28 [some (.ref (q7 0)), some (.int x1), some (.int x2), some (.ref (q7 nn)), some (.int z4_28)] [] (cw A0 g K7 nn dn7 q7 w11 e11 v11 f11) 4 485 := by
      intro n
      induction n with
      | zero =>
        intro z4_28 w11 e11 v11 f11 hI11 hx11 hL11 hF11 hT11 hs11 j0_28 j1_28 j2_28 j3_28 j4_28 j5_28 j6_28 j7_28
        clear hu8 zs9 zs10
        omega
      | succ n ih13 =>
        intro z4_28 w11 e11 v11 f11 hI11 hx11 hL11 hF11 hT11 hs11 j0_28 j1_28 j2_28 j3_28 j4_28 j5_28 j6_28 j7_28
        clear hu8 zs9 zs10
        have lh9 := hL11
        have hu14 := hI11.2.1
        unfold cw_W at hu14
        replace hu14 := And.intro hu14.1 (And.intro (And.intro hu14.2.1.1 hu14.2.1.2.1) (And.intro (And.intro hu14.2.2.1.1 hu14.2.2.1.2.1) (And.intro hu14.2.2.2.1 (And.intro hu14.2.2.2.2.2.1 hu14.2.2.2.2.2.2))))
        have zs15 := cw_sz hI11 rn7
        have zs16 := cw_sz hI11 ro7
        refine hC.1 2 28 _ _ rfl _ _ _ _ _ ?_
        refine Exists.intro _ (And.intro (cw_ro_o hI11.1 rn7) ?_)
        have z17 := cw_sz hI11 rn7
        refine And.intro (fun c18 => ?_) (fun c18 => ?_)
        · skip
          refine hC.1 5 74 _ _ rfl _ _ _ _ _ ?_
          refine Exists.intro _ (And.intro (cw_o0 hI11.1) ?_)
          have hp_78 := hL11
          refine And.intro (Exists.intro _ (cw_o1 hI11.1)) (Exists.intro _ (Exists.intro _ (Exists.intro _ (Exists.intro _ (And.intro (U_X9_finish hI11 hs11  (by omega) (by omega)) (And.intro rfl (fun r9 A9 h9 => ?_)))))))
          rcases h9 with ⟨w20, e20, v20, f20, rfl, hI20, hs20, hy20, y19, rfl, by19⟩
          have hx20 : e20 15 = e 15 := hy20.trans hx11
          have hu21 := hI20.2.1.2.2.2.1
          have hu22 := hI20.2.1.2.2.2.2.1
          have zs23 := cw_sz hI20 ro7
          have zs24 := cw_sz hI20 ro7
          have hb_78 := by19.2.1
          have ht_78 := by19.2.2.1.1
          have h5_9 := by19.2.2.1.2
          have ha_9 := fun h1 h2 h3 h4 => by19.2.2.2 _ _ _ h2 (hT11 h1 h2 h3 h4).2.2.2.2.2.2
          have hF20 : FRO K w e w20 e20 dn7 := FRO_s hF11 hb_78.1
          have hc_9 : HCn K w e w20 e20 dn7 y19 := ⟨by omega, hF20, ht_78⟩
          have sw20_1 : (w20 1).toInt = (w11 1).toInt := by19.1.1
          have sw20_3 : (w20 3).toInt = (w11 3).toInt := by19.1.2.1
          have sp20 := by19.1.2.2
          clear by19
          exact ⟨rfl, fun e9 => absurd e9 (by decide), rfl, K7, dn7, dn7, q7, w20, e20, v20, f20, rfl, hI20, hs20, hX7, hx20, y19, rfl, by first | omega | (dsimp only; omega) | trivial, by refine ⟨?_, ?_, ?_⟩; (intro L hL hN; have hl := hL.1; rw [ed_merge, if_pos (by omega)]; have t2 := j1_28 L hL hN; have h8 := (lh9 L hL hN).2.1; have h7 := j2_28 L hL hN; rw [show z4_28.toInt = (L.length : Int) by omega, si_all] at t2; exact ⟨hb_78.2.1 _ t2, by show _ = _ + (1 : Int); omega, by show _ = _ + (1 : Int) * _; omega, by omega, fun _ => hb_78.2.2⟩); (first | (exact Or.inr hc_9) | (exact hc_9) | (exact Or.inl ⟨rfl, rfl, fun _ _ => ⟨rfl, rfl⟩⟩)); (first | (exact hq_9) | (exact Or.inr ⟨by omega, ha_9, h5_9.trans (by congr 1; exact pm_eqI (by omega))⟩) | (exact Or.inl ⟨rfl, rfl, rfl⟩))⟩
        · skip
          refine Exists.intro _ (And.intro (cw_o0 hI11.1) ?_)
          refine Exists.intro _ (And.intro (cw_ro_o hI11.1 rn7) ?_)
          refine Exists.intro _ (Exists.intro _ (And.intro (Or.inl (cw_ro_1 hI11.1 rn7)) (And.intro (by omega) ?_)))
          have w25 := cw_col hI11 rn7 (z4_28).toInt.toNat
          refine And.intro (fun c26 => ?_) (fun c26 => ?_)
          · skip
            have dc26 := pm_neI c26
            refine hC.1 3 58 _ _ rfl _ _ _ _ _ ?_
            refine Exists.intro _ (And.intro (cw_ro_o hI11.1 rn7) ?_)
            refine Exists.intro _ (Exists.intro _ (And.intro (Or.inl (cw_ro_1 hI11.1 rn7)) (And.intro (by omega) ?_)))
            have w27 := cw_col hI11 rn7 (z4_28).toInt.toNat
            refine hC.1 4 65 _ _ rfl _ _ _ _ _ ?_
            have hp_65 := hL11
            refine And.intro (Exists.intro _ (cw_o1 hI11.1)) (Exists.intro _ (Exists.intro _ (Exists.intro _ (Exists.intro _ (And.intro (U_X9_keepAs hI11 hs11 z4_28 (e11 (nn + 1) (z4_28).toInt.toNat) (by omega)) (And.intro rfl (fun r9 A9 h9 => ?_)))))))
            rcases h9 with ⟨w29, e29, v29, f29, rfl, hI29, hs29, hy29, rfl, by28⟩
            have hx29 : e29 15 = e 15 := hy29.trans hx11
            have zs30 := cw_sz hI29 rn7
            have zs31 := cw_sz hI29 ro7
            have hb_65 := by28.2.1
            have ht_65 := by28.2.2
            have hT29 : TQ w e nn w29 e29 f29 dn7 := TQ_k hT11 rn7 ro7 hb_65.1 (by omega) ht_65
            have hF29 : FRO K w e w29 e29 dn7 := FRO_s hF11 hb_65.1
            have hL29 : ∀ L, rp (w nn) (e (nn + 1)) (e (nn + 2)) L → (nn : Int) = 40 + 4 * ((w 0).toInt % 41) → nn ≠ dn7 ∧ rp (w29 nn) (e29 (nn + 1)) (e29 (nn + 2)) L := hL_k hL11 rn7 ro7 hb_65.1
            have sw29_0 : (w29 0).toInt = (w11 0).toInt := by28.1.1
            have sw29_1 : (w29 1).toInt = (w11 1).toInt := by28.1.2.1
            have sw29_2 : (w29 2).toInt = (w11 2).toInt := by28.1.2.2.1
            have sw29_3 : (w29 3).toInt = (w11 3).toInt := by28.1.2.2.2
            clear by28
            intro m32 em_68
            try have e32 : m32.toInt = (z4_28).toInt + (1) := by rw [em_68]; exact pm_addc _ _ (1) rfl (by omega) (by omega)
            exact ih13 m32 w29 e29 v29 f29 hI29 hx29 hL29 hF29 hT29 hs29 (by omega) (by intro L hL hN; have hl := hL.1; have q2 := hp_65 L hL hN; have z2 := q2.2.1; have s2 := si_len (L := L) (a := 0) (b := z4_28.toInt) (by omega) (by omega) (by omega); have t2 := hb_65.2 L _ q2.2 q2.1 (by omega) (by omega) (by first | omega | (simp only [List.length_append, List.length_nil, List.length_cons, List.length_map, List.length_reverse, nw_len, dr_len]; omega)) (j1_28 L hL hN); rw [show m32.toInt = z4_28.toInt + 1 by omega, si_s q2.2 (a := 0) (z := z4_28.toInt) (by omega) (by omega) (by omega), List.map_append, List.map_cons, List.map_nil]; first | (rw [if_pos (by assumption)]; exact t2) | (rw [if_neg (by assumption)]; exact t2)) (by intro L hL hN; have h8 := (lh9 L hL hN).2.1; omega) (by omega) (by omega) (by omega) (by omega) (by omega)
          · skip
            have dc26 : ((e11 (nn + 1) (z4_28).toInt.toNat)).toInt = (x1 : Int32).toInt := congrArg Int32.toInt c26
            refine hC.1 4 65 _ _ rfl _ _ _ _ _ ?_
            have hp_65 := hL11
            refine And.intro (Exists.intro _ (cw_o1 hI11.1)) (Exists.intro _ (Exists.intro _ (Exists.intro _ (Exists.intro _ (And.intro (U_X9_keepAs hI11 hs11 z4_28 x2 (by omega)) (And.intro rfl (fun r9 A9 h9 => ?_)))))))
            rcases h9 with ⟨w34, e34, v34, f34, rfl, hI34, hs34, hy34, rfl, by33⟩
            have hx34 : e34 15 = e 15 := hy34.trans hx11
            have zs35 := cw_sz hI34 rn7
            have zs36 := cw_sz hI34 ro7
            have hb_65 := by33.2.1
            have ht_65 := by33.2.2
            have hT34 : TQ w e nn w34 e34 f34 dn7 := TQ_k hT11 rn7 ro7 hb_65.1 (by omega) ht_65
            have hF34 : FRO K w e w34 e34 dn7 := FRO_s hF11 hb_65.1
            have hL34 : ∀ L, rp (w nn) (e (nn + 1)) (e (nn + 2)) L → (nn : Int) = 40 + 4 * ((w 0).toInt % 41) → nn ≠ dn7 ∧ rp (w34 nn) (e34 (nn + 1)) (e34 (nn + 2)) L := hL_k hL11 rn7 ro7 hb_65.1
            have sw34_0 : (w34 0).toInt = (w11 0).toInt := by33.1.1
            have sw34_1 : (w34 1).toInt = (w11 1).toInt := by33.1.2.1
            have sw34_2 : (w34 2).toInt = (w11 2).toInt := by33.1.2.2.1
            have sw34_3 : (w34 3).toInt = (w11 3).toInt := by33.1.2.2.2
            clear by33
            intro m37 em_68
            try have e37 : m37.toInt = (z4_28).toInt + (1) := by rw [em_68]; exact pm_addc _ _ (1) rfl (by omega) (by omega)
            exact ih13 m37 w34 e34 v34 f34 hI34 hx34 hL34 hF34 hT34 hs34 (by omega) (by intro L hL hN; have hl := hL.1; have q2 := hp_65 L hL hN; have z2 := q2.2.1; have s2 := si_len (L := L) (a := 0) (b := z4_28.toInt) (by omega) (by omega) (by omega); have t2 := hb_65.2 L _ q2.2 q2.1 (by omega) (by omega) (by first | omega | (simp only [List.length_append, List.length_nil, List.length_cons, List.length_map, List.length_reverse, nw_len, dr_len]; omega)) (j1_28 L hL hN); rw [show m37.toInt = z4_28.toInt + 1 by omega, si_s q2.2 (a := 0) (z := z4_28.toInt) (by omega) (by omega) (by omega), List.map_append, List.map_cons, List.map_nil]; first | (rw [if_pos (by assumption)]; exact t2) | (rw [if_neg (by assumption)]; exact t2)) (by intro L hL hN; have h8 := (lh9 L hL hN).2.1; omega) (by omega) (by omega) (by omega) (by omega) (by omega)
    exact lp12 (200 - (0 : Int32).toInt).toNat.succ (0 : Int32) w7 e7 v f hI7 hx7 hL7 hF7 hT7 hs (by omega) (by intro L hL hN; have hl := hL.1; rw [si_n (L := L) (a := 0) (b := (0 : Int32).toInt) (by decide)]; exact rp_0 hz9) (by intro L hL hN; have := hL.1; omega) (by omega) (by omega) (by omega) (by omega) (by omega)
  · skip
    have k0 : (0 : Int32).toInt = 0 := rfl
    refine And.intro (fun c9 => absurd c9 (by decide)) (fun _ => ?_)
    have km1 : (-1 : Int32).toInt = -1 := rfl
    exact ⟨rfl, fun e9 => absurd e9 (by decide), rfl, K, nn, dn, q, w, e, v, f, rfl, hI, hs, cw_X_r, rfl, (-1 : Int32), rfl, by first | omega | (dsimp only; omega) | trivial, by refine ⟨?_, ?_, ?_⟩; (intro L hL hN; have hl := hL.1; rw [ed_merge, if_neg (by omega)]; exact ⟨hL, by show _ = _ + (0 : Int); omega, by show _ = _ + (0 : Int) * _; omega, hN, fun h8 => h8⟩); (first | (exact Or.inr hc_9) | (exact hc_9) | (exact Or.inl ⟨rfl, rfl, fun _ _ => ⟨rfl, rfl⟩⟩)); (first | (exact hq_9) | (exact Or.inr ⟨by omega, ha_9, h5_9.trans (by congr 1; exact pm_eqI (by omega))⟩) | (exact Or.inl ⟨rfl, rfl, rfl⟩))⟩

end
end
