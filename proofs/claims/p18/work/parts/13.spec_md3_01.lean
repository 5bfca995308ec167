section
variable {l : Launch} {g : pm_G} {A0 : pm_H} {h : Nat} {q : Nat → Nat}
set_option maxRecDepth 100000 in
set_option maxHeartbeats 2000000 in
theorem c_X11_recolours (D : md_D h q) (v : Nat → Int32) (f : Nat → Nat → Int32) (hv : md_V v) (hf : md_F f) (x1 : Int32) (x2 : Int32) (x3 : Int32) (x4 : Int32) (x5 : Int32) (p0 : (v 4).toInt < 100000) (p1 : -1 ≤ x3.toInt ∧ x3.toInt ≤ 23) (p2 : 0 ≤ x4.toInt ∧ x4.toInt ≤ 23) : pm_Mt l g 171 4 0 0 [.ref h, .int x1, .int x2, .int x3, .int x4, .int x5] (md A0 g h q v f) (md_Qw A0 g h q f (fun r v2 f2 => (v2 3).toInt = (v 3).toInt ∧ (v2 6).toInt = (v 6).toInt ∧ (v2 4).toInt ≤ (v 4).toInt + 1 ∧ (v 4).toInt ≤ (v2 4).toInt)) := by
  refine mt_X11_recolours rfl (fun J hC => ?_)
  have hv9 := hv
  unfold md_V at hv9
  have rg_x1 := pm_rng x1
  have rg_x2 := pm_rng x2
  have rg_x3 := pm_rng x3
  have rg_x4 := pm_rng x4
  have rg_x5 := pm_rng x5
  refine hC.1 0 0 _ _ rfl _ _ _ _ _ ?_
  refine And.intro (Exists.intro _ md_o) (Exists.intro _ (Exists.intro _ (Exists.intro _ (Exists.intro _ (And.intro (c_X11_begins D v f hv hf  ) (And.intro rfl (fun r9 A9 h9 => ?_)))))))
  obtain ⟨v2, f2, rfl, rfl, hv2, hf2, hx2, hg2_0, by1⟩ := h9
  have hw2 : f2 2 = f 2 := hx2.trans rfl
  have hu3 := hv2
  unfold md_V at hu3
  have k0 : (0 : Int32).toInt = 0 := rfl
  have lp5 : ∀ (n : Nat) (z6_7 : Int32) (v4 : Nat → Int32) (f4 : Nat → Nat → Int32), md_V v4 → md_F f4 → f4 2 = f 2 → 0 ≤ z6_7.toInt ∧ z6_7.toInt ≤ (v 0).toInt → (v4 0).toInt = (v 0).toInt ∧ (v4 4).toInt = (v 4).toInt ∧ (v4 2).toInt = z6_7.toInt → (v4 3).toInt = (v 3).toInt → (v4 6).toInt = (v 6).toInt → 200 - z6_7.toInt < (n : Int) → J 7 [some (.ref h), some (.int x1), some (.int x2), some (.int x3), some (.int x4), some (.int x5), some (.int z6_7), none, none, none] [] (md A0 g h q v4 f4) 0 0 := by
    intro n
    induction n with
    | zero =>
      intro z6_7 v4 f4 hv4 hf4 hw4 j0_7 j1_7 j2_7 j3_7 j4_7
      omega
    | succ n ih6 =>
      intro z6_7 v4 f4 hv4 hf4 hw4 j0_7 j1_7 j2_7 j3_7 j4_7
      refine hC.1 1 7 _ _ rfl _ _ _ _ _ ?_
      have hu7 := hv4
      unfold md_V at hu7
      refine Exists.intro _ (And.intro md_o ?_)
      refine And.intro (fun c8 => ?_) (fun c8 => ?_)
      · skip
        refine hC.1 7 99 _ _ rfl _ _ _ _ _ ?_
        refine And.intro (Exists.intro _ md_o) (Exists.intro _ (Exists.intro _ (Exists.intro _ (Exists.intro _ (And.intro (c_X11_ends D v4 f4 hv4 hf4  (by omega)) (And.intro rfl (fun r9 A9 h9 => ?_)))))))
        obtain ⟨y9, v10, f10, rfl, rfl, hv10, hf10, hx10, by9⟩ := h9
        have hw10 : f10 2 = f 2 := hx10.trans hw4
        have hu11 := hv10
        unfold md_V at hu11
        exact ⟨rfl, fun e9 => absurd e9 (by decide), rfl, y9, v10, f10, rfl, rfl, hv10, hf10, hw10, by first | trivial | omega | (dsimp only; omega)⟩
      · skip
        refine Exists.intro _ (And.intro md_o ?_)
        refine Exists.intro _ (Exists.intro _ (And.intro (Or.inl (md_a_colours D)) (And.intro (by omega) ?_)))
        have w12 : (0 : Int) ≤ (f4 0 (z6_7).toInt.toNat).toInt ∧ (f4 0 (z6_7).toInt.toNat).toInt ≤ (23 : Int) := hf4 0 _
        refine Exists.intro _ (Exists.intro _ (Exists.intro _ (Exists.intro _ (And.intro (c_X11_isIn (md A0 g h q v4 f4) z6_7 x1 x2 ) (And.intro rfl (fun r9 A9 h9 => ?_))))))
        rcases h9 with ⟨y13, rfl, rfl, ⟨rfl, by13⟩ | ⟨rfl, by13⟩⟩
        · skip
          have k1 : (1 : Int32).toInt = 1 := rfl
          refine And.intro (fun _ => ?_) (fun c9 => absurd c9 (by decide))
          refine hC.1 2 44 _ _ rfl _ _ _ _ _ ?_
          have km1 : (-1 : Int32).toInt = -1 := rfl
          refine And.intro (fun c14 => ?_) (fun c14 => ?_)
          · skip
            have dc14 : (x3).toInt = ((-1 : Int32) : Int32).toInt := congrArg Int32.toInt c14
            refine hC.1 3 55 _ _ rfl _ _ _ _ _ ?_
            refine hC.1 6 78 _ _ rfl _ _ _ _ _ ?_
            refine Exists.intro _ (And.intro md_o ?_)
            refine Exists.intro _ (Exists.intro _ (And.intro (Or.inl (md_a_names D)) (And.intro (by omega) ?_)))
            refine And.intro (Exists.intro _ md_o) (Exists.intro _ (Exists.intro _ (Exists.intro _ (Exists.intro _ (And.intro (c_X11_lays D v4 f4 hv4 hf4 x4 (f4 1 (z6_7).toInt.toNat) (by omega) (by omega)) (And.intro rfl (fun r9 A9 h9 => ?_)))))))
            obtain ⟨v16, f16, rfl, rfl, hv16, hf16, hx16, hg16_0, by15⟩ := h9
            have hw16 : f16 2 = f 2 := hx16.trans hw4
            have hu17 := hv16
            unfold md_V at hu17
            intro m18 em_93
            try have e18 : m18.toInt = (z6_7).toInt + (1) := by rw [em_93]; exact pm_addc _ _ (1) rfl (by omega) (by omega)
            exact hC.2 [false, false, false, false, false, false, false, true, true, true] _ _ _ _ _ _ (ih6 m18 v16 f16 hv16 hf16 hw16 (by omega) (by omega) (by omega) (by omega) (by omega))
          · skip
            have dc14 := pm_neI c14
            refine And.intro (fun c19 => ?_) (fun c19 => ?_)
            · skip
              have dc19 := pm_neI c19
              refine hC.1 4 60 _ _ rfl _ _ _ _ _ ?_
              refine And.intro (fun c20 => ?_) (fun c20 => ?_)
              · skip
                have dc20 : (x5).toInt = (0 : Int32).toInt := congrArg Int32.toInt c20
                refine hC.1 5 76 _ _ rfl _ _ _ _ _ ?_
                refine hC.1 6 78 _ _ rfl _ _ _ _ _ ?_
                refine Exists.intro _ (And.intro md_o ?_)
                refine Exists.intro _ (Exists.intro _ (And.intro (Or.inl (md_a_names D)) (And.intro (by omega) ?_)))
                refine And.intro (Exists.intro _ md_o) (Exists.intro _ (Exists.intro _ (Exists.intro _ (Exists.intro _ (And.intro (c_X11_lays D v4 f4 hv4 hf4 (f4 0 (z6_7).toInt.toNat) (f4 1 (z6_7).toInt.toNat) (by omega) (by omega)) (And.intro rfl (fun r9 A9 h9 => ?_)))))))
                obtain ⟨v22, f22, rfl, rfl, hv22, hf22, hx22, hg22_0, by21⟩ := h9
                have hw22 : f22 2 = f 2 := hx22.trans hw4
                have hu23 := hv22
                unfold md_V at hu23
                intro m24 em_93
                try have e24 : m24.toInt = (z6_7).toInt + (1) := by rw [em_93]; exact pm_addc _ _ (1) rfl (by omega) (by omega)
                exact hC.2 [false, false, false, false, false, false, false, true, true, true] _ _ _ _ _ _ (ih6 m24 v22 f22 hv22 hf22 hw22 (by omega) (by omega) (by omega) (by omega) (by omega))
              · skip
                have dc20 := pm_neI c20
                refine And.intro (fun c25 => ?_) (fun c25 => ?_)
                · skip
                  have dc25 := pm_neI c25
                  refine hC.1 5 76 _ _ rfl _ _ _ _ _ ?_
                  refine hC.1 6 78 _ _ rfl _ _ _ _ _ ?_
                  refine Exists.intro _ (And.intro md_o ?_)
                  refine Exists.intro _ (Exists.intro _ (And.intro (Or.inl (md_a_names D)) (And.intro (by omega) ?_)))
                  refine And.intro (Exists.intro _ md_o) (Exists.intro _ (Exists.intro _ (Exists.intro _ (Exists.intro _ (And.intro (c_X11_lays D v4 f4 hv4 hf4 (f4 0 (z6_7).toInt.toNat) (f4 1 (z6_7).toInt.toNat) (by omega) (by omega)) (And.intro rfl (fun r9 A9 h9 => ?_)))))))
                  obtain ⟨v27, f27, rfl, rfl, hv27, hf27, hx27, hg27_0, by26⟩ := h9
                  have hw27 : f27 2 = f 2 := hx27.trans hw4
                  have hu28 := hv27
                  unfold md_V at hu28
                  intro m29 em_93
                  try have e29 : m29.toInt = (z6_7).toInt + (1) := by rw [em_93]; exact pm_addc _ _ (1) rfl (by omega) (by omega)
                  exact hC.2 [false, false, false, false, false, false, false, true, true, true] _ _ _ _ _ _ (ih6 m29 v27 f27 hv27 hf27 hw27 (by omega) (by omega) (by omega) (by omega) (by omega))
                · skip
                  have dc25 : ((f4 0 (z6_7).toInt.toNat)).toInt = (x4 : Int32).toInt := congrArg Int32.toInt c25
                  refine hC.1 6 78 _ _ rfl _ _ _ _ _ ?_
                  refine Exists.intro _ (And.intro md_o ?_)
                  refine Exists.intro _ (Exists.intro _ (And.intro (Or.inl (md_a_names D)) (And.intro (by omega) ?_)))
                  refine And.intro (Exists.intro _ md_o) (Exists.intro _ (Exists.intro _ (Exists.intro _ (Exists.intro _ (And.intro (c_X11_lays D v4 f4 hv4 hf4 x3 (f4 1 (z6_7).toInt.toNat) (by omega) (by omega)) (And.intro rfl (fun r9 A9 h9 => ?_)))))))
                  obtain ⟨v31, f31, rfl, rfl, hv31, hf31, hx31, hg31_0, by30⟩ := h9
                  have hw31 : f31 2 = f 2 := hx31.trans hw4
                  have hu32 := hv31
                  unfold md_V at hu32
                  intro m33 em_93
                  try have e33 : m33.toInt = (z6_7).toInt + (1) := by rw [em_93]; exact pm_addc _ _ (1) rfl (by omega) (by omega)
                  exact hC.2 [false, false, false, false, false, false, false, true, true, true] _ _ _ _ _ _ (ih6 m33 v31 f31 hv31 hf31 hw31 (by omega) (by omega) (by omega) (by omega) (by omega))
            · skip
              have dc19 : ((f4 0 (z6_7).toInt.toNat)).toInt = (x3 : Int32).toInt := congrArg Int32.toInt c19
              refine hC.1 3 55 _ _ rfl _ _ _ _ _ ?_
              refine hC.1 6 78 _ _ rfl _ _ _ _ _ ?_
              refine Exists.intro _ (And.intro md_o ?_)
              refine Exists.intro _ (Exists.intro _ (And.intro (Or.inl (md_a_names D)) (And.intro (by omega) ?_)))
              refine And.intro (Exists.intro _ md_o) (Exists.intro _ (Exists.intro _ (Exists.intro _ (Exists.intro _ (And.intro (c_X11_lays D v4 f4 hv4 hf4 x4 (f4 1 (z6_7).toInt.toNat) (by omega) (by omega)) (And.intro rfl (fun r9 A9 h9 => ?_)))))))
              obtain ⟨v35, f35, rfl, rfl, hv35, hf35, hx35, hg35_0, by34⟩ := h9
              have hw35 : f35 2 = f 2 := hx35.trans hw4
              have hu36 := hv35
              unfold md_V at hu36
              intro m37 em_93
              try have e37 : m37.toInt = (z6_7).toInt + (1) := by rw [em_93]; exact pm_addc _ _ (1) rfl (by omega) (by omega)
              exact hC.2 [false, false, false, false, false, false, false, true, true, true] _ _ _ _ _ _ (ih6 m37 v35 f35 hv35 hf35 hw35 (by omega) (by omega) (by omega) (by omega) (by omega))
        · skip
          refine And.intro (fun c9 => absurd c9 (by decide)) (fun _ => ?_)
          refine hC.1 6 78 _ _ rfl _ _ _ _ _ ?_
          refine Exists.intro _ (And.intro md_o ?_)
          refine Exists.intro _ (Exists.intro _ (And.intro (Or.inl (md_a_names D)) (And.intro (by omega) ?_)))
          refine And.intro (Exists.intro _ md_o) (Exists.intro _ (Exists.intro _ (Exists.intro _ (Exists.intro _ (And.intro (c_X11_lays D v4 f4 hv4 hf4 (f4 0 (z6_7).toInt.toNat) (f4 1 (z6_7).toInt.toNat) (by omega) (by omega)) (And.intro rfl (fun r9 A9 h9 => ?_)))))))
          obtain ⟨v39, f39, rfl, rfl, hv39, hf39, hx39, hg39_0, by38⟩ := h9
          have hw39 : f39 2 = f 2 := hx39.trans hw4
          have hu40 := hv39
          unfold md_V at hu40
          have k1 : (1 : Int32).toInt = 1 := rfl
          intro m41 em_93
          try have e41 : m41.toInt = (z6_7).toInt + (1) := by rw [em_93]; exact pm_addc _ _ (1) rfl (by omega) (by omega)
          exact hC.2 [false, false, false, false, false, false, false, true, true, true] _ _ _ _ _ _ (ih6 m41 v39 f39 hv39 hf39 hw39 (by omega) (by omega) (by omega) (by omega) (by omega))
  exact lp5 (200 - (0 : Int32).toInt).toNat.succ (0 : Int32) v2 f2 hv2 hf2 hw2 (by omega) (by omega) (by omega) (by omega) (by omega)

set_option maxRecDepth 100000 in
set_option maxHeartbeats 2000000 in
theorem c_X11_put (D : md_D h q) (v : Nat → Int32) (f : Nat → Nat → Int32) (hv : md_V v) (hf : md_F f) (x1 : Int32) (x2 : Int32) (p0 : (v 4).toInt < 100000) : pm_Mt l g 167 5 0 0 [.ref h, .int x1, .int x2] (md A0 g h q v f) (md_Qw A0 g h q f (fun r v2 f2 => (v2 4).toInt ≤ (v 4).toInt + 1 ∧ (v 4).toInt ≤ (v2 4).toInt)) := by
  refine mt_X11_put rfl (fun J hC => ?_)
  have hv9 := hv
  unfold md_V at hv9
  have rg_x1 := pm_rng x1
  have rg_x2 := pm_rng x2
  refine hC.1 0 0 _ _ rfl _ _ _ _ _ ?_
  refine And.intro (Exists.intro _ md_o) (Exists.intro _ (Exists.intro _ (Exists.intro _ (Exists.intro _ (And.intro (c_X11_isPlace D v f hv hf x1 ) (And.intro rfl (fun r9 A9 h9 => ?_)))))))
  rcases h9 with ⟨y1, rfl, rfl, ⟨rfl, by1⟩ | ⟨rfl, by1⟩⟩
  · skip
    have k1 : (1 : Int32).toInt = 1 := rfl
    refine And.intro (fun c9 => absurd c9 (by decide)) (fun _ => ?_)
    refine Exists.intro _ (Exists.intro _ (Exists.intro _ (Exists.intro _ (And.intro (c_X11_isColour (md A0 g h q v f) x2 ) (And.intro rfl (fun r9 A9 h9 => ?_))))))
    rcases h9 with ⟨y2, rfl, rfl, ⟨rfl, by2⟩ | ⟨rfl, by2⟩⟩
    · skip
      refine And.intro (fun c9 => absurd c9 (by decide)) (fun _ => ?_)
      have km1 : (-1 : Int32).toInt = -1 := rfl
      have k0 : (0 : Int32).toInt = 0 := rfl
      refine And.intro (Exists.intro _ md_o) (Exists.intro _ (Exists.intro _ (Exists.intro _ (Exists.intro _ (And.intro (c_X11_recolours D v f hv hf x1 x1 (-1 : Int32) x2 (0 : Int32) (by omega) (by omega) (by omega)) (And.intro rfl (fun r9 A9 h9 => ?_)))))))
      obtain ⟨y3, v4, f4, rfl, rfl, hv4, hf4, hx4, by3⟩ := h9
      have hw4 : f4 2 = f 2 := hx4.trans rfl
      have hu5 := hv4
      unfold md_V at hu5
      refine hC.1 2 28 _ _ rfl _ _ _ _ _ ?_
      exact ⟨rfl, fun e9 => absurd e9 (by decide), rfl, y3, v4, f4, rfl, rfl, hv4, hf4, hw4, by first | trivial | omega | (dsimp only; omega)⟩
    · skip
      have k0 : (0 : Int32).toInt = 0 := rfl
      refine And.intro (fun _ => ?_) (fun c9 => absurd c9 (by decide))
      refine hC.1 1 27 _ _ rfl _ _ _ _ _ ?_
      have km1 : (-1 : Int32).toInt = -1 := rfl
      refine hC.1 2 28 _ _ rfl _ _ _ _ _ ?_
      exact ⟨rfl, fun e9 => absurd e9 (by decide), rfl, (-1 : Int32), v, f, rfl, rfl, hv, hf, rfl, by first | trivial | omega | (dsimp only; omega)⟩
  · skip
    have k0 : (0 : Int32).toInt = 0 := rfl
    refine And.intro (fun _ => ?_) (fun c9 => absurd c9 (by decide))
    refine hC.1 1 27 _ _ rfl _ _ _ _ _ ?_
    have km1 : (-1 : Int32).toInt = -1 := rfl
    refine hC.1 2 28 _ _ rfl _ _ _ _ _ ?_
    exact ⟨rfl, fun e9 => absurd e9 (by decide), rfl, (-1 : Int32), v, f, rfl, rfl, hv, hf, rfl, by first | trivial | omega | (dsimp only; omega)⟩

set_option maxRecDepth 100000 in
set_option maxHeartbeats 2000000 in
theorem c_X11_paint (D : md_D h q) (v : Nat → Int32) (f : Nat → Nat → Int32) (hv : md_V v) (hf : md_F f) (x1 : Int32) (x2 : Int32) (x3 : Int32) (p0 : (v 4).toInt < 100000) : pm_Mt l g 179 5 0 0 [.ref h, .int x1, .int x2, .int x3] (md A0 g h q v f) (md_Qw A0 g h q f (fun r v2 f2 => (v2 4).toInt ≤ (v 4).toInt + 1 ∧ (v 4).toInt ≤ (v2 4).toInt)) := by
  refine mt_X11_paint rfl (fun J hC => ?_)
  have hv9 := hv
  unfold md_V at hv9
  have rg_x1 := pm_rng x1
  have rg_x2 := pm_rng x2
  have rg_x3 := pm_rng x3
  refine hC.1 0 0 _ _ rfl _ _ _ _ _ ?_
  refine And.intro (Exists.intro _ md_o) (Exists.intro _ (Exists.intro _ (Exists.intro _ (Exists.intro _ (And.intro (c_X11_isSpan D v f hv hf x1 x2 ) (And.intro rfl (fun r9 A9 h9 => ?_)))))))
  rcases h9 with ⟨y1, rfl, rfl, ⟨rfl, by1⟩ | ⟨rfl, by1⟩⟩
  · skip
    have k1 : (1 : Int32).toInt = 1 := rfl
    refine And.intro (fun c9 => absurd c9 (by decide)) (fun _ => ?_)
    refine Exists.intro _ (Exists.intro _ (Exists.intro _ (Exists.intro _ (And.intro (c_X11_isColour (md A0 g h q v f) x3 ) (And.intro rfl (fun r9 A9 h9 => ?_))))))
    rcases h9 with ⟨y2, rfl, rfl, ⟨rfl, by2⟩ | ⟨rfl, by2⟩⟩
    · skip
      refine And.intro (fun c9 => absurd c9 (by decide)) (fun _ => ?_)
      have km1 : (-1 : Int32).toInt = -1 := rfl
      have k0 : (0 : Int32).toInt = 0 := rfl
      refine And.intro (Exists.intro _ md_o) (Exists.intro _ (Exists.intro _ (Exists.intro _ (Exists.intro _ (And.intro (c_X11_recolours D v f hv hf x1 x2 (-1 : Int32) x3 (0 : Int32) (by omega) (by omega) (by omega)) (And.intro rfl (fun r9 A9 h9 => ?_)))))))
      obtain ⟨y3, v4, f4, rfl, rfl, hv4, hf4, hx4, by3⟩ := h9
      have hw4 : f4 2 = f 2 := hx4.trans rfl
      have hu5 := hv4
      unfold md_V at hu5
      refine hC.1 2 29 _ _ rfl _ _ _ _ _ ?_
      exact ⟨rfl, fun e9 => absurd e9 (by decide), rfl, y3, v4, f4, rfl, rfl, hv4, hf4, hw4, by first | trivial | omega | (dsimp only; omega)⟩
    · skip
      have k0 : (0 : Int32).toInt = 0 := rfl
      refine And.intro (fun _ => ?_) (fun c9 => absurd c9 (by decide))
      refine hC.1 1 28 _ _ rfl _ _ _ _ _ ?_
      have km1 : (-1 : Int32).toInt = -1 := rfl
      refine hC.1 2 29 _ _ rfl _ _ _ _ _ ?_
      exact ⟨rfl, fun e9 => absurd e9 (by decide), rfl, (-1 : Int32), v, f, rfl, rfl, hv, hf, rfl, by first | trivial | omega | (dsimp only; omega)⟩
  · skip
    have k0 : (0 : Int32).toInt = 0 := rfl
    refine And.intro (fun _ => ?_) (fun c9 => absurd c9 (by decide))
    refine hC.1 1 28 _ _ rfl _ _ _ _ _ ?_
    have km1 : (-1 : Int32).toInt = -1 := rfl
    refine hC.1 2 29 _ _ rfl _ _ _ _ _ ?_
    exact ⟨rfl, fun e9 => absurd e9 (by decide), rfl, (-1 : Int32), v, f, rfl, rfl, hv, hf, rfl, by first | trivial | omega | (dsimp only; omega)⟩

set_option maxRecDepth 100000 in
set_option maxHeartbeats 2000000 in
theorem c_X11_merge (D : md_D h q) (v : Nat → Int32) (f : Nat → Nat → Int32) (hv : md_V v) (hf : md_F f) (x1 : Int32) (x2 : Int32) (p0 : (v 4).toInt < 100000) : pm_Mt l g 181 5 0 0 [.ref h, .int x1, .int x2] (md A0 g h q v f) (md_Qw A0 g h q f (fun r v2 f2 => (v2 4).toInt ≤ (v 4).toInt + 1 ∧ (v 4).toInt ≤ (v2 4).toInt)) := by
  refine mt_X11_merge rfl (fun J hC => ?_)
  have hv9 := hv
  unfold md_V at hv9
  have rg_x1 := pm_rng x1
  have rg_x2 := pm_rng x2
  refine hC.1 0 0 _ _ rfl _ _ _ _ _ ?_
  refine Exists.intro _ (Exists.intro _ (Exists.intro _ (Exists.intro _ (And.intro (c_X11_isColour (md A0 g h q v f) x1 ) (And.intro rfl (fun r9 A9 h9 => ?_))))))
  rcases h9 with ⟨y1, rfl, rfl, ⟨rfl, by1⟩ | ⟨rfl, by1⟩⟩
  · skip
    have k1 : (1 : Int32).toInt = 1 := rfl
    refine And.intro (fun c9 => absurd c9 (by decide)) (fun _ => ?_)
    refine Exists.intro _ (Exists.intro _ (Exists.intro _ (Exists.intro _ (And.intro (c_X11_isColour (md A0 g h q v f) x2 ) (And.intro rfl (fun r9 A9 h9 => ?_))))))
    rcases h9 with ⟨y2, rfl, rfl, ⟨rfl, by2⟩ | ⟨rfl, by2⟩⟩
    · skip
      refine And.intro (fun c9 => absurd c9 (by decide)) (fun _ => ?_)
      refine And.intro (fun c3 => ?_) (fun c3 => ?_)
      · skip
        have dc3 : (x1).toInt = (x2 : Int32).toInt := congrArg Int32.toInt c3
        refine hC.1 1 36 _ _ rfl _ _ _ _ _ ?_
        have km1 : (-1 : Int32).toInt = -1 := rfl
        refine hC.1 2 37 _ _ rfl _ _ _ _ _ ?_
        exact ⟨rfl, fun e9 => absurd e9 (by decide), rfl, (-1 : Int32), v, f, rfl, rfl, hv, hf, rfl, by first | trivial | omega | (dsimp only; omega)⟩
      · skip
        have dc3 := pm_neI c3
        have k0 : (0 : Int32).toInt = 0 := rfl
        refine Exists.intro _ (And.intro md_o ?_)
        intro m4 em_26
        try have e4 : m4.toInt = ((v 0)).toInt - (1) := by rw [em_26]; exact pm_subc _ _ (1) rfl (by omega) (by omega)
        refine And.intro (Exists.intro _ md_o) (Exists.intro _ (Exists.intro _ (Exists.intro _ (Exists.intro _ (And.intro (c_X11_recolours D v f hv hf (0 : Int32) m4 x1 x2 (0 : Int32) (by omega) (by omega) (by omega)) (And.intro rfl (fun r9 A9 h9 => ?_)))))))
        obtain ⟨y5, v6, f6, rfl, rfl, hv6, hf6, hx6, by5⟩ := h9
        have hw6 : f6 2 = f 2 := hx6.trans rfl
        have hu7 := hv6
        unfold md_V at hu7
        refine hC.1 2 37 _ _ rfl _ _ _ _ _ ?_
        exact ⟨rfl, fun e9 => absurd e9 (by decide), rfl, y5, v6, f6, rfl, rfl, hv6, hf6, hw6, by first | trivial | omega | (dsimp only; omega)⟩
    · skip
      have k0 : (0 : Int32).toInt = 0 := rfl
      refine And.intro (fun _ => ?_) (fun c9 => absurd c9 (by decide))
      refine hC.1 1 36 _ _ rfl _ _ _ _ _ ?_
      have km1 : (-1 : Int32).toInt = -1 := rfl
      refine hC.1 2 37 _ _ rfl _ _ _ _ _ ?_
      exact ⟨rfl, fun e9 => absurd e9 (by decide), rfl, (-1 : Int32), v, f, rfl, rfl, hv, hf, rfl, by first | trivial | omega | (dsimp only; omega)⟩
  · skip
    have k0 : (0 : Int32).toInt = 0 := rfl
    refine And.intro (fun _ => ?_) (fun c9 => absurd c9 (by decide))
    refine hC.1 1 36 _ _ rfl _ _ _ _ _ ?_
    have km1 : (-1 : Int32).toInt = -1 := rfl
    refine hC.1 2 37 _ _ rfl _ _ _ _ _ ?_
    exact ⟨rfl, fun e9 => absurd e9 (by decide), rfl, (-1 : Int32), v, f, rfl, rfl, hv, hf, rfl, by first | trivial | omega | (dsimp only; omega)⟩

set_option maxRecDepth 100000 in
set_option maxHeartbeats 2000000 in
theorem c_X11_exchange (D : md_D h q) (v : Nat → Int32) (f : Nat → Nat → Int32) (hv : md_V v) (hf : md_F f) (x1 : Int32) (x2 : Int32) (p0 : (v 4).toInt < 100000) : pm_Mt l g 182 5 0 0 [.ref h, .int x1, .int x2] (md A0 g h q v f) (md_Qw A0 g h q f (fun r v2 f2 => (v2 4).toInt ≤ (v 4).toInt + 1 ∧ (v 4).toInt ≤ (v2 4).toInt)) := by
  refine mt_X11_exchange rfl (fun J hC => ?_)
  have hv9 := hv
  unfold md_V at hv9
  have rg_x1 := pm_rng x1
  have rg_x2 := pm_rng x2
  refine hC.1 0 0 _ _ rfl _ _ _ _ _ ?_
  refine Exists.intro _ (Exists.intro _ (Exists.intro _ (Exists.intro _ (And.intro (c_X11_isColour (md A0 g h q v f) x1 ) (And.intro rfl (fun r9 A9 h9 => ?_))))))
  rcases h9 with ⟨y1, rfl, rfl, ⟨rfl, by1⟩ | ⟨rfl, by1⟩⟩
  · skip
    have k1 : (1 : Int32).toInt = 1 := rfl
    refine And.intro (fun c9 => absurd c9 (by decide)) (fun _ => ?_)
    refine Exists.intro _ (Exists.intro _ (Exists.intro _ (Exists.intro _ (And.intro (c_X11_isColour (md A0 g h q v f) x2 ) (And.intro rfl (fun r9 A9 h9 => ?_))))))
    rcases h9 with ⟨y2, rfl, rfl, ⟨rfl, by2⟩ | ⟨rfl, by2⟩⟩
    · skip
      refine And.intro (fun c9 => absurd c9 (by decide)) (fun _ => ?_)
      refine And.intro (fun c3 => ?_) (fun c3 => ?_)
      · skip
        have dc3 : (x1).toInt = (x2 : Int32).toInt := congrArg Int32.toInt c3
        refine hC.1 1 36 _ _ rfl _ _ _ _ _ ?_
        have km1 : (-1 : Int32).toInt = -1 := rfl
        refine hC.1 2 37 _ _ rfl _ _ _ _ _ ?_
        exact ⟨rfl, fun e9 => absurd e9 (by decide), rfl, (-1 : Int32), v, f, rfl, rfl, hv, hf, rfl, by first | trivial | omega | (dsimp only; omega)⟩
      · skip
        have dc3 := pm_neI c3
        have k0 : (0 : Int32).toInt = 0 := rfl
        refine Exists.intro _ (And.intro md_o ?_)
        intro m4 em_26
        try have e4 : m4.toInt = ((v 0)).toInt - (1) := by rw [em_26]; exact pm_subc _ _ (1) rfl (by omega) (by omega)
        refine And.intro (Exists.intro _ md_o) (Exists.intro _ (Exists.intro _ (Exists.intro _ (Exists.intro _ (And.intro (c_X11_recolours D v f hv hf (0 : Int32) m4 x1 x2 (1 : Int32) (by omega) (by omega) (by omega)) (And.intro rfl (fun r9 A9 h9 => ?_)))))))
        obtain ⟨y5, v6, f6, rfl, rfl, hv6, hf6, hx6, by5⟩ := h9
        have hw6 : f6 2 = f 2 := hx6.trans rfl
        have hu7 := hv6
        unfold md_V at hu7
        refine hC.1 2 37 _ _ rfl _ _ _ _ _ ?_
        exact ⟨rfl, fun e9 => absurd e9 (by decide), rfl, y5, v6, f6, rfl, rfl, hv6, hf6, hw6, by first | trivial | omega | (dsimp only; omega)⟩
    · skip
      have k0 : (0 : Int32).toInt = 0 := rfl
      refine And.intro (fun _ => ?_) (fun c9 => absurd c9 (by decide))
      refine hC.1 1 36 _ _ rfl _ _ _ _ _ ?_
      have km1 : (-1 : Int32).toInt = -1 := rfl
      refine hC.1 2 37 _ _ rfl _ _ _ _ _ ?_
      exact ⟨rfl, fun e9 => absurd e9 (by decide), rfl, (-1 : Int32), v, f, rfl, rfl, hv, hf, rfl, by first | trivial | omega | (dsimp only; omega)⟩
  · skip
    have k0 : (0 : Int32).toInt = 0 := rfl
    refine And.intro (fun _ => ?_) (fun c9 => absurd c9 (by decide))
    refine hC.1 1 36 _ _ rfl _ _ _ _ _ ?_
    have km1 : (-1 : Int32).toInt = -1 := rfl
    refine hC.1 2 37 _ _ rfl _ _ _ _ _ ?_
    exact ⟨rfl, fun e9 => absurd e9 (by decide), rfl, (-1 : Int32), v, f, rfl, rfl, hv, hf, rfl, by first | trivial | omega | (dsimp only; omega)⟩

set_option maxRecDepth 100000 in
set_option maxHeartbeats 2000000 in
theorem c_X11_insert (D : md_D h q) (v : Nat → Int32) (f : Nat → Nat → Int32) (hv : md_V v) (hf : md_F f) (x1 : Int32) (x2 : Int32) (p0 : (v 4).toInt < 100000) : pm_Mt l g 183 4 0 0 [.ref h, .int x1, .int x2] (md A0 g h q v f) (md_Qw A0 g h q f (fun r v2 f2 => (v2 4).toInt ≤ (v 4).toInt + 1 ∧ (v 4).toInt ≤ (v2 4).toInt)) := by
  refine mt_X11_insert rfl (fun J hC => ?_)
  have hv9 := hv
  unfold md_V at hv9
  have rg_x1 := pm_rng x1
  have rg_x2 := pm_rng x2
  refine hC.1 0 0 _ _ rfl _ _ _ _ _ ?_
  have k0 : (0 : Int32).toInt = 0 := rfl
  refine Exists.intro _ (And.intro md_o ?_)
  refine Exists.intro _ (Exists.intro _ (Exists.intro _ (Exists.intro _ (And.intro (c_X11_isIn (md A0 g h q v f) x1 (0 : Int32) (v 0) ) (And.intro rfl (fun r9 A9 h9 => ?_))))))
  rcases h9 with ⟨y1, rfl, rfl, ⟨rfl, by1⟩ | ⟨rfl, by1⟩⟩
  · skip
    have k1 : (1 : Int32).toInt = 1 := rfl
    refine And.intro (fun c9 => absurd c9 (by decide)) (fun _ => ?_)
    refine Exists.intro _ (Exists.intro _ (Exists.intro _ (Exists.intro _ (And.intro (c_X11_isColour (md A0 g h q v f) x2 ) (And.intro rfl (fun r9 A9 h9 => ?_))))))
    rcases h9 with ⟨y2, rfl, rfl, ⟨rfl, by2⟩ | ⟨rfl, by2⟩⟩
    · skip
      refine And.intro (fun c9 => absurd c9 (by decide)) (fun _ => ?_)
      refine And.intro (Exists.intro _ md_o) (Exists.intro _ (Exists.intro _ (Exists.intro _ (Exists.intro _ (And.intro (c_X11_hasRoom D v f hv hf (1 : Int32) (by omega)) (And.intro rfl (fun r9 A9 h9 => ?_)))))))
      rcases h9 with ⟨y3, rfl, rfl, ⟨rfl, by3⟩ | ⟨rfl, by3⟩⟩
      · skip
        refine And.intro (fun _ => ?_) (fun c9 => absurd c9 (by decide))
        refine hC.1 2 29 _ _ rfl _ _ _ _ _ ?_
        refine And.intro (Exists.intro _ md_o) (Exists.intro _ (Exists.intro _ (Exists.intro _ (Exists.intro _ (And.intro (c_X11_begins D v f hv hf  ) (And.intro rfl (fun r9 A9 h9 => ?_)))))))
        obtain ⟨v5, f5, rfl, rfl, hv5, hf5, hx5, hg5_0, by4⟩ := h9
        have hw5 : f5 2 = f 2 := hx5.trans rfl
        have hu6 := hv5
        unfold md_V at hu6
        refine And.intro (Exists.intro _ md_o) (Exists.intro _ (Exists.intro _ (Exists.intro _ (Exists.intro _ (And.intro (c_X11_laysFrom D v5 f5 hv5 hf5 (0 : Int32) x1 (by omega) (by omega) (by omega)) (And.intro rfl (fun r9 A9 h9 => ?_)))))))
        obtain ⟨v8, f8, rfl, rfl, hv8, hf8, hx8, hg8_0, by7⟩ := h9
        have hw8 : f8 2 = f 2 := hx8.trans hw5
        have hu9 := hv8
        unfold md_V at hu9
        refine And.intro (Exists.intro _ md_o) (Exists.intro _ (Exists.intro _ (Exists.intro _ (Exists.intro _ (And.intro (c_X11_laysNew D v8 f8 hv8 hf8 x2 (by omega) (by omega) (by omega)) (And.intro rfl (fun r9 A9 h9 => ?_)))))))
        obtain ⟨v11, f11, rfl, rfl, hv11, hf11, hx11, hg11_0, by10⟩ := h9
        have hw11 : f11 2 = f 2 := hx11.trans hw8
        have hu12 := hv11
        unfold md_V at hu12
        refine Exists.intro _ (And.intro md_o ?_)
        refine And.intro (Exists.intro _ md_o) (Exists.intro _ (Exists.intro _ (Exists.intro _ (Exists.intro _ (And.intro (c_X11_laysFrom D v11 f11 hv11 hf11 x1 (v11 0) (by omega) (by omega) (by omega)) (And.intro rfl (fun r9 A9 h9 => ?_)))))))
        obtain ⟨v14, f14, rfl, rfl, hv14, hf14, hx14, hg14_0, by13⟩ := h9
        have hw14 : f14 2 = f 2 := hx14.trans hw11
        have hu15 := hv14
        unfold md_V at hu15
        refine And.intro (Exists.intro _ md_o) (Exists.intro _ (Exists.intro _ (Exists.intro _ (Exists.intro _ (And.intro (c_X11_ends D v14 f14 hv14 hf14  (by omega)) (And.intro rfl (fun r9 A9 h9 => ?_)))))))
        obtain ⟨y16, v17, f17, rfl, rfl, hv17, hf17, hx17, by16⟩ := h9
        have hw17 : f17 2 = f 2 := hx17.trans hw14
        have hu18 := hv17
        unfold md_V at hu18
        exact ⟨rfl, fun e9 => absurd e9 (by decide), rfl, y16, v17, f17, rfl, rfl, hv17, hf17, hw17, by first | trivial | omega | (dsimp only; omega)⟩
      · skip
        refine And.intro (fun c9 => absurd c9 (by decide)) (fun _ => ?_)
        refine hC.1 1 27 _ _ rfl _ _ _ _ _ ?_
        have km1 : (-1 : Int32).toInt = -1 := rfl
        exact ⟨rfl, fun e9 => absurd e9 (by decide), rfl, (-1 : Int32), v, f, rfl, rfl, hv, hf, rfl, by first | trivial | omega | (dsimp only; omega)⟩
    · skip
      refine And.intro (fun _ => ?_) (fun c9 => absurd c9 (by decide))
      refine hC.1 1 27 _ _ rfl _ _ _ _ _ ?_
      have km1 : (-1 : Int32).toInt = -1 := rfl
      exact ⟨rfl, fun e9 => absurd e9 (by decide), rfl, (-1 : Int32), v, f, rfl, rfl, hv, hf, rfl, by first | trivial | omega | (dsimp only; omega)⟩
  · skip
    refine And.intro (fun _ => ?_) (fun c9 => absurd c9 (by decide))
    refine hC.1 1 27 _ _ rfl _ _ _ _ _ ?_
    have km1 : (-1 : Int32).toInt = -1 := rfl
    exact ⟨rfl, fun e9 => absurd e9 (by decide), rfl, (-1 : Int32), v, f, rfl, rfl, hv, hf, rfl, by first | trivial | omega | (dsimp only; omega)⟩

set_option maxRecDepth 100000 in
set_option maxHeartbeats 2000000 in
theorem c_X11_cut (D : md_D h q) (v : Nat → Int32) (f : Nat → Nat → Int32) (hv : md_V v) (hf : md_F f) (x1 : Int32) (x2 : Int32) (p0 : (v 4).toInt < 100000) : pm_Mt l g 187 4 0 0 [.ref h, .int x1, .int x2] (md A0 g h q v f) (md_Qw A0 g h q f (fun r v2 f2 => (v2 4).toInt ≤ (v 4).toInt + 1 ∧ (v 4).toInt ≤ (v2 4).toInt)) := by
  refine mt_X11_cut rfl (fun J hC => ?_)
  have hv9 := hv
  unfold md_V at hv9
  have rg_x1 := pm_rng x1
  have rg_x2 := pm_rng x2
  refine hC.1 0 0 _ _ rfl _ _ _ _ _ ?_
  refine And.intro (Exists.intro _ md_o) (Exists.intro _ (Exists.intro _ (Exists.intro _ (Exists.intro _ (And.intro (c_X11_isSpan D v f hv hf x1 x2 ) (And.intro rfl (fun r9 A9 h9 => ?_)))))))
  rcases h9 with ⟨y1, rfl, rfl, ⟨rfl, by1⟩ | ⟨rfl, by1⟩⟩
  · skip
    have k1 : (1 : Int32).toInt = 1 := rfl
    refine And.intro (fun _ => ?_) (fun c9 => absurd c9 (by decide))
    refine hC.1 1 11 _ _ rfl _ _ _ _ _ ?_
    refine And.intro (Exists.intro _ md_o) (Exists.intro _ (Exists.intro _ (Exists.intro _ (Exists.intro _ (And.intro (c_X11_begins D v f hv hf  ) (And.intro rfl (fun r9 A9 h9 => ?_)))))))
    obtain ⟨v3, f3, rfl, rfl, hv3, hf3, hx3, hg3_0, by2⟩ := h9
    have hw3 : f3 2 = f 2 := hx3.trans rfl
    have hu4 := hv3
    unfold md_V at hu4
    have k0 : (0 : Int32).toInt = 0 := rfl
    refine And.intro (Exists.intro _ md_o) (Exists.intro _ (Exists.intro _ (Exists.intro _ (Exists.intro _ (And.intro (c_X11_laysFrom D v3 f3 hv3 hf3 (0 : Int32) x1 (by omega) (by omega) (by omega)) (And.intro rfl (fun r9 A9 h9 => ?_)))))))
    obtain ⟨v6, f6, rfl, rfl, hv6, hf6, hx6, hg6_0, by5⟩ := h9
    have hw6 : f6 2 = f 2 := hx6.trans hw3
    have hu7 := hv6
    unfold md_V at hu7
    intro m8 em_24
    try have e8 : m8.toInt = (x2).toInt + (1) := by rw [em_24]; exact pm_addc _ _ (1) rfl (by omega) (by omega)
    refine Exists.intro _ (And.intro md_o ?_)
    refine And.intro (Exists.intro _ md_o) (Exists.intro _ (Exists.intro _ (Exists.intro _ (Exists.intro _ (And.intro (c_X11_laysFrom D v6 f6 hv6 hf6 m8 (v6 0) (by omega) (by omega) (by omega)) (And.intro rfl (fun r9 A9 h9 => ?_)))))))
    obtain ⟨v10, f10, rfl, rfl, hv10, hf10, hx10, hg10_0, by9⟩ := h9
    have hw10 : f10 2 = f 2 := hx10.trans hw6
    have hu11 := hv10
    unfold md_V at hu11
    refine And.intro (Exists.intro _ md_o) (Exists.intro _ (Exists.intro _ (Exists.intro _ (Exists.intro _ (And.intro (c_X11_ends D v10 f10 hv10 hf10  (by omega)) (And.intro rfl (fun r9 A9 h9 => ?_)))))))
    obtain ⟨y12, v13, f13, rfl, rfl, hv13, hf13, hx13, by12⟩ := h9
    have hw13 : f13 2 = f 2 := hx13.trans hw10
    have hu14 := hv13
    unfold md_V at hu14
    exact ⟨rfl, fun e9 => absurd e9 (by decide), rfl, y12, v13, f13, rfl, rfl, hv13, hf13, hw13, by first | trivial | omega | (dsimp only; omega)⟩
  · skip
    have k0 : (0 : Int32).toInt = 0 := rfl
    refine And.intro (fun c9 => absurd c9 (by decide)) (fun _ => ?_)
    have km1 : (-1 : Int32).toInt = -1 := rfl
    exact ⟨rfl, fun e9 => absurd e9 (by decide), rfl, (-1 : Int32), v, f, rfl, rfl, hv, hf, rfl, by first | trivial | omega | (dsimp only; omega)⟩

set_option maxRecDepth 100000 in
set_option maxHeartbeats 2000000 in
theorem c_X11_turn (D : md_D h q) (v : Nat → Int32) (f : Nat → Nat → Int32) (hv : md_V v) (hf : md_F f) (x1 : Int32) (x2 : Int32) (p0 : (v 4).toInt < 100000) : pm_Mt l g 188 4 0 0 [.ref h, .int x1, .int x2] (md A0 g h q v f) (md_Qw A0 g h q f (fun r v2 f2 => (v2 4).toInt ≤ (v 4).toInt + 1 ∧ (v 4).toInt ≤ (v2 4).toInt)) := by
  refine mt_X11_turn rfl (fun J hC => ?_)
  have hv9 := hv
  unfold md_V at hv9
  have rg_x1 := pm_rng x1
  have rg_x2 := pm_rng x2
  refine hC.1 0 0 _ _ rfl _ _ _ _ _ ?_
  refine And.intro (Exists.intro _ md_o) (Exists.intro _ (Exists.intro _ (Exists.intro _ (Exists.intro _ (And.intro (c_X11_isSpan D v f hv hf x1 x2 ) (And.intro rfl (fun r9 A9 h9 => ?_)))))))
  rcases h9 with ⟨y1, rfl, rfl, ⟨rfl, by1⟩ | ⟨rfl, by1⟩⟩
  · skip
    have k1 : (1 : Int32).toInt = 1 := rfl
    refine And.intro (fun _ => ?_) (fun c9 => absurd c9 (by decide))
    refine hC.1 1 11 _ _ rfl _ _ _ _ _ ?_
    refine And.intro (Exists.intro _ md_o) (Exists.intro _ (Exists.intro _ (Exists.intro _ (Exists.intro _ (And.intro (c_X11_begins D v f hv hf  ) (And.intro rfl (fun r9 A9 h9 => ?_)))))))
    obtain ⟨v3, f3, rfl, rfl, hv3, hf3, hx3, hg3_0, by2⟩ := h9
    have hw3 : f3 2 = f 2 := hx3.trans rfl
    have hu4 := hv3
    unfold md_V at hu4
    have k0 : (0 : Int32).toInt = 0 := rfl
    refine And.intro (Exists.intro _ md_o) (Exists.intro _ (Exists.intro _ (Exists.intro _ (Exists.intro _ (And.intro (c_X11_laysFrom D v3 f3 hv3 hf3 (0 : Int32) x1 (by omega) (by omega) (by omega)) (And.intro rfl (fun r9 A9 h9 => ?_)))))))
    obtain ⟨v6, f6, rfl, rfl, hv6, hf6, hx6, hg6_0, by5⟩ := h9
    have hw6 : f6 2 = f 2 := hx6.trans hw3
    have hu7 := hv6
    unfold md_V at hu7
    have lp9 : ∀ (n : Nat) (z3_23 : Int32) (v8 : Nat → Int32) (f8 : Nat → Nat → Int32), md_V v8 → md_F f8 → f8 2 = f 2 → x1.toInt - 1 ≤ z3_23.toInt ∧ z3_23.toInt ≤ x2.toInt → (v8 0).toInt = (v 0).toInt ∧ (v8 4).toInt = (v 4).toInt ∧ (v8 2).toInt = x1.toInt + (x2.toInt - z3_23.toInt) → z3_23.toInt + 1 < (n : Int) → J 23 [some (.ref h), some (.int x1), some (.int x2), some (.int z3_23)] [] (md A0 g h q v8 f8) 0 0 := by
      intro n
      induction n with
      | zero =>
        intro z3_23 v8 f8 hv8 hf8 hw8 j0_23 j1_23 j2_23
        omega
      | succ n ih10 =>
        intro z3_23 v8 f8 hv8 hf8 hw8 j0_23 j1_23 j2_23
        refine hC.1 2 23 _ _ rfl _ _ _ _ _ ?_
        have hu11 := hv8
        unfold md_V at hu11
        refine And.intro (fun c12 => ?_) (fun c12 => ?_)
        · skip
          refine hC.1 3 50 _ _ rfl _ _ _ _ _ ?_
          intro m13 em_53
          try have e13 : m13.toInt = (x2).toInt + (1) := by rw [em_53]; exact pm_addc _ _ (1) rfl (by omega) (by omega)
          refine Exists.intro _ (And.intro md_o ?_)
          refine And.intro (Exists.intro _ md_o) (Exists.intro _ (Exists.intro _ (Exists.intro _ (Exists.intro _ (And.intro (c_X11_laysFrom D v8 f8 hv8 hf8 m13 (v8 0) (by omega) (by omega) (by omega)) (And.intro rfl (fun r9 A9 h9 => ?_)))))))
          obtain ⟨v15, f15, rfl, rfl, hv15, hf15, hx15, hg15_0, by14⟩ := h9
          have hw15 : f15 2 = f 2 := hx15.trans hw8
          have hu16 := hv15
          unfold md_V at hu16
          refine And.intro (Exists.intro _ md_o) (Exists.intro _ (Exists.intro _ (Exists.intro _ (Exists.intro _ (And.intro (c_X11_ends D v15 f15 hv15 hf15  (by omega)) (And.intro rfl (fun r9 A9 h9 => ?_)))))))
          obtain ⟨y17, v18, f18, rfl, rfl, hv18, hf18, hx18, by17⟩ := h9
          have hw18 : f18 2 = f 2 := hx18.trans hw15
          have hu19 := hv18
          unfold md_V at hu19
          exact ⟨rfl, fun e9 => absurd e9 (by decide), rfl, y17, v18, f18, rfl, rfl, hv18, hf18, hw18, by first | trivial | omega | (dsimp only; omega)⟩
        · skip
          refine Exists.intro _ (And.intro md_o ?_)
          refine Exists.intro _ (Exists.intro _ (And.intro (Or.inl (md_a_colours D)) (And.intro (by omega) ?_)))
          have w20 : (0 : Int) ≤ (f8 0 (z3_23).toInt.toNat).toInt ∧ (f8 0 (z3_23).toInt.toNat).toInt ≤ (23 : Int) := hf8 0 _
          refine Exists.intro _ (And.intro md_o ?_)
          refine Exists.intro _ (Exists.intro _ (And.intro (Or.inl (md_a_names D)) (And.intro (by omega) ?_)))
          refine And.intro (Exists.intro _ md_o) (Exists.intro _ (Exists.intro _ (Exists.intro _ (Exists.intro _ (And.intro (c_X11_lays D v8 f8 hv8 hf8 (f8 0 (z3_23).toInt.toNat) (f8 1 (z3_23).toInt.toNat) (by omega) (by omega)) (And.intro rfl (fun r9 A9 h9 => ?_)))))))
          obtain ⟨v22, f22, rfl, rfl, hv22, hf22, hx22, hg22_0, by21⟩ := h9
          have hw22 : f22 2 = f 2 := hx22.trans hw8
          have hu23 := hv22
          unfold md_V at hu23
          have km1 : (-1 : Int32).toInt = -1 := rfl
          intro m24 em_44
          try have e24 : m24.toInt = (z3_23).toInt + (-1) := by rw [em_44]; exact pm_addc _ _ (-1) rfl (by omega) (by omega)
          exact ih10 m24 v22 f22 hv22 hf22 hw22 (by omega) (by omega) (by omega)
    exact lp9 (x2.toInt + 1).toNat.succ x2 v6 f6 hv6 hf6 hw6 (by omega) (by omega) (by omega)
  · skip
    have k0 : (0 : Int32).toInt = 0 := rfl
    refine And.intro (fun c9 => absurd c9 (by decide)) (fun _ => ?_)
    have km1 : (-1 : Int32).toInt = -1 := rfl
    exact ⟨rfl, fun e9 => absurd e9 (by decide), rfl, (-1 : Int32), v, f, rfl, rfl, hv, hf, rfl, by first | trivial | omega | (dsimp only; omega)⟩

set_option maxRecDepth 100000 in
set_option maxHeartbeats 2000000 in
theorem c_X11_shift (D : md_D h q) (v : Nat → Int32) (f : Nat → Nat → Int32) (hv : md_V v) (hf : md_F f) (x1 : Int32) (x2 : Int32) (x3 : Int32) (p0 : (v 4).toInt < 100000) : pm_Mt l g 189 4 0 0 [.ref h, .int x1, .int x2, .int x3] (md A0 g h q v f) (md_Qw A0 g h q f (fun r v2 f2 => (v2 4).toInt ≤ (v 4).toInt + 1 ∧ (v 4).toInt ≤ (v2 4).toInt)) := by
  refine mt_X11_shift rfl (fun J hC => ?_)
  have hv9 := hv
  unfold md_V at hv9
  have rg_x1 := pm_rng x1
  have rg_x2 := pm_rng x2
  have rg_x3 := pm_rng x3
  refine hC.1 0 0 _ _ rfl _ _ _ _ _ ?_
  refine And.intro (Exists.intro _ md_o) (Exists.intro _ (Exists.intro _ (Exists.intro _ (Exists.intro _ (And.intro (c_X11_isSpan D v f hv hf x1 x2 ) (And.intro rfl (fun r9 A9 h9 => ?_)))))))
  rcases h9 with ⟨y1, rfl, rfl, ⟨rfl, by1⟩ | ⟨rfl, by1⟩⟩
  · skip
    have k1 : (1 : Int32).toInt = 1 := rfl
    refine And.intro (fun c9 => absurd c9 (by decide)) (fun _ => ?_)
    have k0 : (0 : Int32).toInt = 0 := rfl
    intro m2 em_13
    try have e2 : m2.toInt = (x2).toInt - (x1).toInt := by rw [em_13]; exact pm_sub _ _ (by omega) (by omega)
    intro m3 em_15
    try have e3 : m3.toInt = (m2).toInt + (1) := by rw [em_15]; exact pm_addc _ _ (1) rfl (by omega) (by omega)
    refine Exists.intro _ (Exists.intro _ (Exists.intro _ (Exists.intro _ (And.intro (c_X11_isIn (md A0 g h q v f) x3 (0 : Int32) m3 ) (And.intro rfl (fun r9 A9 h9 => ?_))))))
    rcases h9 with ⟨y4, rfl, rfl, ⟨rfl, by4⟩ | ⟨rfl, by4⟩⟩
    · skip
      refine And.intro (fun _ => ?_) (fun c9 => absurd c9 (by decide))
      refine hC.1 2 24 _ _ rfl _ _ _ _ _ ?_
      refine And.intro (Exists.intro _ md_o) (Exists.intro _ (Exists.intro _ (Exists.intro _ (Exists.intro _ (And.intro (c_X11_begins D v f hv hf  ) (And.intro rfl (fun r9 A9 h9 => ?_)))))))
      obtain ⟨v6, f6, rfl, rfl, hv6, hf6, hx6, hg6_0, by5⟩ := h9
      have hw6 : f6 2 = f 2 := hx6.trans rfl
      have hu7 := hv6
      unfold md_V at hu7
      refine And.intro (Exists.intro _ md_o) (Exists.intro _ (Exists.intro _ (Exists.intro _ (Exists.intro _ (And.intro (c_X11_laysFrom D v6 f6 hv6 hf6 (0 : Int32) x1 (by omega) (by omega) (by omega)) (And.intro rfl (fun r9 A9 h9 => ?_)))))))
      obtain ⟨v9, f9, rfl, rfl, hv9, hf9, hx9, hg9_0, by8⟩ := h9
      have hw9 : f9 2 = f 2 := hx9.trans hw6
      have hu10 := hv9
      unfold md_V at hu10
      intro m11 em_37
      try have e11 : m11.toInt = (x1).toInt + (x3).toInt := by rw [em_37]; exact pm_add _ _ (by omega) (by omega)
      intro m12 em_40
      try have e12 : m12.toInt = (x2).toInt + (1) := by rw [em_40]; exact pm_addc _ _ (1) rfl (by omega) (by omega)
      refine And.intro (Exists.intro _ md_o) (Exists.intro _ (Exists.intro _ (Exists.intro _ (Exists.intro _ (And.intro (c_X11_laysFrom D v9 f9 hv9 hf9 m11 m12 (by omega) (by omega) (by omega)) (And.intro rfl (fun r9 A9 h9 => ?_)))))))
      obtain ⟨v14, f14, rfl, rfl, hv14, hf14, hx14, hg14_0, by13⟩ := h9
      have hw14 : f14 2 = f 2 := hx14.trans hw9
      have hu15 := hv14
      unfold md_V at hu15
      intro m16 em_48
      try have e16 : m16.toInt = (x1).toInt + (x3).toInt := by rw [em_48]; exact pm_add _ _ (by omega) (by omega)
      refine And.intro (Exists.intro _ md_o) (Exists.intro _ (Exists.intro _ (Exists.intro _ (Exists.intro _ (And.intro (c_X11_laysFrom D v14 f14 hv14 hf14 x1 m16 (by omega) (by omega) (by omega)) (And.intro rfl (fun r9 A9 h9 => ?_)))))))
      obtain ⟨v18, f18, rfl, rfl, hv18, hf18, hx18, hg18_0, by17⟩ := h9
      have hw18 : f18 2 = f 2 := hx18.trans hw14
      have hu19 := hv18
      unfold md_V at hu19
      intro m20 em_55
      try have e20 : m20.toInt = (x2).toInt + (1) := by rw [em_55]; exact pm_addc _ _ (1) rfl (by omega) (by omega)
      refine Exists.intro _ (And.intro md_o ?_)
      refine And.intro (Exists.intro _ md_o) (Exists.intro _ (Exists.intro _ (Exists.intro _ (Exists.intro _ (And.intro (c_X11_laysFrom D v18 f18 hv18 hf18 m20 (v18 0) (by omega) (by omega) (by omega)) (And.intro rfl (fun r9 A9 h9 => ?_)))))))
      obtain ⟨v22, f22, rfl, rfl, hv22, hf22, hx22, hg22_0, by21⟩ := h9
      have hw22 : f22 2 = f 2 := hx22.trans hw18
      have hu23 := hv22
      unfold md_V at hu23
      refine And.intro (Exists.intro _ md_o) (Exists.intro _ (Exists.intro _ (Exists.intro _ (Exists.intro _ (And.intro (c_X11_ends D v22 f22 hv22 hf22  (by omega)) (And.intro rfl (fun r9 A9 h9 => ?_)))))))
      obtain ⟨y24, v25, f25, rfl, rfl, hv25, hf25, hx25, by24⟩ := h9
      have hw25 : f25 2 = f 2 := hx25.trans hw22
      have hu26 := hv25
      unfold md_V at hu26
      exact ⟨rfl, fun e9 => absurd e9 (by decide), rfl, y24, v25, f25, rfl, rfl, hv25, hf25, hw25, by first | trivial | omega | (dsimp only; omega)⟩
    · skip
      refine And.intro (fun c9 => absurd c9 (by decide)) (fun _ => ?_)
      refine hC.1 1 22 _ _ rfl _ _ _ _ _ ?_
      have km1 : (-1 : Int32).toInt = -1 := rfl
      exact ⟨rfl, fun e9 => absurd e9 (by decide), rfl, (-1 : Int32), v, f, rfl, rfl, hv, hf, rfl, by first | trivial | omega | (dsimp only; omega)⟩
  · skip
    have k0 : (0 : Int32).toInt = 0 := rfl
    refine And.intro (fun _ => ?_) (fun c9 => absurd c9 (by decide))
    refine hC.1 1 22 _ _ rfl _ _ _ _ _ ?_
    have km1 : (-1 : Int32).toInt = -1 := rfl
    exact ⟨rfl, fun e9 => absurd e9 (by decide), rfl, (-1 : Int32), v, f, rfl, rfl, hv, hf, rfl, by first | trivial | omega | (dsimp only; omega)⟩

end
